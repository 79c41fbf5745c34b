section
-- ===== PART A: goes FIRST, ahead of the names: the tables' words, and 'selects' of the private methods out of them =====
/-- a private method of a class that the tables say can be made, by its rows of tables_1 -/
def lw_okq (q : MethodName × Nat) : Prop := (q.1.cls ≠ "java/lang/invoke/MethodHandle" ∧ q.1.cls ≠ "java/lang/invoke/VarHandle") ∧ Cond.instantiable q.1.cls q.2 ∈ tables_1 ∧ Cond.privateMethod q.1 ∈ tables_1 ∧ Cond.instanceMethod q.1 ∈ tables_1
theorem lw_p0 : lw_okq (⟨"Pickwave", "isAisle", "(I)Z"⟩, 10) := ⟨⟨by decide +kernel, by decide +kernel⟩, List.mem_of_getElem? (i := 26) (by decide +kernel), List.mem_of_getElem? (i := 184) (by decide +kernel), List.mem_of_getElem? (i := 185) (by decide +kernel)⟩
theorem lw_p1 : lw_okq (⟨"java/lang/Throwable", "fillInStackTrace", "(I)Ljava/lang/Throwable;"⟩, 6) := ⟨⟨by decide +kernel, by decide +kernel⟩, List.mem_of_getElem? (i := 228) (by decide +kernel), List.mem_of_getElem? (i := 226) (by decide +kernel), List.mem_of_getElem? (i := 227) (by decide +kernel)⟩
theorem lw_p2 : lw_okq (⟨"java/util/ArrayList", "add", "(Ljava/lang/Object;[Ljava/lang/Object;I)V"⟩, 3) := ⟨⟨by decide +kernel, by decide +kernel⟩, List.mem_of_getElem? (i := 70) (by decide +kernel), List.mem_of_getElem? (i := 309) (by decide +kernel), List.mem_of_getElem? (i := 310) (by decide +kernel)⟩
theorem lw_p3 : lw_okq (⟨"java/util/ArrayList", "grow", "()[Ljava/lang/Object;"⟩, 3) := ⟨⟨by decide +kernel, by decide +kernel⟩, List.mem_of_getElem? (i := 70) (by decide +kernel), List.mem_of_getElem? (i := 313) (by decide +kernel), List.mem_of_getElem? (i := 314) (by decide +kernel)⟩
theorem lw_p4 : lw_okq (⟨"java/util/ArrayList", "grow", "(I)[Ljava/lang/Object;"⟩, 3) := ⟨⟨by decide +kernel, by decide +kernel⟩, List.mem_of_getElem? (i := 70) (by decide +kernel), List.mem_of_getElem? (i := 317) (by decide +kernel), List.mem_of_getElem? (i := 318) (by decide +kernel)⟩
theorem lw_p5 : lw_okq (⟨"Pickwave", "findArticle", "(I)LPickwave$Article;"⟩, 10) := ⟨⟨by decide +kernel, by decide +kernel⟩, List.mem_of_getElem? (i := 26) (by decide +kernel), List.mem_of_getElem? (i := 373) (by decide +kernel), List.mem_of_getElem? (i := 374) (by decide +kernel)⟩
theorem lw_p6 : lw_okq (⟨"Pickwave", "lastScannedState", "(LPickwave$Line;)C"⟩, 10) := ⟨⟨by decide +kernel, by decide +kernel⟩, List.mem_of_getElem? (i := 26) (by decide +kernel), List.mem_of_getElem? (i := 440) (by decide +kernel), List.mem_of_getElem? (i := 441) (by decide +kernel)⟩
theorem lw_p7 : lw_okq (⟨"Pickwave", "findAisle", "(I)LPickwave$Aisle;"⟩, 10) := ⟨⟨by decide +kernel, by decide +kernel⟩, List.mem_of_getElem? (i := 26) (by decide +kernel), List.mem_of_getElem? (i := 459) (by decide +kernel), List.mem_of_getElem? (i := 460) (by decide +kernel)⟩
theorem lw_p8 : lw_okq (⟨"Pickwave", "reopenInAisle", "(LPickwave$Aisle;)V"⟩, 10) := ⟨⟨by decide +kernel, by decide +kernel⟩, List.mem_of_getElem? (i := 26) (by decide +kernel), List.mem_of_getElem? (i := 463) (by decide +kernel), List.mem_of_getElem? (i := 464) (by decide +kernel)⟩
theorem lw_p9 : lw_okq (⟨"Pickwave", "scan", "(LPickwave$Line;C)V"⟩, 10) := ⟨⟨by decide +kernel, by decide +kernel⟩, List.mem_of_getElem? (i := 26) (by decide +kernel), List.mem_of_getElem? (i := 467) (by decide +kernel), List.mem_of_getElem? (i := 468) (by decide +kernel)⟩
theorem lw_p10 : lw_okq (⟨"Pickwave", "isCarrier", "(I)Z"⟩, 10) := ⟨⟨by decide +kernel, by decide +kernel⟩, List.mem_of_getElem? (i := 26) (by decide +kernel), List.mem_of_getElem? (i := 512) (by decide +kernel), List.mem_of_getElem? (i := 513) (by decide +kernel)⟩
theorem lw_p11 : lw_okq (⟨"Pickwave", "letCome", "(LPickwave$Article;II)I"⟩, 10) := ⟨⟨by decide +kernel, by decide +kernel⟩, List.mem_of_getElem? (i := 26) (by decide +kernel), List.mem_of_getElem? (i := 518) (by decide +kernel), List.mem_of_getElem? (i := 519) (by decide +kernel)⟩
theorem lw_p12 : lw_okq (⟨"Pickwave", "findLine", "(I)LPickwave$Line;"⟩, 10) := ⟨⟨by decide +kernel, by decide +kernel⟩, List.mem_of_getElem? (i := 26) (by decide +kernel), List.mem_of_getElem? (i := 559) (by decide +kernel), List.mem_of_getElem? (i := 560) (by decide +kernel)⟩
theorem lw_p13 : lw_okq (⟨"Pickwave", "split", "(LPickwave$Line;I)I"⟩, 10) := ⟨⟨by decide +kernel, by decide +kernel⟩, List.mem_of_getElem? (i := 26) (by decide +kernel), List.mem_of_getElem? (i := 612) (by decide +kernel), List.mem_of_getElem? (i := 613) (by decide +kernel)⟩
theorem lw_p14 : lw_okq (⟨"Pickwave", "reopenOfArticle", "(LPickwave$Article;)V"⟩, 10) := ⟨⟨by decide +kernel, by decide +kernel⟩, List.mem_of_getElem? (i := 26) (by decide +kernel), List.mem_of_getElem? (i := 616) (by decide +kernel), List.mem_of_getElem? (i := 617) (by decide +kernel)⟩
theorem lw_p15 : lw_okq (⟨"Pickwave", "checkCarrier", "(I)V"⟩, 10) := ⟨⟨by decide +kernel, by decide +kernel⟩, List.mem_of_getElem? (i := 26) (by decide +kernel), List.mem_of_getElem? (i := 627) (by decide +kernel), List.mem_of_getElem? (i := 628) (by decide +kernel)⟩
def lw_privs_1 : List (MethodName × Nat) := [(⟨"Pickwave", "isAisle", "(I)Z"⟩, 10), (⟨"java/lang/Throwable", "fillInStackTrace", "(I)Ljava/lang/Throwable;"⟩, 6), (⟨"java/util/ArrayList", "add", "(Ljava/lang/Object;[Ljava/lang/Object;I)V"⟩, 3), (⟨"java/util/ArrayList", "grow", "()[Ljava/lang/Object;"⟩, 3), (⟨"java/util/ArrayList", "grow", "(I)[Ljava/lang/Object;"⟩, 3), (⟨"Pickwave", "findArticle", "(I)LPickwave$Article;"⟩, 10), (⟨"Pickwave", "lastScannedState", "(LPickwave$Line;)C"⟩, 10), (⟨"Pickwave", "findAisle", "(I)LPickwave$Aisle;"⟩, 10), (⟨"Pickwave", "reopenInAisle", "(LPickwave$Aisle;)V"⟩, 10), (⟨"Pickwave", "scan", "(LPickwave$Line;C)V"⟩, 10), (⟨"Pickwave", "isCarrier", "(I)Z"⟩, 10), (⟨"Pickwave", "letCome", "(LPickwave$Article;II)I"⟩, 10), (⟨"Pickwave", "findLine", "(I)LPickwave$Line;"⟩, 10), (⟨"Pickwave", "split", "(LPickwave$Line;I)I"⟩, 10), (⟨"Pickwave", "reopenOfArticle", "(LPickwave$Article;)V"⟩, 10), (⟨"Pickwave", "checkCarrier", "(I)V"⟩, 10)]
theorem lw_r1 : ∀ q ∈ lw_privs_1, lw_okq q := List.forall_mem_cons.mpr ⟨lw_p0, List.forall_mem_cons.mpr ⟨lw_p1, List.forall_mem_cons.mpr ⟨lw_p2, List.forall_mem_cons.mpr ⟨lw_p3, List.forall_mem_cons.mpr ⟨lw_p4, List.forall_mem_cons.mpr ⟨lw_p5, List.forall_mem_cons.mpr ⟨lw_p6, List.forall_mem_cons.mpr ⟨lw_p7, List.forall_mem_cons.mpr ⟨lw_p8, List.forall_mem_cons.mpr ⟨lw_p9, List.forall_mem_cons.mpr ⟨lw_p10, List.forall_mem_cons.mpr ⟨lw_p11, List.forall_mem_cons.mpr ⟨lw_p12, List.forall_mem_cons.mpr ⟨lw_p13, List.forall_mem_cons.mpr ⟨lw_p14, List.forall_mem_cons.mpr ⟨lw_p15, fun _ h => absurd h List.not_mem_nil⟩⟩⟩⟩⟩⟩⟩⟩⟩⟩⟩⟩⟩⟩⟩⟩
theorem lw_p16 : lw_okq (⟨"Pickwave", "promiseAll", "(III)I"⟩, 10) := ⟨⟨by decide +kernel, by decide +kernel⟩, List.mem_of_getElem? (i := 26) (by decide +kernel), List.mem_of_getElem? (i := 648) (by decide +kernel), List.mem_of_getElem? (i := 649) (by decide +kernel)⟩
theorem lw_p17 : lw_okq (⟨"Pickwave", "findRobot", "(I)LPickwave$Robot;"⟩, 10) := ⟨⟨by decide +kernel, by decide +kernel⟩, List.mem_of_getElem? (i := 26) (by decide +kernel), List.mem_of_getElem? (i := 693) (by decide +kernel), List.mem_of_getElem? (i := 694) (by decide +kernel)⟩
theorem lw_p18 : lw_okq (⟨"Pickwave", "minutesOfAWay", "(LPickwave$Aisle;)I"⟩, 10) := ⟨⟨by decide +kernel, by decide +kernel⟩, List.mem_of_getElem? (i := 26) (by decide +kernel), List.mem_of_getElem? (i := 701) (by decide +kernel), List.mem_of_getElem? (i := 702) (by decide +kernel)⟩
theorem lw_p19 : lw_okq (⟨"Pickwave", "hasRobotIn", "(LPickwave$Aisle;)Z"⟩, 10) := ⟨⟨by decide +kernel, by decide +kernel⟩, List.mem_of_getElem? (i := 26) (by decide +kernel), List.mem_of_getElem? (i := 705) (by decide +kernel), List.mem_of_getElem? (i := 706) (by decide +kernel)⟩
theorem lw_p20 : lw_okq (⟨"PickwaveModel", "fails", "(I)I"⟩, 24) := ⟨⟨by decide +kernel, by decide +kernel⟩, List.mem_of_getElem? (i := 770) (by decide +kernel), List.mem_of_getElem? (i := 861) (by decide +kernel), List.mem_of_getElem? (i := 862) (by decide +kernel)⟩
theorem lw_p21 : lw_okq (⟨"PickwaveModel", "isArticle", "(I)Z"⟩, 24) := ⟨⟨by decide +kernel, by decide +kernel⟩, List.mem_of_getElem? (i := 770) (by decide +kernel), List.mem_of_getElem? (i := 869) (by decide +kernel), List.mem_of_getElem? (i := 870) (by decide +kernel)⟩
theorem lw_p22 : lw_okq (⟨"PickwaveModel", "rest", "(I)I"⟩, 24) := ⟨⟨by decide +kernel, by decide +kernel⟩, List.mem_of_getElem? (i := 770) (by decide +kernel), List.mem_of_getElem? (i := 881) (by decide +kernel), List.mem_of_getElem? (i := 882) (by decide +kernel)⟩
theorem lw_p23 : lw_okq (⟨"PickwaveModel", "hold", "(I)I"⟩, 24) := ⟨⟨by decide +kernel, by decide +kernel⟩, List.mem_of_getElem? (i := 770) (by decide +kernel), List.mem_of_getElem? (i := 885) (by decide +kernel), List.mem_of_getElem? (i := 886) (by decide +kernel)⟩
theorem lw_p24 : lw_okq (⟨"PickwaveModel", "isAisle", "(I)Z"⟩, 24) := ⟨⟨by decide +kernel, by decide +kernel⟩, List.mem_of_getElem? (i := 770) (by decide +kernel), List.mem_of_getElem? (i := 902) (by decide +kernel), List.mem_of_getElem? (i := 903) (by decide +kernel)⟩
theorem lw_p25 : lw_okq (⟨"PickwaveModel", "opens", "(I)V"⟩, 24) := ⟨⟨by decide +kernel, by decide +kernel⟩, List.mem_of_getElem? (i := 770) (by decide +kernel), List.mem_of_getElem? (i := 906) (by decide +kernel), List.mem_of_getElem? (i := 907) (by decide +kernel)⟩
theorem lw_p26 : lw_okq (⟨"PickwaveModel", "notes", "(IC)V"⟩, 24) := ⟨⟨by decide +kernel, by decide +kernel⟩, List.mem_of_getElem? (i := 770) (by decide +kernel), List.mem_of_getElem? (i := 910) (by decide +kernel), List.mem_of_getElem? (i := 911) (by decide +kernel)⟩
theorem lw_p27 : lw_okq (⟨"PickwaveModel", "shelves", "(II)I"⟩, 24) := ⟨⟨by decide +kernel, by decide +kernel⟩, List.mem_of_getElem? (i := 770) (by decide +kernel), List.mem_of_getElem? (i := 922) (by decide +kernel), List.mem_of_getElem? (i := 923) (by decide +kernel)⟩
theorem lw_p28 : lw_okq (⟨"PickwaveModel", "adds", "(III)I"⟩, 24) := ⟨⟨by decide +kernel, by decide +kernel⟩, List.mem_of_getElem? (i := 770) (by decide +kernel), List.mem_of_getElem? (i := 934) (by decide +kernel), List.mem_of_getElem? (i := 935) (by decide +kernel)⟩
theorem lw_p29 : lw_okq (⟨"PickwaveModel", "isOrder", "(I)Z"⟩, 24) := ⟨⟨by decide +kernel, by decide +kernel⟩, List.mem_of_getElem? (i := 770) (by decide +kernel), List.mem_of_getElem? (i := 942) (by decide +kernel), List.mem_of_getElem? (i := 943) (by decide +kernel)⟩
theorem lw_p30 : lw_okq (⟨"PickwaveModel", "isCarrier", "(I)Z"⟩, 24) := ⟨⟨by decide +kernel, by decide +kernel⟩, List.mem_of_getElem? (i := 770) (by decide +kernel), List.mem_of_getElem? (i := 971) (by decide +kernel), List.mem_of_getElem? (i := 972) (by decide +kernel)⟩
theorem lw_p31 : lw_okq (⟨"PickwaveModel", "isRobot", "(I)Z"⟩, 24) := ⟨⟨by decide +kernel, by decide +kernel⟩, List.mem_of_getElem? (i := 770) (by decide +kernel), List.mem_of_getElem? (i := 999) (by decide +kernel), List.mem_of_getElem? (i := 1000) (by decide +kernel)⟩
def lw_privs_2 : List (MethodName × Nat) := [(⟨"Pickwave", "promiseAll", "(III)I"⟩, 10), (⟨"Pickwave", "findRobot", "(I)LPickwave$Robot;"⟩, 10), (⟨"Pickwave", "minutesOfAWay", "(LPickwave$Aisle;)I"⟩, 10), (⟨"Pickwave", "hasRobotIn", "(LPickwave$Aisle;)Z"⟩, 10), (⟨"PickwaveModel", "fails", "(I)I"⟩, 24), (⟨"PickwaveModel", "isArticle", "(I)Z"⟩, 24), (⟨"PickwaveModel", "rest", "(I)I"⟩, 24), (⟨"PickwaveModel", "hold", "(I)I"⟩, 24), (⟨"PickwaveModel", "isAisle", "(I)Z"⟩, 24), (⟨"PickwaveModel", "opens", "(I)V"⟩, 24), (⟨"PickwaveModel", "notes", "(IC)V"⟩, 24), (⟨"PickwaveModel", "shelves", "(II)I"⟩, 24), (⟨"PickwaveModel", "adds", "(III)I"⟩, 24), (⟨"PickwaveModel", "isOrder", "(I)Z"⟩, 24), (⟨"PickwaveModel", "isCarrier", "(I)Z"⟩, 24), (⟨"PickwaveModel", "isRobot", "(I)Z"⟩, 24)]
theorem lw_r2 : ∀ q ∈ lw_privs_2, lw_okq q := List.forall_mem_cons.mpr ⟨lw_p16, List.forall_mem_cons.mpr ⟨lw_p17, List.forall_mem_cons.mpr ⟨lw_p18, List.forall_mem_cons.mpr ⟨lw_p19, List.forall_mem_cons.mpr ⟨lw_p20, List.forall_mem_cons.mpr ⟨lw_p21, List.forall_mem_cons.mpr ⟨lw_p22, List.forall_mem_cons.mpr ⟨lw_p23, List.forall_mem_cons.mpr ⟨lw_p24, List.forall_mem_cons.mpr ⟨lw_p25, List.forall_mem_cons.mpr ⟨lw_p26, List.forall_mem_cons.mpr ⟨lw_p27, List.forall_mem_cons.mpr ⟨lw_p28, List.forall_mem_cons.mpr ⟨lw_p29, List.forall_mem_cons.mpr ⟨lw_p30, List.forall_mem_cons.mpr ⟨lw_p31, fun _ h => absurd h List.not_mem_nil⟩⟩⟩⟩⟩⟩⟩⟩⟩⟩⟩⟩⟩⟩⟩⟩
def lw_privs : List (MethodName × Nat) := lw_privs_1 ++ (lw_privs_2)
def lw_tbl : List Cond := k2_sels lw_privs ++ tables_1
theorem lw_privs_ok : ∀ q ∈ lw_privs, lw_okq q := by
  show ∀ q ∈ lw_privs_1 ++ (lw_privs_2), lw_okq q
  exact List.forall_mem_append.mpr ⟨lw_r1, lw_r2⟩
/-- the streams that the claim lets the run draw from -/
abbrev lw_cs : List Choice := [Jvm.Choice.named "NaN.bits"]
theorem lw_bits : nanBits ∈ lw_cs := by first | decide | exact List.mem_cons_self | simp [lw_cs, nanBits]

/-! ===== BEGIN words of one list among another's, by their places ===== -/
theorem goodIn_r {big : List Cond} (ws : List Cond) (ps : List Nat) (hp : ws = ps.filterMap (fun i => big[i]?)) (h : ws.all goodWord = true) : GoodIn big ws := by
  intro w hw
  have h1 := List.all_eq_true.mp h w hw
  rw [hp] at hw
  obtain ⟨i, -, hi⟩ := List.mem_filterMap.mp hw
  have hm : w ∈ big := by first | exact List.mem_of_getElem? hi | exact List.getElem?_mem hi
  exact ⟨hm, good_of_word h1⟩
theorem goodIn_app {big a b : List Cond} (ha : GoodIn big a) (hb : GoodIn big b) : GoodIn big (a ++ b) := fun w h => (List.mem_append.mp h).elim (ha w) (hb w)
theorem goodIn_ca {big a b : List Cond} {c : Cond} (ha : GoodIn big (c :: a)) (hb : GoodIn big b) : GoodIn big (c :: (a ++ b)) := fun w h => (List.mem_cons.mp h).elim (fun e => ha w (List.mem_cons.mpr (Or.inl e))) (fun h => (List.mem_append.mp h).elim (fun h => ha w (List.mem_cons.mpr (Or.inr h))) (hb w))
theorem goodIn_sub {big ws : List Cond} (hm : ∀ w ∈ ws, w ∈ big) (h : ws.all goodWord = true) : GoodIn big ws := fun w hw => ⟨hm w hw, good_of_word (List.all_eq_true.mp h w hw)⟩
/-! ===== END ===== -/

/-! ===== BEGIN exceptions that leave a method, and their catching by the caller (launches without stack traces) ===== -/
section VXA
/-! The laws vx_back, vx_callV, vx_callS, vx_callSW, vx_throw0, vx_throwS follow proofs of the library, with one case more: JvmDerived/Free/Laws.lean (Back.of_free), Shelf42/LK1.lean (callV, callS), Shelf/KitTraced.lean (throwNew0V, throwNewS). -/
/-- where a method has thrown q: the class by its name, the cell, what was written, the world -/
def vx_T (XC : String → State → State → Prop) (st : State) (q : Addr) (t : State) (mc ms : Nat) (free : Addr → Prop) : Prop :=
  ∃ (E : String) (ce : Cell) (L : List Loc), XC E st t ∧ t.heap[q]? = some ce ∧ ce.vm = .none ∧ st.vm.findClass E = some ce.cls ∧ st.WarmedH t.vm ∧ st.sameButNew ({ t with vm := st.vm } : State) L mc ms ∧ ∀ z ∈ L, free z.base
def vx_Q (Qc : Array Value → State → Outcome → State → Prop) (XC : String → State → State → Prop) (mc ms : Nat) (free : Addr → Prop) : Array Value → State → Outcome → State → Prop := fun a st o t =>
  (Qc a st o t ∧ ∃ L, FrameEnd st o t L mc ms ∧ ∀ q ∈ L, free q.base) ∨ ∃ q, o = .threw q ∧ vx_T XC st q t mc ms free
/-- a callee that returns or throws -/
def vx_Met (l : Launch) (y : MethodName) (ws : List Cond) (rm : Room) (Pc : Array Value → State → Prop) (Qc : Array Value → State → Outcome → State → Prop) (XC : String → State → State → Prop) (mc ms : Nat) (free : Addr → Prop) : Prop :=
  MetFree l y (headSpec ws rm) Pc (fun _ _ _ _ _ => True) (vx_Q Qc XC mc ms free)
def vx_Post (XC : String → State → State → Prop) (mc ms : Nat) (free : Addr → Prop) : Pt → Array Value → Addr → Pt → Prop := fun A a q B =>
  ∃ (g : JFrame) (mk : MethodId) (t : State) (L : List Loc) (E : String) (ce : Cell), B.U.heap = t.heap ∧ B.U.vm = t.vm ∧ XC E (A.U.calling g mk a) t ∧ t.heap[q]? = some ce ∧ ce.vm = .none ∧ A.U.vm.findClass E = some ce.cls ∧ B.locs = A.locs ++ L ∧ (∀ z ∈ L, free z.base) ∧ B.cells = A.cells + mc ∧ B.slots = A.slots + ms
def vx_Back (l : Launch) (R : Room) (p : Program) (e : Env) (below : List Frame) (s : State) (sargs : Array Value) (y : MethodName) (len W9 : Nat)
    (Pre : Pt → Array Value → Prop) (Post : Pt → Array Value → Option Value → Pt → Prop) (PostX : Pt → Array Value → Addr → Pt → Prop) : Prop :=
  ∀ (m : MethodId) (meth : Method) (c : Code) (A : Pt) (g : JFrame) (ig : Instr) (mk : MethodId) (a : Array Value),
    Stand p l e R s m sargs below meth c A.U A.locs A.cells A.slots → g.method = m → g.locals.size = c.maxLocals → decode c.code g.pc = .ok (ig, len) →
    2 * g.monitorRoom + (g.stack.map fun v => v.category).sum ≤ W9 → A.U.methodNamed? y = some mk → Pre A a →
    (∃ (v : Option Value) (B : Pt), Stand p l e R s m sargs below meth c B.U B.locs B.cells B.slots ∧ Post A a v B ∧
      Steps p.tables e below (doInvoke e (A.U.setTop g) [] mk a).1 (B.U.setTop { g with pc := g.pc + len, stack := v.toList ++ g.stack })) ∨
    (∃ (q : Addr) (B : Pt), Stand p l e R s m sargs below meth c B.U B.locs B.cells B.slots ∧ PostX A a q B ∧
      Steps p.tables e below (doInvoke e (A.U.setTop g) [] mk a).1 ((B.U.setTop g).pushFrame (.throwing q)))
section Payer
variable {l : Launch} {R : Room} {p : Program} {e : Env} {below : List Frame} {s : State} {sargs : Array Value} {y : MethodName} {len W9 : Nat}
theorem vx_back {ws : List Cond} {rm : Room} {Pc : Array Value → State → Prop} {Qc : Array Value → State → Outcome → State → Prop} {XC : String → State → State → Prop} {mc ms : Nat} {free : Addr → Prop} {bytes : ByteArray} {maxL : Nat} {ret : Option FieldType}
    (hM : vx_Met l y ws rm Pc Qc XC mc ms free) (hblind : FrameBlind Pc) (hrc : rm.cells = mc) (hrs : rm.slots = ms)
    (hframes : rm.frames + 1 ≤ R.frames) (hlocals : W9 + (maxL + 11) + rm.locals ≤ R.locals)
    (hws : ∀ w ∈ ws, ∀ a' U, s.WarmedH U.vm → w.before a' U = true) (hcode : Cond.code y bytes maxL ret ∈ ws) (hinit : ∀ a' U, s.WarmedH U.vm → (Cond.initialized y.cls).before a' U = true) :
    vx_Back l R p e below s sargs y len W9 (PreOf R mc ms Pc) (PostOf Qc mc ms free) (vx_Post XC mc ms free) := by
  intro m meth c A g ig mk a X hg hsize hdg hW hn hp
  have h1 : (headSpec ws rm).pre.before a A.U = true := atoms_intro fun w hw => hws w hw _ _ X.warmed
  have h2 : (Cond.code y bytes maxL ret).before a A.U = true := hws _ hcode _ _ X.warmed
  have h3 : (Cond.initialized y.cls).before a A.U = true := hinit _ _ X.warmed
  have h4 : A.cells + (headSpec ws rm).room.cells ≤ R.cells := by rw [show (headSpec ws rm).room.cells = mc from hrc]; exact hp.1
  have h5 : A.slots + (headSpec ws rm).room.slots ≤ R.slots := by rw [show (headSpec ws rm).room.slots = ms from hrs]; exact hp.2.1
  have hPc : Pc a (A.U.calling g mk a) := hblind _ _ _ _ hp.2.2
  obtain ⟨U, Ls, c0, s0⟩ := A
  dsimp only [Pt.U, Pt.locs, Pt.cells, Pt.slots] at h1 h2 h3 h4 h5 X hn hPc ⊢
  obtain ⟨methY, cY, hmY, hcY, -, hlY, -, -, -, -⟩ := Cond.code_spec hn h2
  obtain ⟨kY, hkY, -⟩ := className_of_methodNamed hn
  have hinitY : kY.init = .initialized := Cond.initialized_spec (findClass_of_methodNamed hn) hkY h3
  have h : At U g.method c below := by rw [hg]; exact X.here
  have hlocals9 : W9 + (maxL + 11) + (headSpec ws rm).room.locals ≤ R.locals := hlocals
  have happ : (headSpec ws rm).appliesLoose y e.platform (U.calling g mk a) = true :=
    Spec.appliesLoose_calling (g := g) h hdg hn hkY hinitY
      (X.room_calling (g := g) (R' := (headSpec ws rm).room) hsize hmY hcY hframes (by rw [hlY]; omega) h4 h5) h1
  obtain ⟨mid, hmid⟩ := h.above
  have hfr : (U.setTop g).frames = (.java g :: mid) ++ below := by rw [State.frames_setTop' g h.top, hmid]; rfl
  obtain ⟨o, s₂, hsteps, -, hend, hq⟩ := Steps.callFree hM p X.admits X.cas X.clock (acts := []) hfr happ hPc trivial
  have hq' : vx_Q Qc XC mc ms free a (U.calling g mk a) o s₂ := hq
  rw [State.frames_setTop' g h.top] at hend
  obtain ⟨g₀, hg0⟩ := Option.isSome_iff_exists.mp h.top
  obtain ⟨r, hr⟩ := State.topJava?_eq_some.mp hg0
  have hr' : (({ U with heap := s₂.heap, slotsUsed := s₂.slotsUsed } : State).setVm s₂.vm).frames = .java g₀ :: r := hr
  rcases hq' with ⟨hqc, L, hfe, hL⟩ | ⟨q, rfl, E, ce, L, hx, hce, hcv, hcl, hW₂, hsm, hL⟩
  · obtain ⟨⟨v, rfl⟩, hW₂, e2, q2, q3, q4, q5, q6⟩ := id hfe
    have e3 : s₂ = ({ (U.calling g mk a).setFrames s₂.frames with heap := s₂.heap, slotsUsed := s₂.slotsUsed } : State).setVm s₂.vm := by
      have : s₂ = ({ s₂ with vm := (U.calling g mk a).vm } : State).setVm s₂.vm := rfl
      rw [e2] at this
      exact this
    obtain ⟨c₂, i₂, len₂, hc₂, hd₂, hf₂⟩ := hend
    have hW' : U.WarmedH s₂.vm := hW₂
    have hcc : c₂ = c := by
      have h1 : s₂.code? g.method = U.code? g.method := by
        rw [State.code?_eq, State.code?_eq, hW'.alike.method?]
      exact Option.some.inj (hc₂.symm.trans (h1.trans h.code))
    subst hcc
    have hlen : len₂ = len := by rw [hdg] at hd₂; cases hd₂; rfl
    subst hlen
    have hs₂ : s₂ = (({ U with heap := s₂.heap, slotsUsed := s₂.slotsUsed } : State).setVm s₂.vm).setTop { g with pc := g.pc + len₂, stack := v.toList ++ g.stack } := by
      refine e3.trans ?_
      rw [hf₂, State.calling_eq h.top, State.setFrames_setFrames, State.setTop_of_frames _ hr', hr]
      rfl
    have hsame : U.sameButNew ({ U with heap := s₂.heap, slotsUsed := s₂.slotsUsed } : State) L mc ms := by
      refine ⟨?_, q2, q3, q4, q5, q6⟩
      obtain ⟨t, ht, -⟩ := State.frames_cons hr
      show ({ U with heap := s₂.heap, slotsUsed := s₂.slotsUsed } : State) = { U.setFrames U.frames with heap := s₂.heap, slotsUsed := s₂.slotsUsed }
      rw [State.setFrames_self ht]
    subst hg
    refine Or.inl ⟨v, ⟨(({ U with heap := s₂.heap, slotsUsed := s₂.slotsUsed } : State).setVm s₂.vm), Ls ++ L, c0 + mc, s0 + ms⟩,
      ⟨X.admits, X.cas, X.clock, X.frames, X.room, X.hears, X.method, X.code, (X.here.setHeapUsed s₂.heap s₂.slotsUsed).setVm hW'.alike, X.tail, State.WarmedH.trans X.warmed hW', X.limits, X.bytes, X.same.trans (hsame.setVm s.vm)⟩,
      ⟨g, mk, s₂, L, rfl, rfl, hqc, rfl, hL, rfl, rfl⟩, ?_⟩
    show Steps p.tables e below _ ((({ U with heap := s₂.heap, slotsUsed := s₂.slotsUsed } : State).setVm s₂.vm).setTop { g with pc := g.pc + len₂, stack := v.toList ++ g.stack })
    rw [← hs₂]
    exact hsteps
  · obtain ⟨e2, q2, q3, q4, q5, q6⟩ := id hsm
    have e3 : s₂ = ({ (U.calling g mk a).setFrames s₂.frames with heap := s₂.heap, slotsUsed := s₂.slotsUsed } : State).setVm s₂.vm := by
      have : s₂ = ({ s₂ with vm := (U.calling g mk a).vm } : State).setVm s₂.vm := rfl
      rw [e2] at this
      exact this
    have hf₂ : s₂.frames = .throwing q :: .java g :: U.frames.tail := hend
    have hW' : U.WarmedH s₂.vm := hW₂
    have hs₂ : s₂ = ((({ U with heap := s₂.heap, slotsUsed := s₂.slotsUsed } : State).setVm s₂.vm).setTop g).pushFrame (.throwing q) := by
      refine e3.trans ?_
      rw [hf₂, State.calling_eq h.top, State.setFrames_setFrames, State.pushFrame, State.frames_setTop _ hr', State.setTop_of_frames _ hr', State.setFrames_setFrames, hr]
      rfl
    have hsame : U.sameButNew ({ U with heap := s₂.heap, slotsUsed := s₂.slotsUsed } : State) L mc ms := by
      refine ⟨?_, q2, q3, q4, q5, q6⟩
      obtain ⟨t, ht, -⟩ := State.frames_cons hr
      show ({ U with heap := s₂.heap, slotsUsed := s₂.slotsUsed } : State) = { U.setFrames U.frames with heap := s₂.heap, slotsUsed := s₂.slotsUsed }
      rw [State.setFrames_self ht]
    subst hg
    refine Or.inr ⟨q, ⟨(({ U with heap := s₂.heap, slotsUsed := s₂.slotsUsed } : State).setVm s₂.vm), Ls ++ L, c0 + mc, s0 + ms⟩,
      ⟨X.admits, X.cas, X.clock, X.frames, X.room, X.hears, X.method, X.code, (X.here.setHeapUsed s₂.heap s₂.slotsUsed).setVm hW'.alike, X.tail, State.WarmedH.trans X.warmed hW', X.limits, X.bytes, X.same.trans (hsame.setVm s.vm)⟩,
      ⟨g, mk, s₂, L, E, ce, rfl, rfl, hx, hce, hcv, hcl, rfl, hL, rfl, rfl⟩, ?_⟩
    show Steps p.tables e below _ (((({ U with heap := s₂.heap, slotsUsed := s₂.slotsUsed } : State).setVm s₂.vm).setTop g).pushFrame (.throwing q))
    rw [← hs₂]
    exact hsteps
end Payer
section Calls
variable {p : Program} {l : Launch} {e : Env} {R : Room} {s : State} {m : MethodId} {args : Array Value} {below : List Frame} {meth : Method} {c : Code} {T : State} {locs : List Loc} {cells slots : Nat}
theorem vx_callV (X : Stand p l e R s m args below meth c T locs cells slots) (hexec : p.tables.exec = Jvm.exec) {own C : String} {index : Nat} {y : MethodName} {bytes : ByteArray} {maxL : Nat} {ret : Option FieldType}
    (hown : s.vm.findClass own = some m.cls) (hlink : (Cond.methodLink own index y).before args s = true) (hinst : (Cond.instanceMethod y).before args s = true) (hsel : (Cond.selects C y y).before args s = true)
    (hcode : (Cond.code y bytes maxL ret).before args s = true) (hy : y.cls ≠ "java/lang/invoke/MethodHandle" ∧ y.cls ≠ "java/lang/invoke/VarHandle")
    {W9 : Nat} {Pre : Pt → Array Value → Prop} {Post : Pt → Array Value → Option Value → Pt → Prop} {PostX : Pt → Array Value → Addr → Pt → Prop} (hK : vx_Back l R p e below s args y 3 W9 Pre Post PostX)
    {b : Addr} {cellB : Cell} (hcell : T.heap[b]? = some cellB) (hobj : cellB.vm.isStatics = false) (hcls : s.vm.findClass C = some cellB.cls)
    {g : JFrame} (hg : g.method = m) (hsize : g.locals.size = c.maxLocals) {argsL rest : List Value} (hlen : ∀ sig, parseMethodDescriptor y.desc = some sig → argsL.length = sig.parameters.length)
    (hstack : g.stack = argsL.reverse ++ .ref b :: rest) (hW : 2 * g.monitorRoom + (rest.map fun v => v.category).sum ≤ W9) (hdg : decode c.code g.pc = .ok (.invokevirtual index, 3))
    (hpre : ∀ vm₁, s.WarmedH vm₁ → Pre ⟨T.setVm vm₁, locs, cells, slots⟩ (Value.ref b :: argsL).toArray) :
    (∃ (v : Option Value) (vm₁ : Vm) (B : Pt), s.WarmedH vm₁ ∧ Stand p l e R s m args below meth c B.U B.locs B.cells B.slots ∧ Post ⟨T.setVm vm₁, locs, cells, slots⟩ (Value.ref b :: argsL).toArray v B ∧
      ∀ target, Steps p.tables e below (B.U.setTop { g with pc := g.pc + 3, stack := v.toList ++ rest }) target → Steps p.tables e below (T.setTop g) target) ∨
    (∃ (q : Addr) (vm₁ : Vm) (B : Pt), s.WarmedH vm₁ ∧ Stand p l e R s m args below meth c B.U B.locs B.cells B.slots ∧ PostX ⟨T.setVm vm₁, locs, cells, slots⟩ (Value.ref b :: argsL).toArray q B ∧
      Steps p.tables e below (T.setTop g) ((B.U.setTop { g with stack := rest }).pushFrame (.throwing q))) := by
  obtain ⟨mk, methM, hnamed, hmethM, hstM, habM⟩ := Cond.instanceMethod_spec hinst
  obtain ⟨methM', cM, hmethM', -, -, -, -, -, -, hsigM⟩ := Cond.code_spec hnamed hcode
  cases hmethM.symm.trans hmethM'
  obtain ⟨c2, r2, m2, q1, q2, q3, q4, kP, hkP, hkPi⟩ := Cond.selects_spec hsel
  cases hcls.symm.trans q1
  cases (State.methodFound?_of_named hnamed hy).symm.trans q2
  cases hnamed.symm.trans q3
  have hselP : selectMethod e.platform s.vm cellB.cls mk = .method mk := by rw [Launch.admits_selectMethod X.admits]; exact q4
  obtain ⟨vm₁, X₁, hstep₁⟩ := X.invokevirtual hexec hown hlink hnamed hmethM hstM hkP hkPi hy (a := b) (cell := cellB) hcell
    (fun z h => by rw [h] at hobj; cases hobj) hselP hmethM habM hkP hkPi (g := g) hg (argsL := argsL) (rest := rest) (hlen _ hsigM) hstack hdg
  rcases hK m meth c ⟨T.setVm vm₁, locs, cells, slots⟩ { g with stack := rest } (.invokevirtual index) mk (Value.ref b :: argsL).toArray X₁ hg hsize hdg hW (X₁.named hnamed) (hpre vm₁ X₁.warmed) with ⟨v, B, X', hpost, hsteps⟩ | ⟨q, B, X', hpost, hsteps⟩
  · exact Or.inl ⟨v, vm₁, B, X₁.warmed, X', hpost, fun target h => hstep₁ _ fun acts => by rw [doInvoke_state]; exact hsteps.trans h⟩
  · exact Or.inr ⟨q, vm₁, B, X₁.warmed, X', hpost, hstep₁ _ fun acts => by rw [doInvoke_state]; exact hsteps⟩
theorem vx_callS (X : Stand p l e R s m args below meth c T locs cells slots) (hexec : p.tables.exec = Jvm.exec) {own : String} {index : Nat} {y : MethodName} {bytes : ByteArray} {maxL : Nat} {ret : Option FieldType}
    (hown : s.vm.findClass own = some m.cls) (hlink : (Cond.methodLink own index y).before args s = true) (hstat : (Cond.static y).before args s = true) (hinit : (Cond.initialized y.cls).before args s = true)
    (hcode : (Cond.code y bytes maxL ret).before args s = true) (hy : y.cls ≠ "java/lang/invoke/MethodHandle" ∧ y.cls ≠ "java/lang/invoke/VarHandle")
    {W9 : Nat} {Pre : Pt → Array Value → Prop} {Post : Pt → Array Value → Option Value → Pt → Prop} {PostX : Pt → Array Value → Addr → Pt → Prop} (hK : vx_Back l R p e below s args y 3 W9 Pre Post PostX)
    {g : JFrame} (hg : g.method = m) (hsize : g.locals.size = c.maxLocals) {argsL rest : List Value} (hlen : ∀ sig, parseMethodDescriptor y.desc = some sig → argsL.length = sig.parameters.length)
    (hstack : g.stack = argsL.reverse ++ rest) (hW : 2 * g.monitorRoom + (rest.map fun v => v.category).sum ≤ W9) (hdg : decode c.code g.pc = .ok (.invokestatic index, 3))
    (hpre : ∀ vm₁, s.WarmedH vm₁ → Pre ⟨T.setVm vm₁, locs, cells, slots⟩ argsL.toArray) :
    (∃ (v : Option Value) (vm₁ : Vm) (B : Pt), s.WarmedH vm₁ ∧ Stand p l e R s m args below meth c B.U B.locs B.cells B.slots ∧ Post ⟨T.setVm vm₁, locs, cells, slots⟩ argsL.toArray v B ∧
      ∀ target, Steps p.tables e below (B.U.setTop { g with pc := g.pc + 3, stack := v.toList ++ rest }) target → Steps p.tables e below (T.setTop g) target) ∨
    (∃ (q : Addr) (vm₁ : Vm) (B : Pt), s.WarmedH vm₁ ∧ Stand p l e R s m args below meth c B.U B.locs B.cells B.slots ∧ PostX ⟨T.setVm vm₁, locs, cells, slots⟩ argsL.toArray q B ∧
      Steps p.tables e below (T.setTop g) ((B.U.setTop { g with stack := rest }).pushFrame (.throwing q))) := by
  obtain ⟨mk, hnamed⟩ := Cond.code_named hcode
  obtain ⟨methM, cM, hmethM, -, -, -, -, -, -, hsigM⟩ := Cond.code_spec hnamed hcode
  have hstatic : methM.isStatic = true := Cond.static_spec hnamed hmethM hstat
  obtain ⟨kP, hkP, -⟩ := className_of_methodNamed hnamed
  have hinitP : kP.init = .initialized := Cond.initialized_spec (findClass_of_methodNamed hnamed) hkP hinit
  obtain ⟨vm₁, X₁, hstep₁⟩ := X.invokestatic hexec hown hlink hnamed hmethM hstatic hkP hinitP hy (g := g) hg (argsL := argsL) (rest := rest) (hlen _ hsigM) hstack hdg
  rcases hK m meth c ⟨T.setVm vm₁, locs, cells, slots⟩ { g with stack := rest } (.invokestatic index) mk argsL.toArray X₁ hg hsize hdg hW (X₁.named hnamed) (hpre vm₁ X₁.warmed) with ⟨v, B, X', hpost, hsteps⟩ | ⟨q, B, X', hpost, hsteps⟩
  · exact Or.inl ⟨v, vm₁, B, X₁.warmed, X', hpost, fun target h => hstep₁ _ fun acts => by rw [doInvoke_state]; exact hsteps.trans h⟩
  · exact Or.inr ⟨q, vm₁, B, X₁.warmed, X', hpost, hstep₁ _ fun acts => by rw [doInvoke_state]; exact hsteps⟩
end Calls
theorem vx_cls {s : State} {T : State} {vm₁ : Vm} {E : String} {k : ClassId} (hW : s.WarmedH vm₁) (h : (T.setVm vm₁).vm.findClass E = some k) : s.vm.findClass E = some k := by
  have h1 : vm₁.findClass E = some k := h
  rw [hW.alike.findClass] at h1
  exact h1
/-- the method's frame g, with q thrown over it -/
def vx_W (p : Program) (l : Launch) (e : Env) (R : Room) (s : State) (m : MethodId) (args : Array Value) (below : List Frame) (meth : Method) (c : Code) (H : Heap) (locs : List Loc) (cells slots : Nat) (Q : State → Prop) (g : JFrame) (q : Addr) : Prop :=
  ∀ T : State, T.heap = H → Stand p l e R s m args below meth c T locs cells slots → ∃ t, Steps p.tables e below ((T.setTop g).pushFrame (.throwing q)) t ∧ Q t
def vx_Run (p : Program) (l : Launch) (e : Env) (R : Room) (s : State) (m : MethodId) (args : Array Value) (below : List Frame) (meth : Method) (c : Code) (H : Heap) (locs : List Loc) (cells slots mc ms : Nat) (g : JFrame) (rest : List Value) (Qa : State → Outcome → State → Prop) (XC : String → State → State → Prop) (free : Addr → Prop) : Prop :=
  ∀ T : State, T.heap = H → Stand p l e R s m args below meth c T locs cells slots →
    (∃ (v : Option Value) (st₀ t T' : State) (L : List Loc), st₀.heap = H ∧ Stand p l e R s m args below meth c T' (locs ++ L) (cells + mc) (slots + ms) ∧ (∀ q ∈ L, free q.base) ∧ T'.heap = t.heap ∧ T'.vm = t.vm ∧ Qa st₀ (.returned v) t ∧
      Goes p e below T g T' { g with pc := g.pc + 3, stack := v.toList ++ rest }) ∨
    (∃ (q : Addr) (st₀ t T' : State) (L : List Loc) (E : String) (ce : Cell), st₀.heap = H ∧ Stand p l e R s m args below meth c T' (locs ++ L) (cells + mc) (slots + ms) ∧ (∀ z ∈ L, free z.base) ∧ T'.heap = t.heap ∧ T'.vm = t.vm ∧ XC E st₀ t ∧ t.heap[q]? = some ce ∧ ce.vm = .none ∧ s.vm.findClass E = some ce.cls ∧
      Steps p.tables e below (T.setTop g) ((T'.setTop { g with stack := rest }).pushFrame (.throwing q)))
def vx_X {S : Type} (px : S → Prop) (B : String → S → State → Prop) (A : Nat → Prop) : String → State → State → Prop := fun E st t => ∃ u : S, px u ∧ B E u t ∧ va_F A st t
section Runs
variable {p : Program} {l : Launch} {e : Env} {R : Room} {s : State} {m : MethodId} {args : Array Value} {below : List Frame} {meth : Method} {c : Code} {H : Heap} {locs : List Loc} {cells slots : Nat}
variable {y : MethodName} {bytes cc : ByteArray} {maxL nL mc ms n index : Nat} {ret : Option FieldType} {ws : List Cond} {rm : Room} {Pc : Array Value → State → Prop} {Qc : Array Value → State → Outcome → State → Prop} {XC : String → State → State → Prop} {free : Addr → Prop} {Ts : List Cond} {own C : String} {b : Addr} {As rest : List Value} {g : JFrame}
theorem vx_callBack (cb : CallB R s args own index y bytes maxL ret ws rm mc ms n) (hM : vx_Met l y ws rm Pc Qc XC mc ms free) (hbl : FrameBlind Pc) : vx_Back l R p e below s args y 3 8 (PreOf R mc ms Pc) (PostOf Qc mc ms free) (vx_Post XC mc ms free) := by
  obtain ⟨hrc, hrs, hfr, hlo, hws, hcw, -, hini, -⟩ := cb
  exact vx_back (bytes := bytes) (maxL := maxL) (ret := ret) hM hbl hrc hrs hfr hlo hws hcw (fun a' U hW => word_at hW (Or.inl (by first | rfl | simp [Cond.onTables, Cond.keeps, Cond.steady])) hini)
theorem vx_runV (S : CallFix p m c cc nL s args Ts own) (hM : vx_Met l y ws rm Pc Qc XC mc ms free) (cw : CallW R s args own C index y bytes maxL ret ws rm mc ms n) (hp : PreV s H C b Pc As)
    (hg : g.method = m) (hn : As.length = n) (hsize : g.locals.size = nL) (hstack : g.stack = As.reverse ++ .ref b :: rest) (hW : 2 * g.monitorRoom + (rest.map fun v => v.category).sum ≤ 8) (hdg : decode cc g.pc = .ok (.invokevirtual index, 3)) (hf : cells + mc ≤ R.cells ∧ slots + ms ≤ R.slots) :
    vx_Run p l e R s m args below meth c H locs cells slots mc ms g rest (Qc (Value.ref b :: As).toArray) XC free := by
  have hK : vx_Back l R p e below s args y 3 8 (PreOf R mc ms Pc) (PostOf Qc mc ms free) (vx_Post XC mc ms free) := vx_callBack cw.1 hM hp.1
  obtain ⟨⟨-, -, -, -, -, -, hcode, -, hy, hlen, hl⟩, hin, hse⟩ := cw
  obtain ⟨hx, hb, hml, ho, -⟩ := S
  obtain ⟨-, ⟨cellB, hcB, hoB, hclB⟩, hPc⟩ := hp
  intro T hT X
  rcases vx_callV X hx (C := C) (bytes := bytes) (maxL := maxL) (ret := ret) ho hl hin hse hcode hy hK (by rw [hT]; exact hcB) hoB hclB hg (hsize.trans hml.symm) (argsL := As) (rest := rest) (fun sig h => hn.trans (hlen sig h)) hstack hW (by rw [hb]; exact hdg)
    (fun vm₁ hW₁ => ⟨hf.1, hf.2, hPc (T.setVm vm₁) hT hW₁⟩) with ⟨v, vm₁, ⟨U', l2, c2, s2⟩, hW₁, X', ⟨g', mk, t, L, e1, e2, hq, h1, hL, h2, h3⟩, st⟩ | ⟨q, vm₁, ⟨U', l2, c2, s2⟩, hW₁, X', ⟨g', mk, t, L, E, ce, e1, e2, hq, hce, hcv, hcl, h1, hL, h2, h3⟩, st⟩
  · dsimp only [Pt.U, Pt.locs, Pt.cells, Pt.slots] at X' e1 e2 h1 h2 h3 st
    subst h1; subst h2; subst h3
    exact Or.inl ⟨v, (T.setVm vm₁).calling g' mk (Value.ref b :: As).toArray, t, U', L, hT, X', hL, e1, e2, hq, st⟩
  · dsimp only [Pt.U, Pt.locs, Pt.cells, Pt.slots] at X' e1 e2 h1 h2 h3 st hcl
    subst h1; subst h2; subst h3
    exact Or.inr ⟨q, (T.setVm vm₁).calling g' mk (Value.ref b :: As).toArray, t, U', L, E, ce, hT, X', hL, e1, e2, hq, hce, hcv, vx_cls hW₁ hcl, st⟩
theorem vx_runS (S : CallFix p m c cc nL s args Ts own) (hM : vx_Met l y ws rm Pc Qc XC mc ms free) (cw : CallB R s args own index y bytes maxL ret ws rm mc ms n ∧ (Cond.static y).before args s = true) (hp : PreS s H Pc As)
    (hg : g.method = m) (hn : As.length = n) (hsize : g.locals.size = nL) (hstack : g.stack = As.reverse ++ rest) (hW : 2 * g.monitorRoom + (rest.map fun v => v.category).sum ≤ 8) (hdg : decode cc g.pc = .ok (.invokestatic index, 3)) (hf : cells + mc ≤ R.cells ∧ slots + ms ≤ R.slots) :
    vx_Run p l e R s m args below meth c H locs cells slots mc ms g rest (Qc As.toArray) XC free := by
  have hK : vx_Back l R p e below s args y 3 8 (PreOf R mc ms Pc) (PostOf Qc mc ms free) (vx_Post XC mc ms free) := vx_callBack cw.1 hM hp.1
  obtain ⟨⟨-, -, -, -, -, -, hcode, hini, hy, hlen, hl⟩, hstt⟩ := cw
  obtain ⟨hx, hb, hml, ho, -⟩ := S
  intro T hT X
  rcases vx_callS X hx (bytes := bytes) (maxL := maxL) (ret := ret) ho hl hstt hini hcode hy hK hg (hsize.trans hml.symm) (argsL := As) (rest := rest) (fun sig h => hn.trans (hlen sig h)) hstack hW (by rw [hb]; exact hdg)
    (fun vm₁ hW₁ => ⟨hf.1, hf.2, hp.2 (T.setVm vm₁) hT hW₁⟩) with ⟨v, vm₁, ⟨U', l2, c2, s2⟩, hW₁, X', ⟨g', mk, t, L, e1, e2, hq, h1, hL, h2, h3⟩, st⟩ | ⟨q, vm₁, ⟨U', l2, c2, s2⟩, hW₁, X', ⟨g', mk, t, L, E, ce, e1, e2, hq, hce, hcv, hcl, h1, hL, h2, h3⟩, st⟩
  · dsimp only [Pt.U, Pt.locs, Pt.cells, Pt.slots] at X' e1 e2 h1 h2 h3 st
    subst h1; subst h2; subst h3
    exact Or.inl ⟨v, (T.setVm vm₁).calling g' mk As.toArray, t, U', L, hT, X', hL, e1, e2, hq, st⟩
  · dsimp only [Pt.U, Pt.locs, Pt.cells, Pt.slots] at X' e1 e2 h1 h2 h3 st hcl
    subst h1; subst h2; subst h3
    exact Or.inr ⟨q, (T.setVm vm₁).calling g' mk As.toArray, t, U', L, E, ce, hT, X', hL, e1, e2, hq, hce, hcv, vx_cls hW₁ hcl, st⟩
end Runs
section Rows
variable {p : Program} {l : Launch} {e : Env} {R : Room} {s : State} {m : MethodId} {args : Array Value} {below : List Frame} {meth : Method} {c : Code} {H : Heap} {locs : List Loc} {cells slots : Nat} {Q : State → Prop}
variable {mc ms : Nat} {free : Addr → Prop} {A0 A1 : Nat → Prop} {H0 : Heap} {a : Array Value} {pc : Nat} {ls : Array Slot} {st0 rest : List Value}
theorem vx_keep {st₀ t T' : State} {L : List Loc} (h0 : st₀.heap = H) (e1 : T'.heap = t.heap) (hS : va_S A0 H0 H locs) (hA : ∀ q, q < H.size → A1 q → A0 q) (hf : ∀ q, free q → A0 q) (hL : ∀ q ∈ L, free q.base) (hF : va_F A1 st₀ t) :
    H.size ≤ T'.heap.size ∧ (∀ q : Nat, q < H.size → ¬ A1 q → T'.heap[q]? = H[q]?) ∧ va_S A0 H0 T'.heap (locs ++ L) := by
  obtain ⟨hz, hk⟩ := hF
  rw [h0] at hz hk
  exact ⟨by rw [e1]; exact hz, fun q h1 h2 => by rw [e1]; exact hk q h1 h2,
    ⟨Nat.le_trans hS.1 (by rw [e1]; exact hz), fun q h1 h2 => by rw [e1, hk q (Nat.lt_of_lt_of_le h1 hS.1) (fun z => h2 (hA q (Nat.lt_of_lt_of_le h1 hS.1) z))]; exact hS.2.1 q h1 h2, fun q hq => by
      rcases List.mem_append.mp hq with h | h
      · exact hS.2.2 q h
      · exact hf _ (hL q h)⟩⟩
theorem vx_calli {S SX : Type} {post : Int32 → S → Prop} {px : SX → Prop} {B : S → State → Prop} {BX : String → SX → State → Prop} {AX : Nat → Prop} (hr : vx_Run p l e R s m args below meth c H locs cells slots mc ms (F0 m pc ls st0) rest (va_Qi post B A1 a) (vx_X px BX AX) free) (hS : va_S A0 H0 H locs) (hA : ∀ q, q < H.size → A1 q → A0 q) (hf : ∀ q, free q → A0 q) (hAX : ∀ q, q < H.size → AX q → A0 q)
    (kx : ∀ (E : String) (ce : Cell) (q9 : Addr) (u : SX) (t : State) (H1 : Heap) (locs1 : List Loc), t.heap = H1 → s.vm.Alike t.vm → px u → BX E u t → H.size ≤ H1.size → (∀ q : Nat, q < H.size → ¬ AX q → H1[q]? = H[q]?) → va_S A0 H0 H1 locs1 → H1[q9]? = some ce → ce.vm = .none → s.vm.findClass E = some ce.cls → vx_W p l e R s m args below meth c H1 locs1 (cells + mc) (slots + ms) Q (F0 m pc ls rest) q9)
    (kk : ∀ (r : Int32) (u : S) (t : State) (H1 : Heap) (locs1 : List Loc), t.heap = H1 → s.vm.Alike t.vm → post r u → B u t → H.size ≤ H1.size → (∀ q : Nat, q < H.size → ¬ A1 q → H1[q]? = H[q]?) → va_S A0 H0 H1 locs1 → W p l e R s m args below meth c H1 locs1 (cells + mc) (slots + ms) Q (F0 m (pc + 3) ls (.int r :: rest))) : W p l e R s m args below meth c H locs cells slots Q (F0 m pc ls st0) := by
  intro T hT X
  rcases hr T hT X with ⟨v, st₀, t, T', L, h0, X', hL, e1, e2, ⟨⟨r, u, hv, hp, hb⟩, hF⟩, st⟩ | ⟨q, st₀, t, T', L, E, ce, h0, X', hL, e1, e2, ⟨u, hp, hb, hF⟩, hce, hcv, hcl, st⟩
  · cases hv
    obtain ⟨k1, k2, k3⟩ := vx_keep h0 e1 hS hA hf hL hF
    obtain ⟨t2, a1, b1⟩ := kk r u t T'.heap (locs ++ L) e1.symm (by rw [← e2]; exact X'.warmed.alike) hp hb k1 k2 k3 T' rfl X'
    exact ⟨t2, st t2 a1, b1⟩
  · obtain ⟨k1, k2, k3⟩ := vx_keep h0 e1 hS hAX hf hL hF
    obtain ⟨t2, a1, b1⟩ := kx E ce q u t T'.heap (locs ++ L) e1.symm (by rw [← e2]; exact X'.warmed.alike) hp hb k1 k2 k3 (by rw [e1]; exact hce) hcv hcl T' rfl X'
    exact ⟨t2, st.trans a1, b1⟩
theorem vx_calll {S SX : Type} {post : Int64 → S → Prop} {px : SX → Prop} {B : S → State → Prop} {BX : String → SX → State → Prop} {AX : Nat → Prop} (hr : vx_Run p l e R s m args below meth c H locs cells slots mc ms (F0 m pc ls st0) rest (va_Ql post B A1 a) (vx_X px BX AX) free) (hS : va_S A0 H0 H locs) (hA : ∀ q, q < H.size → A1 q → A0 q) (hf : ∀ q, free q → A0 q) (hAX : ∀ q, q < H.size → AX q → A0 q)
    (kx : ∀ (E : String) (ce : Cell) (q9 : Addr) (u : SX) (t : State) (H1 : Heap) (locs1 : List Loc), t.heap = H1 → s.vm.Alike t.vm → px u → BX E u t → H.size ≤ H1.size → (∀ q : Nat, q < H.size → ¬ AX q → H1[q]? = H[q]?) → va_S A0 H0 H1 locs1 → H1[q9]? = some ce → ce.vm = .none → s.vm.findClass E = some ce.cls → vx_W p l e R s m args below meth c H1 locs1 (cells + mc) (slots + ms) Q (F0 m pc ls rest) q9)
    (kk : ∀ (r : Int64) (u : S) (t : State) (H1 : Heap) (locs1 : List Loc), t.heap = H1 → s.vm.Alike t.vm → post r u → B u t → H.size ≤ H1.size → (∀ q : Nat, q < H.size → ¬ A1 q → H1[q]? = H[q]?) → va_S A0 H0 H1 locs1 → W p l e R s m args below meth c H1 locs1 (cells + mc) (slots + ms) Q (F0 m (pc + 3) ls (.long r :: rest))) : W p l e R s m args below meth c H locs cells slots Q (F0 m pc ls st0) := by
  intro T hT X
  rcases hr T hT X with ⟨v, st₀, t, T', L, h0, X', hL, e1, e2, ⟨⟨r, u, hv, hp, hb⟩, hF⟩, st⟩ | ⟨q, st₀, t, T', L, E, ce, h0, X', hL, e1, e2, ⟨u, hp, hb, hF⟩, hce, hcv, hcl, st⟩
  · cases hv
    obtain ⟨k1, k2, k3⟩ := vx_keep h0 e1 hS hA hf hL hF
    obtain ⟨t2, a1, b1⟩ := kk r u t T'.heap (locs ++ L) e1.symm (by rw [← e2]; exact X'.warmed.alike) hp hb k1 k2 k3 T' rfl X'
    exact ⟨t2, st t2 a1, b1⟩
  · obtain ⟨k1, k2, k3⟩ := vx_keep h0 e1 hS hAX hf hL hF
    obtain ⟨t2, a1, b1⟩ := kx E ce q u t T'.heap (locs ++ L) e1.symm (by rw [← e2]; exact X'.warmed.alike) hp hb k1 k2 k3 (by rw [e1]; exact hce) hcv hcl T' rfl X'
    exact ⟨t2, st.trans a1, b1⟩
theorem vx_callf {S SX : Type} {post : UInt32 → S → Prop} {px : SX → Prop} {B : S → State → Prop} {BX : String → SX → State → Prop} {AX : Nat → Prop} (hr : vx_Run p l e R s m args below meth c H locs cells slots mc ms (F0 m pc ls st0) rest (va_Qf post B A1 a) (vx_X px BX AX) free) (hS : va_S A0 H0 H locs) (hA : ∀ q, q < H.size → A1 q → A0 q) (hf : ∀ q, free q → A0 q) (hAX : ∀ q, q < H.size → AX q → A0 q)
    (kx : ∀ (E : String) (ce : Cell) (q9 : Addr) (u : SX) (t : State) (H1 : Heap) (locs1 : List Loc), t.heap = H1 → s.vm.Alike t.vm → px u → BX E u t → H.size ≤ H1.size → (∀ q : Nat, q < H.size → ¬ AX q → H1[q]? = H[q]?) → va_S A0 H0 H1 locs1 → H1[q9]? = some ce → ce.vm = .none → s.vm.findClass E = some ce.cls → vx_W p l e R s m args below meth c H1 locs1 (cells + mc) (slots + ms) Q (F0 m pc ls rest) q9)
    (kk : ∀ (r : UInt32) (u : S) (t : State) (H1 : Heap) (locs1 : List Loc), t.heap = H1 → s.vm.Alike t.vm → post r u → B u t → H.size ≤ H1.size → (∀ q : Nat, q < H.size → ¬ A1 q → H1[q]? = H[q]?) → va_S A0 H0 H1 locs1 → W p l e R s m args below meth c H1 locs1 (cells + mc) (slots + ms) Q (F0 m (pc + 3) ls (.float r :: rest))) : W p l e R s m args below meth c H locs cells slots Q (F0 m pc ls st0) := by
  intro T hT X
  rcases hr T hT X with ⟨v, st₀, t, T', L, h0, X', hL, e1, e2, ⟨⟨r, u, hv, hp, hb⟩, hF⟩, st⟩ | ⟨q, st₀, t, T', L, E, ce, h0, X', hL, e1, e2, ⟨u, hp, hb, hF⟩, hce, hcv, hcl, st⟩
  · cases hv
    obtain ⟨k1, k2, k3⟩ := vx_keep h0 e1 hS hA hf hL hF
    obtain ⟨t2, a1, b1⟩ := kk r u t T'.heap (locs ++ L) e1.symm (by rw [← e2]; exact X'.warmed.alike) hp hb k1 k2 k3 T' rfl X'
    exact ⟨t2, st t2 a1, b1⟩
  · obtain ⟨k1, k2, k3⟩ := vx_keep h0 e1 hS hAX hf hL hF
    obtain ⟨t2, a1, b1⟩ := kx E ce q u t T'.heap (locs ++ L) e1.symm (by rw [← e2]; exact X'.warmed.alike) hp hb k1 k2 k3 (by rw [e1]; exact hce) hcv hcl T' rfl X'
    exact ⟨t2, st.trans a1, b1⟩
theorem vx_calld {S SX : Type} {post : UInt64 → S → Prop} {px : SX → Prop} {B : S → State → Prop} {BX : String → SX → State → Prop} {AX : Nat → Prop} (hr : vx_Run p l e R s m args below meth c H locs cells slots mc ms (F0 m pc ls st0) rest (va_Qd post B A1 a) (vx_X px BX AX) free) (hS : va_S A0 H0 H locs) (hA : ∀ q, q < H.size → A1 q → A0 q) (hf : ∀ q, free q → A0 q) (hAX : ∀ q, q < H.size → AX q → A0 q)
    (kx : ∀ (E : String) (ce : Cell) (q9 : Addr) (u : SX) (t : State) (H1 : Heap) (locs1 : List Loc), t.heap = H1 → s.vm.Alike t.vm → px u → BX E u t → H.size ≤ H1.size → (∀ q : Nat, q < H.size → ¬ AX q → H1[q]? = H[q]?) → va_S A0 H0 H1 locs1 → H1[q9]? = some ce → ce.vm = .none → s.vm.findClass E = some ce.cls → vx_W p l e R s m args below meth c H1 locs1 (cells + mc) (slots + ms) Q (F0 m pc ls rest) q9)
    (kk : ∀ (r : UInt64) (u : S) (t : State) (H1 : Heap) (locs1 : List Loc), t.heap = H1 → s.vm.Alike t.vm → post r u → B u t → H.size ≤ H1.size → (∀ q : Nat, q < H.size → ¬ A1 q → H1[q]? = H[q]?) → va_S A0 H0 H1 locs1 → W p l e R s m args below meth c H1 locs1 (cells + mc) (slots + ms) Q (F0 m (pc + 3) ls (.double r :: rest))) : W p l e R s m args below meth c H locs cells slots Q (F0 m pc ls st0) := by
  intro T hT X
  rcases hr T hT X with ⟨v, st₀, t, T', L, h0, X', hL, e1, e2, ⟨⟨r, u, hv, hp, hb⟩, hF⟩, st⟩ | ⟨q, st₀, t, T', L, E, ce, h0, X', hL, e1, e2, ⟨u, hp, hb, hF⟩, hce, hcv, hcl, st⟩
  · cases hv
    obtain ⟨k1, k2, k3⟩ := vx_keep h0 e1 hS hA hf hL hF
    obtain ⟨t2, a1, b1⟩ := kk r u t T'.heap (locs ++ L) e1.symm (by rw [← e2]; exact X'.warmed.alike) hp hb k1 k2 k3 T' rfl X'
    exact ⟨t2, st t2 a1, b1⟩
  · obtain ⟨k1, k2, k3⟩ := vx_keep h0 e1 hS hAX hf hL hF
    obtain ⟨t2, a1, b1⟩ := kx E ce q u t T'.heap (locs ++ L) e1.symm (by rw [← e2]; exact X'.warmed.alike) hp hb k1 k2 k3 (by rw [e1]; exact hce) hcv hcl T' rfl X'
    exact ⟨t2, st.trans a1, b1⟩
theorem vx_callv {S SX : Type} {post : S → Prop} {px : SX → Prop} {B : S → State → Prop} {BX : String → SX → State → Prop} {AX : Nat → Prop} (hr : vx_Run p l e R s m args below meth c H locs cells slots mc ms (F0 m pc ls st0) rest (va_Qv post B A1 a) (vx_X px BX AX) free) (hS : va_S A0 H0 H locs) (hA : ∀ q, q < H.size → A1 q → A0 q) (hf : ∀ q, free q → A0 q) (hAX : ∀ q, q < H.size → AX q → A0 q)
    (kx : ∀ (E : String) (ce : Cell) (q9 : Addr) (u : SX) (t : State) (H1 : Heap) (locs1 : List Loc), t.heap = H1 → s.vm.Alike t.vm → px u → BX E u t → H.size ≤ H1.size → (∀ q : Nat, q < H.size → ¬ AX q → H1[q]? = H[q]?) → va_S A0 H0 H1 locs1 → H1[q9]? = some ce → ce.vm = .none → s.vm.findClass E = some ce.cls → vx_W p l e R s m args below meth c H1 locs1 (cells + mc) (slots + ms) Q (F0 m pc ls rest) q9)
    (kk : ∀ (u : S) (t : State) (H1 : Heap) (locs1 : List Loc), t.heap = H1 → s.vm.Alike t.vm → post u → B u t → H.size ≤ H1.size → (∀ q : Nat, q < H.size → ¬ A1 q → H1[q]? = H[q]?) → va_S A0 H0 H1 locs1 → W p l e R s m args below meth c H1 locs1 (cells + mc) (slots + ms) Q (F0 m (pc + 3) ls (rest))) : W p l e R s m args below meth c H locs cells slots Q (F0 m pc ls st0) := by
  intro T hT X
  rcases hr T hT X with ⟨v, st₀, t, T', L, h0, X', hL, e1, e2, ⟨⟨u, hv, hp, hb⟩, hF⟩, st⟩ | ⟨q, st₀, t, T', L, E, ce, h0, X', hL, e1, e2, ⟨u, hp, hb, hF⟩, hce, hcv, hcl, st⟩
  · cases hv
    obtain ⟨k1, k2, k3⟩ := vx_keep h0 e1 hS hA hf hL hF
    obtain ⟨t2, a1, b1⟩ := kk u t T'.heap (locs ++ L) e1.symm (by rw [← e2]; exact X'.warmed.alike) hp hb k1 k2 k3 T' rfl X'
    exact ⟨t2, st t2 a1, b1⟩
  · obtain ⟨k1, k2, k3⟩ := vx_keep h0 e1 hS hAX hf hL hF
    obtain ⟨t2, a1, b1⟩ := kx E ce q u t T'.heap (locs ++ L) e1.symm (by rw [← e2]; exact X'.warmed.alike) hp hb k1 k2 k3 (by rw [e1]; exact hce) hcv hcl T' rfl X'
    exact ⟨t2, st.trans a1, b1⟩
/-- caught by the row x of this method's table; the rows ahead don't take it -/
theorem vx_catch {own name : String} {E : String} {ce : Cell} {q : Addr} (hown : s.vm.findClass own = some m.cls) (pre : List ExceptionTableEntry) (x : ExceptionTableEntry) (suf : List ExceptionTableEntry) (hsplit : c.exceptionTable.toList = pre ++ x :: suf)
    (hpass : ∀ z ∈ pre, covers z pc = false ∨ (z.catchType ≠ 0 ∧ ∃ nm : String, (Cond.classLink own z.catchType nm).before args s = true ∧ va_Nc E nm s)) (hx : covers x pc = true) (h0 : x.catchType ≠ 0)
    (hlink : (Cond.classLink own x.catchType name).before args s = true) (hcast : (Cond.castable E name).before args s = true) (hcell : H[q]? = some ce) (hv : ce.vm = .none) (hcl : s.vm.findClass E = some ce.cls)
    (kk : W p l e R s m args below meth c H locs cells slots Q (F0 m x.handlerPc ls [.ref q])) : vx_W p l e R s m args below meth c H locs cells slots Q (F0 m pc ls rest) q := by
  intro T hT X
  have hpl : e.platform.magicAccessors = ({} : Platform).magicAccessors := by rw [X.admits.platform]
  obtain ⟨c3, c4, hc3, hc4, hasg⟩ := Cond.castable_spec hcast
  cases Option.some.inj (hc3.symm.trans hcl)
  obtain ⟨c5, hc5, hcl5⟩ := Cond.classLink_spec hown hlink e.platform hpl
  cases Option.some.inj (hc4.symm.trans hc5)
  obtain ⟨vm', X', st⟩ := X.thenCaughtThrough q (g := F0 m pc ls rest) rfl (Steps.refl _) (by rw [hT]; exact hcell) (by rw [hv]; rfl) (by obtain ⟨k9, h9, -⟩ := Vm.findClass_spec hcl; exact ⟨k9, h9⟩) pre x suf hsplit
    (fun z hz => by
      rcases hpass z hz with h | ⟨hz0, nm, hl1, hn1⟩
      · exact Or.inl h
      · obtain ⟨c6, hc6, hcl6⟩ := Cond.classLink_spec hown hl1 e.platform hpl
        obtain ⟨a8, b8, h1, h2, h3⟩ := hn1
        cases Option.some.inj (h1.symm.trans hcl)
        cases Option.some.inj (h2.symm.trans hc6)
        exact Or.inr ⟨hz0, _, hcl6, h3⟩) hx (Or.inr ⟨h0, c4, hcl5, hasg⟩)
  obtain ⟨t, a1, b1⟩ := kk (T.setVm vm') hT X'
  exact ⟨t, st.trans a1, b1⟩
end Rows
section Ends
variable {p : Program} {l : Launch} {e : Env} {R : Room} {s : State} {m : MethodId} {args : Array Value} {below : List Frame} {meth : Method} {c : Code} {H : Heap} {locs : List Loc} {cells slots : Nat} {Q : State → Prop}
variable {mc ms : Nat} {free : Addr → Prop} {A0 A1 : Nat → Prop} {H0 : Heap} {a : Array Value} {ls : Array Slot} {st0 rest : List Value}
variable {Qc : Array Value → State → Outcome → State → Prop} {XC : String → State → State → Prop}
/-- what a body that may throw owes at its end -/
def vx_MQ (below : List Frame) (Qc : Array Value → State → Outcome → State → Prop) (XC : String → State → State → Prop) (a : Array Value) (s : State) (mc ms : Nat) (free : Addr → Prop) : State → Prop := fun t =>
  ∃ o, t.status = .running ∧ Ended t below o ∧ vx_Q Qc XC mc ms free a s o t
theorem vx_ret {g : JFrame} {mc ms : Nat} (k : W p l e R s m args below meth c H locs cells slots (MQ below Qc args s mc ms free) g) : W p l e R s m args below meth c H locs cells slots (vx_MQ below Qc XC args s mc ms free) g := by
  intro T hT X
  obtain ⟨t, a1, o, b1, b2, b3, b4⟩ := k T hT X
  exact ⟨t, a1, o, b1, b2, Or.inl ⟨b3, b4⟩⟩
/-- not caught here: it goes on to the caller -/
theorem vx_widen {g : JFrame} {q : Addr} {k n : Nat} (h1 : cells ≤ k) (h2 : slots ≤ n) (kk : vx_W p l e R s m args below meth c H locs k n Q g q) : vx_W p l e R s m args below meth c H locs cells slots Q g q := fun T hT X => kk T hT (stand_widen X h1 h2)
theorem vx_out {pc : Nat} {E : String} {ce : Cell} {q : Addr} {mc ms : Nat} (hout : ∀ x ∈ c.exceptionTable.toList, covers x pc = false) (hlocks : meth.locks = false) (hcell : H[q]? = some ce) (hv : ce.vm = .none) (hcl : s.vm.findClass E = some ce.cls)
    (hx : ∀ t : State, t.heap = H → s.vm.Alike t.vm → XC E s t) (hf : ∀ z ∈ locs, free z.base) (hc : cells ≤ mc) (hs : slots ≤ ms) :
    vx_W p l e R s m args below meth c H locs cells slots (vx_MQ below Qc XC args s mc ms free) (F0 m pc ls rest) q := by
  intro T hT X
  obtain ⟨st1, hrun, hend, hW, hsm⟩ := X.leaveThrown q (g := F0 m pc ls rest) rfl rfl rfl hout hlocks
  have hcell9 : (T.setFrames (.throwing q :: below)).heap[q]? = some ce := by
    show T.heap[q]? = some ce
    rw [hT]; exact hcell
  exact ⟨_, st1, .threw q, hrun, hend, Or.inr ⟨q, rfl, E, ce, locs, hx _ hT hW.alike, hcell9, hv, hcl, hW, hsm.mono hc hs, hf⟩⟩
theorem vx_frame {U : State} {k n : Nat} (h : s.sameButNew ({ U with vm := s.vm } : State) locs k n) : s.heap.size ≤ U.heap.size ∧ ∀ q : Nat, q < s.heap.size → (∀ z ∈ locs, z.base ≠ q) → U.heap[q]? = s.heap[q]? := by
  obtain ⟨-, h2, -, -, -, h6⟩ := h
  refine ⟨h2, fun q hq hz => ?_⟩
  obtain ⟨c9, e1, e2, e3, e4⟩ := h6 q _ (Array.getElem?_eq_getElem hq)
  have hs : c9.slots = (s.heap[q]).slots := Array.ext_getElem? fun i => e4 i fun hm => hz _ hm rfl
  have h9 : c9 = s.heap[q] := by
    rw [hs] at e2
    exact e2
  have e5 : U.heap[q]? = some c9 := e1
  rw [e5, h9, Array.getElem?_eq_getElem hq]
/-- the words of a throw but the four that speak of the heap -/
def vx_no (w : Cond) : Bool := decide (w ≠ .isRef (.static Bundle.tN "UNASSIGNED_STACK" Bundle.steD)) && decide (w ≠ .isRef (.static Bundle.tN "SUPPRESSED_SENTINEL" Bundle.listD)) && decide (w ≠ .laysStatic Bundle.tN "UNASSIGNED_STACK" Bundle.steD) && decide (w ≠ .laysStatic Bundle.tN "SUPPRESSED_SENTINEL" Bundle.listD)
def vx_at0 (own : String) (ic : Nat) (X : String) (names : List String) : List Cond := (Bundle.ownAtoms0 own ic X names).filter vx_no
def vx_atS (own : String) (ic : Nat) (X : String) (names : List String) : List Cond := (Bundle.ownAtoms own ic X names).filter vx_no
/-- a word that the tables alone decide, or a good one -/
def vx_ot (w : Cond) : Bool := w.onTables || goodWord w
theorem vx_ot_at {args a' : Array Value} {s U : State} {w : Cond} (hW : s.WarmedH U.vm) (hvm : s.vm = U.vm) (hg : vx_ot w = true) (h : w.before args s = true) : w.before a' U = true := by
  simp only [vx_ot, Bool.or_eq_true] at hg
  rcases hg with hg | hg
  · exact va_tabs hg hvm h
  · exact word_at hW (good_of_word hg) h
/-- a list's words: the good ones out of the method's own list, the others by premises of their own -/
theorem vx_hat {args : Array Value} {s : State} {L B : List Cond} (h1 : ∀ w ∈ L.filter goodWord, w.before args s = true) (h2 : ∀ w ∈ L.filter (fun w => !goodWord w), w ∈ B) (h3 : ∀ w ∈ B, w.before args s = true) : ∀ w ∈ L, w.before args s = true := by
  intro w hw
  by_cases g : goodWord w = true
  · exact h1 w (List.mem_filter.mpr ⟨hw, g⟩)
  · refine h3 w (h2 w (List.mem_filter.mpr ⟨hw, ?_⟩))
    show (!goodWord w) = true
    cases hgw : goodWord w
    · rfl
    · exact absurd hgw g
theorem vx_c {args : Array Value} {s : State} {w : Cond} {B : List Cond} (h : w.before args s = true) (t : ∀ w ∈ B, w.before args s = true) : ∀ w' ∈ w :: B, w'.before args s = true := fun w' h' => (List.mem_cons.mp h').elim (fun e => by rw [e]; exact h) (t w')
theorem vx_n {args : Array Value} {s : State} : ∀ w ∈ ([] : List Cond), w.before args s = true := fun _ h => nomatch h
theorem vx_own {args : Array Value} {s : State} {L : List Cond} (h1 : ∀ w ∈ L.filter vx_no, w.before args s = true)
    (hU : (Cond.isRef (.static Bundle.tN "UNASSIGNED_STACK" Bundle.steD)).before args s = true) (hN : (Cond.isRef (.static Bundle.tN "SUPPRESSED_SENTINEL" Bundle.listD)).before args s = true)
    (lU : (Cond.laysStatic Bundle.tN "UNASSIGNED_STACK" Bundle.steD).before args s = true) (lN : (Cond.laysStatic Bundle.tN "SUPPRESSED_SENTINEL" Bundle.listD).before args s = true) : ∀ w ∈ L, w.before args s = true := by
  intro w hw
  by_cases e1 : w = .isRef (.static Bundle.tN "UNASSIGNED_STACK" Bundle.steD)
  · rw [e1]; exact hU
  · by_cases e2 : w = .isRef (.static Bundle.tN "SUPPRESSED_SENTINEL" Bundle.listD)
    · rw [e2]; exact hN
    · by_cases e3 : w = .laysStatic Bundle.tN "UNASSIGNED_STACK" Bundle.steD
      · rw [e3]; exact lU
      · by_cases e4 : w = .laysStatic Bundle.tN "SUPPRESSED_SENTINEL" Bundle.listD
        · rw [e4]; exact lN
        · exact h1 w (List.mem_filter.mpr ⟨hw, by unfold vx_no; rw [decide_eq_true e1, decide_eq_true e2, decide_eq_true e3, decide_eq_true e4]; rfl⟩)
/-- where a static field lies, its class's statics cell in H -/
def vx_L (C n d : String) (A : Nat → Prop) (U : State) (H : Heap) : Prop := ∃ (c : ClassId) (k : Class) (i : Nat) (f : Field) (a : Nat) (cell : Cell), U.vm.findClass C = some c ∧ U.fieldFound? C n d = some (c, k, i, f) ∧ f.isStatic = true ∧ k.statics = some a ∧ H[a]? = some cell ∧ cell.vm.isStatics = true ∧ cell.cls = c ∧ f.slot < cell.slots.size ∧ k.staticTypes[f.slot]? = some f.type ∧ ¬ A a
theorem vx_L.moved {C n d : String} {A : Nat → Prop} {u U : State} {H : Heap} (hvm : u.vm.Alike U.vm) (h : vx_L C n d A u H) : vx_L C n d A U H := by
  obtain ⟨c, k, i, f, a, cell, h1, h2, h3, h4, h5, h6, h7, h8, h9, h10⟩ := h
  obtain ⟨k', hi', he⟩ := State.fieldFound?_setVm hvm h2
  exact ⟨c, k', i, f, a, cell, by rw [hvm.findClass]; exact h1, hi', h3, by rw [he]; exact h4, h5, h6, h7, h8, by rw [he]; exact h9, h10⟩
theorem vx_L.kept {C n d : String} {A : Nat → Prop} {U : State} {H H1 : Heap} (h : vx_L C n d A U H) (hq : ∀ a : Nat, a < H.size → ¬ A a → H1[a]? = H[a]?) : vx_L C n d A U H1 := by
  obtain ⟨c, k, i, f, a, cell, h1, h2, h3, h4, h5, h6, h7, h8, h9, h10⟩ := h
  exact ⟨c, k, i, f, a, cell, h1, h2, h3, h4, by rw [hq a (Array.getElem?_eq_some_iff.mp h5).1 h10]; exact h5, h6, h7, h8, h9, h10⟩
theorem vx_L.narrow {C n d : String} {A B : Nat → Prop} {U : State} {H : Heap} (h : vx_L C n d A U H) (hAB : ∀ q, B q → A q) : vx_L C n d B U H := by
  obtain ⟨c, k, i, f, a, cell, h1, h2, h3, h4, h5, h6, h7, h8, h9, h10⟩ := h
  exact ⟨c, k, i, f, a, cell, h1, h2, h3, h4, h5, h6, h7, h8, h9, fun z => h10 (hAB _ z)⟩
theorem vx_L.word {C n d : String} {A : Nat → Prop} {s : State} {args : Array Value} (h : vx_L C n d A s s.heap) : (Cond.laysStatic C n d).before args s = true := by
  obtain ⟨c, k, i, f, a, cell, h1, h2, h3, h4, h5, h6, h7, h8, h9, -⟩ := h
  show (Cond.laysStatic C n d).holds args s none s [] = true
  exact Cond.laysStatic_of h1 h2 h3 h4 h5 h6 h7 h8 h9
/-- .. and what it holds: null or some reference -/
def vx_Zq (C n d : String) (A : Nat → Prop) (U : State) (H : Heap) : Prop := va_Zq C n d A U H ∧ vx_L C n d A U H
theorem vx_Zq.moved {C n d : String} {A : Nat → Prop} {u U : State} {H : Heap} (hvm : u.vm.Alike U.vm) (h : vx_Zq C n d A u H) : vx_Zq C n d A U H := ⟨va_Zq.moved hvm h.1, vx_L.moved hvm h.2⟩
theorem vx_Zq.kept {C n d : String} {A : Nat → Prop} {U : State} {H H1 : Heap} (h : vx_Zq C n d A U H) (hq : ∀ a : Nat, a < H.size → ¬ A a → H1[a]? = H[a]?) : vx_Zq C n d A U H1 := ⟨va_Zq.kept h.1 hq, vx_L.kept h.2 hq⟩
theorem vx_Zq.narrow {C n d : String} {A B : Nat → Prop} {U : State} {H : Heap} (h : vx_Zq C n d A U H) (hAB : ∀ q, B q → A q) : vx_Zq C n d B U H := ⟨va_Zq.narrow h.1 hAB, vx_L.narrow h.2 hAB⟩
theorem vx_Zqof {args : Array Value} {s : State} {C n d : String} {A : Nat → Prop} (hl : (Cond.laysStatic C n d).before args s = true) (hini : (Cond.initialized C).before args s = true) (h : (Cond.isRef (.static C n d)).before args s = true) (hA : ∀ a : Nat, a < s.heap.size → ¬ A a) : vx_Zq C n d A s s.heap := by
  refine ⟨va_Zqof hl hini h hA, ?_⟩
  obtain ⟨c, k, i, f, a, cell, h1, h2, h3, h4, h5, h6, h7, h8, h9⟩ := Cond.laysStatic_spec hl
  exact ⟨c, k, i, f, a, cell, h1, h2, h3, h4, h5, h6, h7, h8, h9, hA a (Array.getElem?_eq_some_iff.mp h5).1⟩
theorem vx_isRef {C n d : String} {v : Value} {A : Nat → Prop} {s : State} {args : Array Value} (h : va_Z C n d v A s s.heap) (hv : v.isRef = true) : (Cond.isRef (.static C n d)).before args s = true := by
  obtain ⟨cf, kf, fi, f, a, cell, h1, h2, h3, h4, h5, h6, h7, -⟩ := h
  have he : (Term.static C n d).eval args s none [] s = some v := by
    simp [Term.eval, State.fieldNamed?, h1, h2, h4, h5, h6, h7]
  simp only [Cond.before, Cond.holds, Cond.value, he]
  cases v <;> simp_all [Value.isRef]
theorem vx_isRefq {C n d : String} {A : Nat → Prop} {s : State} {args : Array Value} (h : va_Zq C n d A s s.heap) : (Cond.isRef (.static C n d)).before args s = true := by
  rcases h with h | ⟨t, h⟩
  · exact vx_isRef h rfl
  · exact vx_isRef h rfl
/-- the same frame, seen from here: as if the method were called anew in this heap -/
theorem vx_rebase {T : State} (X : Stand p l e R s m args below meth c T locs cells slots) {R' : Room} (hf : R'.frames ≤ R.frames) (hl : R'.locals ≤ R.locals) (hc : cells + R'.cells ≤ R.cells) (hs : slots + R'.slots ≤ R.slots) :
    Stand p l e R' ((T.setVm s.vm).setFrames (.invoking m args :: below)) m args below meth c T [] 0 0 := by
  have htop : (T.setVm s.vm).topJava?.isSome := X.here.top
  have hF : ((T.setVm s.vm).setFrames (.invoking m args :: below)).frames = .invoking m args :: below := State.frames_setFrames _ (State.cur_lt_of_top htop)
  obtain ⟨g₀, hg0⟩ := Option.isSome_iff_exists.mp htop
  obtain ⟨r, hr⟩ := State.topJava?_eq_some.mp hg0
  have hl9 : e.platform.stackLimits (T.setVm s.vm).me = e.platform.stackLimits s.me := X.limits
  have hb9 : (T.setVm s.vm).me.stackBytes = s.me.stackBytes := X.bytes
  refine ⟨X.admits, X.cas, X.clock, hF, ?_, X.hears, X.method, X.code, X.here, X.tail, X.warmed, ?_, ?_, ?_⟩
  · have h := X.room
    have hU : ((T.setVm s.vm).setFrames (.invoking m args :: below)).localsInUse = s.localsInUse := by
      rw [State.localsInUse_invoking hF (meth := meth) (c := c) X.method X.code, State.localsInUse_invoking X.frames X.method X.code]
    simp only [State.hasRoom, Bool.and_eq_true, decide_eq_true_eq] at h ⊢
    obtain ⟨⟨⟨⟨h1, h2, h3, h4, h5, h6⟩, h7⟩, h8⟩, h9⟩ := h
    rw [X.frames, List.length_cons] at h2 h3
    have q1 := X.heapSize
    have q2 := X.used
    simp only [hF, hU, List.length_cons, State.stackLimits_setFrames, State.stackBytes_setFrames, hl9, hb9]
    refine ⟨⟨⟨⟨by omega, by omega, by omega, by omega, by omega, h6⟩, ?_⟩, ?_⟩, X.book⟩
    · show T.heap.size + R'.cells ≤ e.platform.maxCells
      omega
    · show T.slotsUsed + R'.slots ≤ e.platform.maxSlots
      omega
  · rw [State.stackLimits_setFrames]; rfl
  · rw [State.stackBytes_setFrames]; rfl
  · refine ⟨?_, Nat.le_refl _, Nat.le_refl _, ?_, ?_, fun a c9 h9 => ⟨c9, h9, rfl, rfl, fun _ _ => rfl⟩⟩
    · obtain ⟨t, ht, -⟩ := State.frames_cons hr
      show T.setVm s.vm = { ((T.setVm s.vm).setFrames (.invoking m args :: below)).setFrames (T.setVm s.vm).frames with heap := T.heap, slotsUsed := T.slotsUsed }
      rw [State.setFrames_setFrames, State.setFrames_self ht]
      rfl
    · show T.slotsUsed = T.slotsUsed + ((T.heap.toList.drop T.heap.size).map (·.slots.size)).sum
      rw [List.drop_eq_nil_of_le (Nat.le_of_eq Array.length_toList)]
      rfl
    · show ((T.heap.toList.drop T.heap.size).map (·.slots.size)).sum ≤ 0
      rw [List.drop_eq_nil_of_le (Nat.le_of_eq Array.length_toList)]
      exact Nat.le_refl _
/-- 'throw new E()': new; dup; invokespecial; athrow -/
theorem vx_throw0 {cc : ByteArray} {pc : Nat} (hexec : p.tables.exec = Jvm.exec) (hb : c.code = cc) (hl : l.stackTraces = false) {own cls : String} {names : List String} {ik ic mc ms : Nat} {A : Nat → Prop}
    (hown : s.vm.findClass own = some m.cls) (hcls : Bundle.fit cls = true) (hnames : ∀ n ∈ names, Bundle.fit n = true)
    (hk : (Cond.classLink own ik cls).before args s = true) (hini : (Cond.initialized cls).before args s = true) (hat : ∀ w ∈ vx_at0 own ic cls names, w.before args s = true)
    (hgood : ∀ w ∈ Cond.classLink own ik cls :: Cond.initialized cls :: vx_at0 own ic cls names, vx_ot w = true)
    (hU : vx_Zq Bundle.tN "UNASSIGNED_STACK" Bundle.steD A s s.heap) (hN : vx_Zq Bundle.tN "SUPPRESSED_SENTINEL" Bundle.listD A s s.heap) (hS : va_S A s.heap H locs) (hsize : ls.size = c.maxLocals)
    (d0 : decode cc pc = .ok (.new ik, 3)) (d3 : decode cc (pc + 3) = .ok (.dup, 1)) (d4 : decode cc (pc + 4) = .ok (.invokespecial ic, 3)) (d7 : decode cc (pc + 7) = .ok (.athrow, 1))
    (hout : ∀ x ∈ c.exceptionTable.toList, covers x (pc + 7) = false)
    (hRframes : names.length + 3 < R.frames) (hRlocals : (rest.map fun v => v.category).sum + (13 * (names.length + 1) + 42) ≤ R.locals) (hRcells : cells + 1 ≤ R.cells) (hRslots : slots + 6 ≤ R.slots) (hlocks : meth.locks = false)
    (hx : ∀ t : State, s.vm.Alike t.vm → H.size ≤ t.heap.size → (∀ q : Nat, q < H.size → t.heap[q]? = H[q]?) → XC cls s t)
    (hf : ∀ z ∈ locs, free z.base) (hc : cells + 1 ≤ mc) (hs : slots + 6 ≤ ms) :
    W p l e R s m args below meth c H locs cells slots (vx_MQ below Qc XC args s mc ms free) (F0 m pc ls rest) := by
  intro T hT X
  have htr : e.platform.stackTraces = false := (show e.platform.stackTraces = l.stackTraces by rw [X.admits.platform]).trans hl
  have Y := vx_rebase X (R' := { frames := R.frames, locals := R.locals, cells := 1, slots := 6 }) (Nat.le_refl _) (Nat.le_refl _) hRcells hRslots
  obtain ⟨s', hA⟩ : ∃ z, z = (T.setVm s.vm).setFrames (.invoking m args :: below) := ⟨_, rfl⟩
  rw [← hA] at Y
  have hvm : s'.vm = s.vm := by rw [hA]; rfl
  have hhp : s'.heap = H := by rw [hA]; exact hT
  have hW0 : s.WarmedH s'.vm := by rw [hvm]; exact State.WarmedH.refl s
  have hat' : ∀ w ∈ vx_at0 own ic cls names, w.before args s' = true := fun w hw => vx_ot_at hW0 hvm.symm (hgood w (List.mem_cons_of_mem _ (List.mem_cons_of_mem _ hw))) (hat w hw)
  have hk' : (Cond.classLink own ik cls).before args s' = true := vx_ot_at hW0 hvm.symm (hgood _ List.mem_cons_self) hk
  have hini' : (Cond.initialized cls).before args s' = true := vx_ot_at hW0 hvm.symm (hgood _ (List.mem_cons_of_mem _ List.mem_cons_self)) hini
  have hU' : vx_Zq Bundle.tN "UNASSIGNED_STACK" Bundle.steD A s' s'.heap := by rw [hhp]; exact vx_Zq.moved hW0.alike (hU.kept hS.2.1)
  have hN' : vx_Zq Bundle.tN "SUPPRESSED_SENTINEL" Bundle.listD A s' s'.heap := by rw [hhp]; exact vx_Zq.moved hW0.alike (hN.kept hS.2.1)
  have h : ∀ w ∈ Bundle.ownAtoms0 own ic cls names, w.before args s' = true := vx_own hat' (vx_isRefq hU'.1) (vx_isRefq hN'.1) hU'.2.word hN'.2.word
  have hown' : s'.vm.findClass own = some m.cls := by rw [hvm]; exact hown
  have hins : (Cond.instantiable cls 6).before args s' = true := h _ (by simp [Bundle.ownAtoms0])
  obtain ⟨vm₁, cX, kX, hfX, hkX, -, -, X₁, st1⟩ := Y.newCold hexec (own := own) (C := cls) (index := ik) (n := 6) hown' hk' hins hini'
    (g := F0 m pc ls rest) rfl (by rw [hb]; exact d0) (Nat.le_refl _) (Nat.le_refl _)
  generalize hT1 : (T.setVm vm₁).pushCell { cls := cX, slots := kX.instanceTypes.map defaultValue, vm := .none } = T1 at X₁ st1
  have hcat : (Value.ref T.heap.size).category = 1 := rfl
  have hcellA : T1.heap[T.heap.size]? = some (freshCell cX kX) := by rw [← hT1]; exact State.heap_pushCell_size _ _
  have d3' : decode c.code (pc + 3) = .ok (.dup, 1) := by rw [hb]; exact d3
  obtain ⟨U, hsteps, hrun, hend, hW, hsame, ce, hce, hO⟩ := X₁.ctorThrow0 hexec htr (own := own) (cls := cls) (names := names) (ic := ic) hown' hcls hnames h (fun x hx => nomatch hx) hfX hkX hcellA (by rw [hhp, hT]; exact Nat.le_refl _)
    (g := { method := m, pc := pc + 4, locals := ls, stack := .ref T.heap.size :: .ref T.heap.size :: rest, locked := none }) rfl hsize rfl rfl (rest := rest) rfl
    (by rw [hb]; exact d4) (by rw [hb]; exact d7) hout hRframes (by simp only [List.map_cons, List.sum_cons, hcat]; omega) hlocks
  obtain ⟨f1, f2⟩ := vx_frame hsame
  rw [hhp] at f1 f2
  have hWs : s.WarmedH U.vm := State.WarmedH.trans hW0 hW
  have hcl : s.vm.findClass cls = some ce.cls := by
    have h9 := hO.cls
    rw [hvm] at h9
    exact h9
  have hall : s.sameButNew ({ U with vm := s.vm } : State) locs mc ms := by
    subst hA
    obtain ⟨e1, e2⟩ := hsame
    rw [State.setFrames_setFrames] at e1
    have h2 : (T.setVm s.vm).sameButNew ({ U with vm := s.vm } : State) [] (0 + 1) (0 + 6) := ⟨e1, e2⟩
    have h3 := X.same.trans h2
    rw [List.append_nil] at h3
    exact h3.mono hc hs
  refine ⟨U, ?_, .threw T.heap.size, hrun, hend, Or.inr ⟨T.heap.size, rfl, cls, ce, locs, hx U hWs.alike f1 (fun q hq => f2 q hq (fun z hz => nomatch hz)), hce, hO.vm, hcl, hWs, hall, hf⟩⟩
  refine st1 _ ?_
  show Steps p.tables e below (T1.setTop { method := m, pc := pc + 3, locals := ls, stack := .ref T.heap.size :: rest, locked := none }) _
  jvm_step X₁.here [X₁.here.top, hexec, d3', Value.category]
  exact hsteps
/-- 'throw new E("text")': new; dup; ldc; invokespecial; athrow -/
theorem vx_throwS {cc : ByteArray} {pc : Nat} (hexec : p.tables.exec = Jvm.exec) (hb : c.code = cc) (hl : l.stackTraces = false) {own cls text : String} {names : List String} {ik is ic mc ms sa : Nat} {A : Nat → Prop}
    (hown : s.vm.findClass own = some m.cls) (hcls : Bundle.fit cls = true) (hnames : ∀ n ∈ names, Bundle.fit n = true)
    (hk : (Cond.classLink own ik cls).before args s = true) (hini : (Cond.initialized cls).before args s = true) (hstr : vk_R own is text sa s) (hat : ∀ w ∈ vx_atS own ic cls names, w.before args s = true)
    (hgood : ∀ w ∈ Cond.classLink own ik cls :: Cond.initialized cls :: vx_atS own ic cls names, vx_ot w = true)
    (hU : vx_Zq Bundle.tN "UNASSIGNED_STACK" Bundle.steD A s s.heap) (hN : vx_Zq Bundle.tN "SUPPRESSED_SENTINEL" Bundle.listD A s s.heap) (hS : va_S A s.heap H locs) (hsize : ls.size = c.maxLocals)
    (d0 : decode cc pc = .ok (.new ik, 3)) (d3 : decode cc (pc + 3) = .ok (.dup, 1)) (d4 : decode cc (pc + 4) = .ok (.ldc is, 2)) (d6 : decode cc (pc + 6) = .ok (.invokespecial ic, 3)) (d9 : decode cc (pc + 9) = .ok (.athrow, 1))
    (hout : ∀ x ∈ c.exceptionTable.toList, covers x (pc + 9) = false)
    (hRframes : names.length + 3 < R.frames) (hRlocals : (rest.map fun v => v.category).sum + (13 * (names.length + 1) + 43) ≤ R.locals) (hRcells : cells + 1 ≤ R.cells) (hRslots : slots + 6 ≤ R.slots) (hlocks : meth.locks = false)
    (hx : ∀ t : State, s.vm.Alike t.vm → H.size ≤ t.heap.size → (∀ q : Nat, q < H.size → t.heap[q]? = H[q]?) → XC cls s t)
    (hf : ∀ z ∈ locs, free z.base) (hc : cells + 1 ≤ mc) (hs : slots + 6 ≤ ms) :
    W p l e R s m args below meth c H locs cells slots (vx_MQ below Qc XC args s mc ms free) (F0 m pc ls rest) := by
  intro T hT X
  have htr : e.platform.stackTraces = false := (show e.platform.stackTraces = l.stackTraces by rw [X.admits.platform]).trans hl
  have Y := vx_rebase X (R' := { frames := R.frames, locals := R.locals, cells := 1, slots := 6 }) (Nat.le_refl _) (Nat.le_refl _) hRcells hRslots
  obtain ⟨s', hA⟩ : ∃ z, z = (T.setVm s.vm).setFrames (.invoking m args :: below) := ⟨_, rfl⟩
  rw [← hA] at Y
  have hvm : s'.vm = s.vm := by rw [hA]; rfl
  have hhp : s'.heap = H := by rw [hA]; exact hT
  have hW0 : s.WarmedH s'.vm := by rw [hvm]; exact State.WarmedH.refl s
  have hat' : ∀ w ∈ vx_atS own ic cls names, w.before args s' = true := fun w hw => vx_ot_at hW0 hvm.symm (hgood w (List.mem_cons_of_mem _ (List.mem_cons_of_mem _ hw))) (hat w hw)
  have hk' : (Cond.classLink own ik cls).before args s' = true := vx_ot_at hW0 hvm.symm (hgood _ List.mem_cons_self) hk
  have hini' : (Cond.initialized cls).before args s' = true := vx_ot_at hW0 hvm.symm (hgood _ (List.mem_cons_of_mem _ List.mem_cons_self)) hini
  have hU' : vx_Zq Bundle.tN "UNASSIGNED_STACK" Bundle.steD A s' s'.heap := by rw [hhp]; exact vx_Zq.moved hW0.alike (hU.kept hS.2.1)
  have hN' : vx_Zq Bundle.tN "SUPPRESSED_SENTINEL" Bundle.listD A s' s'.heap := by rw [hhp]; exact vx_Zq.moved hW0.alike (hN.kept hS.2.1)
  have h : ∀ w ∈ Bundle.ownAtoms own ic cls names, w.before args s' = true := vx_own hat' (vx_isRefq hU'.1) (vx_isRefq hN'.1) hU'.2.word hN'.2.word
  have hown' : s'.vm.findClass own = some m.cls := by rw [hvm]; exact hown
  have hins : (Cond.instantiable cls 6).before args s' = true := h _ (by simp [Bundle.ownAtoms])
  obtain ⟨vm₁, cX, kX, hfX, hkX, -, -, X₁, st1⟩ := Y.newCold hexec (own := own) (C := cls) (index := ik) (n := 6) hown' hk' hins hini'
    (g := F0 m pc ls rest) rfl (by rw [hb]; exact d0) (Nat.le_refl _) (Nat.le_refl _)
  generalize hT1 : (T.setVm vm₁).pushCell { cls := cX, slots := kX.instanceTypes.map defaultValue, vm := .none } = T1 at X₁ st1
  have hcat : (Value.ref T.heap.size).category = 1 := rfl
  have hcellA : T1.heap[T.heap.size]? = some (freshCell cX kX) := by rw [← hT1]; exact State.heap_pushCell_size _ _
  have d3' : decode c.code (pc + 3) = .ok (.dup, 1) := by rw [hb]; exact d3
  have d4' : decode c.code (pc + 4) = .ok (.ldc is, 2) := by rw [hb]; exact d4
  have hstr' : vk_R own is text sa s' := vk_R.warm hW0 hstr
  obtain ⟨U, hsteps, hrun, hend, hW, hsame, ce, hce, hO⟩ := X₁.ctorThrowS hexec htr (own := own) (cls := cls) (names := names) (ic := ic) hown' hcls hnames h (fun x hx => nomatch hx) hfX hkX hcellA (by rw [hhp, hT]; exact Nat.le_refl _) (msg := .ref sa) rfl
    (g := { method := m, pc := pc + 6, locals := ls, stack := .ref sa :: .ref T.heap.size :: .ref T.heap.size :: rest, locked := none }) rfl hsize rfl rfl (rest := rest) rfl
    (by rw [hb]; exact d6) (by rw [hb]; exact d9) hout hRframes (by simp only [List.map_cons, List.sum_cons, hcat]; omega) hlocks
  obtain ⟨f1, f2⟩ := vx_frame hsame
  rw [hhp] at f1 f2
  have hWs : s.WarmedH U.vm := State.WarmedH.trans hW0 hW
  have hcl : s.vm.findClass cls = some ce.cls := by
    have h9 := hO.cls
    rw [hvm] at h9
    exact h9
  have hall : s.sameButNew ({ U with vm := s.vm } : State) locs mc ms := by
    subst hA
    obtain ⟨e1, e2⟩ := hsame
    rw [State.setFrames_setFrames] at e1
    have h2 : (T.setVm s.vm).sameButNew ({ U with vm := s.vm } : State) [] (0 + 1) (0 + 6) := ⟨e1, e2⟩
    have h3 := X.same.trans h2
    rw [List.append_nil] at h3
    exact h3.mono hc hs
  refine ⟨U, ?_, .threw T.heap.size, hrun, hend, Or.inr ⟨T.heap.size, rfl, cls, ce, locs, hx U hWs.alike f1 (fun q hq => f2 q hq (fun z hz => nomatch hz)), hce, hO.vm, hcl, hWs, hall, hf⟩⟩
  refine st1 _ ?_
  show Steps p.tables e below (T1.setTop { method := m, pc := pc + 3, locals := ls, stack := .ref T.heap.size :: rest, locked := none }) _
  jvm_step X₁.here [X₁.here.top, hexec, d3', Value.category]
  exact X₁.ldcString hexec (own := own) (text := text) (index := is) (a := sa) hown' hstr'.1 hstr'.2
    (g := { method := m, pc := pc + 4, locals := ls, stack := .ref T.heap.size :: .ref T.heap.size :: rest, locked := none }) rfl d4' _ hsteps
/-- 'throw new E("text")', the text by a wide index -/
theorem vx_throwSW {cc : ByteArray} {pc : Nat} (hexec : p.tables.exec = Jvm.exec) (hb : c.code = cc) (hl : l.stackTraces = false) {own cls text : String} {names : List String} {ik is ic mc ms sa : Nat} {A : Nat → Prop}
    (hown : s.vm.findClass own = some m.cls) (hcls : Bundle.fit cls = true) (hnames : ∀ n ∈ names, Bundle.fit n = true)
    (hk : (Cond.classLink own ik cls).before args s = true) (hini : (Cond.initialized cls).before args s = true) (hstr : vk_R own is text sa s) (hat : ∀ w ∈ vx_atS own ic cls names, w.before args s = true)
    (hgood : ∀ w ∈ Cond.classLink own ik cls :: Cond.initialized cls :: vx_atS own ic cls names, vx_ot w = true)
    (hU : vx_Zq Bundle.tN "UNASSIGNED_STACK" Bundle.steD A s s.heap) (hN : vx_Zq Bundle.tN "SUPPRESSED_SENTINEL" Bundle.listD A s s.heap) (hS : va_S A s.heap H locs) (hsize : ls.size = c.maxLocals)
    (d0 : decode cc pc = .ok (.new ik, 3)) (d3 : decode cc (pc + 3) = .ok (.dup, 1)) (d4 : decode cc (pc + 4) = .ok (.ldc_w is, 3)) (d7 : decode cc (pc + 7) = .ok (.invokespecial ic, 3)) (d10 : decode cc (pc + 10) = .ok (.athrow, 1))
    (hout : ∀ x ∈ c.exceptionTable.toList, covers x (pc + 10) = false)
    (hRframes : names.length + 3 < R.frames) (hRlocals : (rest.map fun v => v.category).sum + (13 * (names.length + 1) + 43) ≤ R.locals) (hRcells : cells + 1 ≤ R.cells) (hRslots : slots + 6 ≤ R.slots) (hlocks : meth.locks = false)
    (hx : ∀ t : State, s.vm.Alike t.vm → H.size ≤ t.heap.size → (∀ q : Nat, q < H.size → t.heap[q]? = H[q]?) → XC cls s t)
    (hf : ∀ z ∈ locs, free z.base) (hc : cells + 1 ≤ mc) (hs : slots + 6 ≤ ms) :
    W p l e R s m args below meth c H locs cells slots (vx_MQ below Qc XC args s mc ms free) (F0 m pc ls rest) := by
  intro T hT X
  have htr : e.platform.stackTraces = false := (show e.platform.stackTraces = l.stackTraces by rw [X.admits.platform]).trans hl
  have Y := vx_rebase X (R' := { frames := R.frames, locals := R.locals, cells := 1, slots := 6 }) (Nat.le_refl _) (Nat.le_refl _) hRcells hRslots
  obtain ⟨s', hA⟩ : ∃ z, z = (T.setVm s.vm).setFrames (.invoking m args :: below) := ⟨_, rfl⟩
  rw [← hA] at Y
  have hvm : s'.vm = s.vm := by rw [hA]; rfl
  have hhp : s'.heap = H := by rw [hA]; exact hT
  have hW0 : s.WarmedH s'.vm := by rw [hvm]; exact State.WarmedH.refl s
  have hat' : ∀ w ∈ vx_atS own ic cls names, w.before args s' = true := fun w hw => vx_ot_at hW0 hvm.symm (hgood w (List.mem_cons_of_mem _ (List.mem_cons_of_mem _ hw))) (hat w hw)
  have hk' : (Cond.classLink own ik cls).before args s' = true := vx_ot_at hW0 hvm.symm (hgood _ List.mem_cons_self) hk
  have hini' : (Cond.initialized cls).before args s' = true := vx_ot_at hW0 hvm.symm (hgood _ (List.mem_cons_of_mem _ List.mem_cons_self)) hini
  have hU' : vx_Zq Bundle.tN "UNASSIGNED_STACK" Bundle.steD A s' s'.heap := by rw [hhp]; exact vx_Zq.moved hW0.alike (hU.kept hS.2.1)
  have hN' : vx_Zq Bundle.tN "SUPPRESSED_SENTINEL" Bundle.listD A s' s'.heap := by rw [hhp]; exact vx_Zq.moved hW0.alike (hN.kept hS.2.1)
  have h : ∀ w ∈ Bundle.ownAtoms own ic cls names, w.before args s' = true := vx_own hat' (vx_isRefq hU'.1) (vx_isRefq hN'.1) hU'.2.word hN'.2.word
  have hown' : s'.vm.findClass own = some m.cls := by rw [hvm]; exact hown
  have hins : (Cond.instantiable cls 6).before args s' = true := h _ (by simp [Bundle.ownAtoms])
  obtain ⟨vm₁, cX, kX, hfX, hkX, -, -, X₁, st1⟩ := Y.newCold hexec (own := own) (C := cls) (index := ik) (n := 6) hown' hk' hins hini'
    (g := F0 m pc ls rest) rfl (by rw [hb]; exact d0) (Nat.le_refl _) (Nat.le_refl _)
  generalize hT1 : (T.setVm vm₁).pushCell { cls := cX, slots := kX.instanceTypes.map defaultValue, vm := .none } = T1 at X₁ st1
  have hcat : (Value.ref T.heap.size).category = 1 := rfl
  have hcellA : T1.heap[T.heap.size]? = some (freshCell cX kX) := by rw [← hT1]; exact State.heap_pushCell_size _ _
  have d3' : decode c.code (pc + 3) = .ok (.dup, 1) := by rw [hb]; exact d3
  have d4' : decode c.code (pc + 4) = .ok (.ldc_w is, 3) := by rw [hb]; exact d4
  have hstr' : vk_R own is text sa s' := vk_R.warm hW0 hstr
  obtain ⟨U, hsteps, hrun, hend, hW, hsame, ce, hce, hO⟩ := X₁.ctorThrowS hexec htr (own := own) (cls := cls) (names := names) (ic := ic) hown' hcls hnames h (fun x hx => nomatch hx) hfX hkX hcellA (by rw [hhp, hT]; exact Nat.le_refl _) (msg := .ref sa) rfl
    (g := { method := m, pc := pc + 7, locals := ls, stack := .ref sa :: .ref T.heap.size :: .ref T.heap.size :: rest, locked := none }) rfl hsize rfl rfl (rest := rest) rfl
    (by rw [hb]; exact d7) (by rw [hb]; exact d10) hout hRframes (by simp only [List.map_cons, List.sum_cons, hcat]; omega) hlocks
  obtain ⟨f1, f2⟩ := vx_frame hsame
  rw [hhp] at f1 f2
  have hWs : s.WarmedH U.vm := State.WarmedH.trans hW0 hW
  have hcl : s.vm.findClass cls = some ce.cls := by
    have h9 := hO.cls
    rw [hvm] at h9
    exact h9
  have hall : s.sameButNew ({ U with vm := s.vm } : State) locs mc ms := by
    subst hA
    obtain ⟨e1, e2⟩ := hsame
    rw [State.setFrames_setFrames] at e1
    have h2 : (T.setVm s.vm).sameButNew ({ U with vm := s.vm } : State) [] (0 + 1) (0 + 6) := ⟨e1, e2⟩
    have h3 := X.same.trans h2
    rw [List.append_nil] at h3
    exact h3.mono hc hs
  refine ⟨U, ?_, .threw T.heap.size, hrun, hend, Or.inr ⟨T.heap.size, rfl, cls, ce, locs, hx U hWs.alike f1 (fun q hq => f2 q hq (fun z hz => nomatch hz)), hce, hO.vm, hcl, hWs, hall, hf⟩⟩
  refine st1 _ ?_
  show Steps p.tables e below (T1.setTop { method := m, pc := pc + 3, locals := ls, stack := .ref T.heap.size :: rest, locked := none }) _
  jvm_step X₁.here [X₁.here.top, hexec, d3', Value.category]
  exact X₁.ldcStringW hexec (own := own) (text := text) (index := is) (a := sa) hown' hstr'.1 hstr'.2
    (g := { method := m, pc := pc + 4, locals := ls, stack := .ref T.heap.size :: .ref T.heap.size :: rest, locked := none }) rfl d4' _ hsteps
end Ends
section Bodies
variable {l : Launch}
theorem vx_ofW {y : MethodName} {ws ws' : List Cond} {rm : Room} {Pc : Array Value → State → Prop} {Qc : Array Value → State → Outcome → State → Prop} {XC : String → State → State → Prop} {mc ms : Nat} {free : Addr → Prop} {cc : ByteArray} {maxL : Nat} {ret : Option FieldType}
    (hy : plainName y.cls = true) (hw : ws = Cond.code y cc maxL ret :: ws')
    (body : ∀ p e s m args below meth c s₁, BodyLoose p l y (headSpec ws rm) cc maxL ret e s m args below meth c s₁ → c.maxLocals = maxL → (∀ x ∈ c.exceptionTable.toList, False) → Pc args s →
      W p l e (headSpec ws rm).room s m args below meth c s.heap [] 0 0 (vx_MQ below Qc XC args s mc ms free) (entryFrame m args maxL)) : vx_Met l y ws rm Pc Qc XC mc ms free := by
  refine MetFree.of_bodyS (code := cc) (maxLocals := maxL) (ret := ret) hy ?_ ?_
  · intro args s m h hn
    obtain ⟨meth, c, h1, h2, h3, h4, h5, h6, -, -⟩ := Cond.code_spec hn (atoms_spec (ws := ws) h _ (by rw [hw]; exact List.mem_cons_self))
    exact ⟨meth, c, h1, h2, h3, h4, h5, h6⟩
  · intro p e s m args below meth c s₁ B hml hP _
    have hh0 : s₁.heap = s.heap := by rw [B.state]; rfl
    have ht : ∀ x ∈ c.exceptionTable.toList, False := by
      obtain ⟨meth9, c9, h1, h2, -, -, -, -, h7, -⟩ := Cond.code_spec B.named (atoms_spec (ws := ws) B.pre _ (by rw [hw]; exact List.mem_cons_self))
      cases Option.some.inj (h1.symm.trans B.method)
      cases Option.some.inj (h2.symm.trans (Stand.of_body B).code)
      intro x hx
      rw [Array.isEmpty_iff.mp h7] at hx
      cases hx
    obtain ⟨t, a1, o, b1, b2, b3⟩ := body p e s m args below meth c s₁ B hml ht hP s₁ hh0 (Stand.of_body B)
    exact ⟨t, o, a1, b1, b2, b3⟩
/-- the table of a body with handlers -/
theorem vx_table {p : Program} {x y : MethodName} {S : Spec} {cc bytes : ByteArray} {maxL maxL' : Nat} {ret ret' : Option FieldType} {e : Env} {s s₁ : State} {m : MethodId} {args : Array Value} {below : List Frame} {meth : Method} {c : Code} {hh : List (Nat × Nat × Nat × Nat)}
    (B : BodyLoose p l y S cc maxL ret e s m args below meth c s₁) (h : (Cond.codeWith y bytes maxL' ret' hh).before args s = true) : c.exceptionTable.toList = tableOf hh := by
  obtain ⟨m9, meth9, c9, hn9, h1, h2, -, -, h6, -⟩ := Cond.codeWith_spec h
  cases Option.some.inj (hn9.symm.trans B.named)
  cases Option.some.inj (h1.symm.trans B.method)
  cases Option.some.inj (h2.symm.trans (Stand.of_body B).code)
  rw [← h6, table_eq]
end Bodies
end VXA
/-! ===== END ===== -/
/-! ===== BEGIN a static call of a method with an exception table ===== -/
section VXS
variable {p : Program} {l : Launch} {e : Env} {R : Room} {s : State} {m : MethodId} {args : Array Value} {below : List Frame} {meth : Method} {c : Code} {T : State} {H : Heap} {locs : List Loc} {cells slots : Nat}
abbrev vx_CSW (R : Room) (s : State) (args : Array Value) (own : String) (index : Nat) (y : MethodName) (bytes : ByteArray) (maxL : Nat) (ret : Option FieldType) (hh : List (Nat × Nat × Nat × Nat)) (ws : List Cond) (rm : Room) (mc ms n : Nat) : Prop :=
  (rm.cells = mc ∧ rm.slots = ms ∧ rm.frames + 1 ≤ R.frames ∧ 8 + (maxL + 11) + rm.locals ≤ R.locals ∧ (∀ w ∈ ws, ∀ (a' : Array Value) (U : State), s.WarmedH U.vm → w.before a' U = true) ∧ Cond.codeWith y bytes maxL ret hh ∈ ws) ∧
  (Cond.codeWith y bytes maxL ret hh).before args s = true ∧ (Cond.initialized y.cls).before args s = true ∧ (y.cls ≠ "java/lang/invoke/MethodHandle" ∧ y.cls ≠ "java/lang/invoke/VarHandle") ∧
  (∀ sig, parseMethodDescriptor y.desc = some sig → n = sig.parameters.length) ∧ (Cond.methodLink own index y).before args s = true ∧ (Cond.static y).before args s = true
theorem vx_cwSW {own : String} {index maxL mc ms : Nat} {y : MethodName} {bytes : ByteArray} {ret : Option FieldType} {hh : List (Nat × Nat × Nat × Nat)} {Ts ws ws' : List Cond} {rm : Room} (n : Nat) (ht : ∀ w ∈ Ts, w.before args s = true) (hT : GoodIn Ts (va_wsS own index y ws)) (hw : ws = Cond.codeWith y bytes maxL ret hh :: ws') (hrc : rm.cells = mc) (hrs : rm.slots = ms)
    (hd : y.cls ≠ "java/lang/invoke/MethodHandle" ∧ y.cls ≠ "java/lang/invoke/VarHandle" ∧ (parseMethodDescriptor y.desc).map (fun d => d.parameters.length) = some n) (hR : rm.frames + 1 ≤ R.frames ∧ 8 + (maxL + 11) + rm.locals ≤ R.locals) :
    vx_CSW R s args own index y bytes maxL ret hh ws rm mc ms n := by
  have ok : ∀ w ∈ va_wsS own index y ws, w.before args s = true := fun w h => ht w (hT w h).1
  have hG : GoodIn Ts ws := fun w h => hT w (by unfold va_wsS; exact List.mem_append_right _ h)
  have hc : Cond.codeWith y bytes maxL ret hh ∈ ws := by rw [hw]; exact List.mem_cons_self
  refine ⟨⟨hrc, hrs, hR.1, hR.2, pay_in ht hG, hc⟩, ht _ (hG _ hc).1, ok _ (by simp [va_wsS]), ⟨hd.1, hd.2.1⟩, fun sig h => ?_, ok _ (by simp [va_wsS]), ok _ (by simp [va_wsS])⟩
  have h2 := hd.2.2
  rw [h] at h2
  exact (Option.some.inj h2).symm
theorem vx_callSW (X : Stand p l e R s m args below meth c T locs cells slots) (hexec : p.tables.exec = Jvm.exec) {own : String} {index : Nat} {y : MethodName} {bytes : ByteArray} {maxL : Nat} {ret : Option FieldType} {hh : List (Nat × Nat × Nat × Nat)}
    (hown : s.vm.findClass own = some m.cls) (hlink : (Cond.methodLink own index y).before args s = true) (hstat : (Cond.static y).before args s = true) (hinit : (Cond.initialized y.cls).before args s = true)
    (hcode : (Cond.codeWith y bytes maxL ret hh).before args s = true) (hy : y.cls ≠ "java/lang/invoke/MethodHandle" ∧ y.cls ≠ "java/lang/invoke/VarHandle")
    {W9 : Nat} {Pre : Pt → Array Value → Prop} {Post : Pt → Array Value → Option Value → Pt → Prop} (hK : Back l R p e below s args y 3 W9 Pre Post)
    {g : JFrame} (hg : g.method = m) (hsize : g.locals.size = c.maxLocals) {argsL rest : List Value} (hlen : ∀ sig, parseMethodDescriptor y.desc = some sig → argsL.length = sig.parameters.length)
    (hstack : g.stack = argsL.reverse ++ rest) (hW : 2 * g.monitorRoom + (rest.map fun v => v.category).sum ≤ W9) (hdg : decode c.code g.pc = .ok (.invokestatic index, 3))
    (hpre : ∀ vm₁, s.WarmedH vm₁ → Pre ⟨T.setVm vm₁, locs, cells, slots⟩ argsL.toArray) :
    ∃ (v : Option Value) (vm₁ : Vm) (B : Pt), s.WarmedH vm₁ ∧ Stand p l e R s m args below meth c B.U B.locs B.cells B.slots ∧ Post ⟨T.setVm vm₁, locs, cells, slots⟩ argsL.toArray v B ∧
      ∀ target, Steps p.tables e below (B.U.setTop { g with pc := g.pc + 3, stack := v.toList ++ rest }) target → Steps p.tables e below (T.setTop g) target := by
  obtain ⟨mk, methM, cM, hnamed, hmethM, -, -, -, -, -, -, hsigM⟩ := Cond.codeWith_spec hcode
  have hstatic : methM.isStatic = true := Cond.static_spec hnamed hmethM hstat
  obtain ⟨kP, hkP, -⟩ := className_of_methodNamed hnamed
  have hinitP : kP.init = .initialized := Cond.initialized_spec (findClass_of_methodNamed hnamed) hkP hinit
  obtain ⟨vm₁, X₁, hstep₁⟩ := X.invokestatic hexec hown hlink hnamed hmethM hstatic hkP hinitP hy (g := g) hg (argsL := argsL) (rest := rest) (hlen _ hsigM) hstack hdg
  obtain ⟨v, B, X', hpost, hsteps⟩ := hK m meth c ⟨T.setVm vm₁, locs, cells, slots⟩ { g with stack := rest } (.invokestatic index) mk argsL.toArray X₁ hg hsize hdg hW (X₁.named hnamed) (hpre vm₁ X₁.warmed)
  exact ⟨v, vm₁, B, X₁.warmed, X', hpost, fun target h => hstep₁ _ fun acts => by rw [doInvoke_state]; exact hsteps.trans h⟩
theorem vx_runSW {y : MethodName} {bytes cc : ByteArray} {maxL nL mc ms n index : Nat} {ret : Option FieldType} {hh : List (Nat × Nat × Nat × Nat)} {ws : List Cond} {rm : Room} {Pc : Array Value → State → Prop} {Qc : Array Value → State → Outcome → State → Prop} {free : Addr → Prop} {Ts : List Cond} {own : String} {As rest : List Value} {g : JFrame}
    (S : CallFix p m c cc nL s args Ts own) (hM : Met l y ws rm Pc Qc mc ms free) (cw : vx_CSW R s args own index y bytes maxL ret hh ws rm mc ms n) (hp : PreS s H Pc As)
    (hg : g.method = m) (hn : As.length = n) (hsize : g.locals.size = nL) (hstack : g.stack = As.reverse ++ rest) (hW : 2 * g.monitorRoom + (rest.map fun v => v.category).sum ≤ 8) (hdg : decode cc g.pc = .ok (.invokestatic index, 3)) (hf : cells + mc ≤ R.cells ∧ slots + ms ≤ R.slots) :
    va_Run p l e R s m args below meth c H locs cells slots mc ms g rest (Qc As.toArray) (free) := by
  obtain ⟨⟨hrc, hrs, hfr, hlo, hws, hcw⟩, hcode, hini, hy, hlen, hl, hstt⟩ := cw
  have hK : Back l R p e below s args y 3 8 (PreOf R mc ms Pc) (PostOf Qc mc ms free) := va_backW (hh := hh) (bytes := bytes) (maxL := maxL) (ret := ret) hM hp.1 hrc hrs hfr hlo hws hcw (fun a' U hW => word_at hW (Or.inl (by first | rfl | simp [Cond.onTables, Cond.keeps, Cond.steady])) hini)
  obtain ⟨hx, hb, hml, ho, -⟩ := S
  intro T hT X
  obtain ⟨v, vm₁, ⟨U', l2, c2, s2⟩, hW₁, X', ⟨g', mk, t, L, e1, e2, hq, h1, hL, h2, h3⟩, st⟩ := vx_callSW X hx (hh := hh) (bytes := bytes) (maxL := maxL) (ret := ret) ho hl hstt hini hcode hy hK hg (hsize.trans hml.symm) (argsL := As) (rest := rest) (fun sig h => hn.trans (hlen sig h)) hstack hW (by rw [hb]; exact hdg)
    (fun vm₁ hW₁ => ⟨hf.1, hf.2, hp.2 (T.setVm vm₁) hT hW₁⟩)
  dsimp only [Pt.U, Pt.locs, Pt.cells, Pt.slots] at X' e1 e2 h1 h2 h3 st
  subst h1; subst h2; subst h3
  exact ⟨v, (T.setVm vm₁).calling g' mk As.toArray, t, U', L, hT, X', hL, e1, e2, hq, st⟩
/-- not caught here, past rows that name other classes: it goes on to the caller -/
theorem vx_outP {p : Program} {l : Launch} {e : Env} {R : Room} {s : State} {m : MethodId} {args : Array Value} {below : List Frame} {meth : Method} {c : Code} {H : Heap} {locs : List Loc} {cells slots : Nat} {free : Addr → Prop} {ls : Array Slot} {rest : List Value} {Qc : Array Value → State → Outcome → State → Prop} {XC : String → State → State → Prop}
    {pc : Nat} {own E : String} {ce : Cell} {q : Addr} {mc ms : Nat} (hown : s.vm.findClass own = some m.cls) (hlocks : meth.locks = false)
    (hpass : ∀ z ∈ c.exceptionTable.toList, covers z pc = false ∨ (z.catchType ≠ 0 ∧ ∃ nm : String, (Cond.classLink own z.catchType nm).before args s = true ∧ va_Nc E nm s)) (hcell : H[q]? = some ce) (hv : ce.vm = .none) (hcl : s.vm.findClass E = some ce.cls)
    (hx : ∀ t : State, t.heap = H → s.vm.Alike t.vm → XC E s t) (hf : ∀ z ∈ locs, free z.base) (hc : cells ≤ mc) (hs : slots ≤ ms) :
    vx_W p l e R s m args below meth c H locs cells slots (vx_MQ below Qc XC args s mc ms free) (F0 m pc ls rest) q := by
  intro T hT X
  have hpl : e.platform.magicAccessors = ({} : Platform).magicAccessors := by rw [X.admits.platform]
  obtain ⟨vm', hW', X', st⟩ := X.outThrough hlocks q (g := F0 m pc ls rest) rfl rfl rfl (cell := ce) (by rw [hT]; exact hcell) (by rw [hv]; rfl)
    (by obtain ⟨k9, h9, -⟩ := Vm.findClass_spec hcl; exact ⟨k9, h9⟩) (fun z hz => by
      rcases hpass z hz with h | ⟨hz0, nm, hl1, hn1⟩
      · exact Or.inl h
      · obtain ⟨c6, hc6, hcl6⟩ := Cond.classLink_spec hown hl1 e.platform hpl
        obtain ⟨a8, b8, h1, h2, h3⟩ := hn1
        cases Option.some.inj (h1.symm.trans hcl)
        cases Option.some.inj (h2.symm.trans hc6)
        exact Or.inr ⟨hz0, _, hcl6, h3⟩)
  obtain ⟨g₀, hfr⟩ := X'.frames_eq
  have hcell9 : ((T.setVm vm').setFrames (.throwing q :: below)).heap[q]? = some ce := by
    show T.heap[q]? = some ce
    rw [hT]; exact hcell
  have hend : Ended ((T.setVm vm').setFrames (.throwing q :: below)) below (.threw q) := State.frames_setFrames _ (State.cur_lt_of_frames hfr)
  refine ⟨(T.setVm vm').setFrames (.throwing q :: below), ?_, .threw q, X'.here.running, hend, Or.inr ⟨q, rfl, E, ce, locs, hx _ hT (X'.ends _).1.alike, hcell9, hv, hcl, (X'.ends _).1, (X'.ends _).2.mono hc hs, hf⟩⟩
  rw [X.pushThrowing_eq]
  exact st
/-- a thing of a world lies in the heap -/
theorem vx_lt {D : va_G} {cl : List vw_C} {ws : va_W} {H1 : Heap} (h : va_P D cl ws H1) {k : Nat} {q : Nat × va_E} (hk : ws[k]? = some q) : q.1 < H1.size := (h k q hk).lt
end VXS
/-! ===== END ===== -/
/-! ===== BEGIN methods with a table of their own: called by a name, returning or throwing ===== -/
section VXH
/-! vx_backW, vx_callVX, vx_callSX, vx_callVW, vx_runVW, vx_runVX, vx_runSX, vx_ofWH follow the same proofs as their sisters above (Free/Laws.lean, Shelf42/LK1.lean); vx_outP calls Shelf42/NT130.lean (outThrough). -/
section
variable {l : Launch} {R : Room} {p : Program} {e : Env} {below : List Frame} {s : State} {sargs : Array Value} {y : MethodName} {len W9 : Nat}
theorem vx_backW {ws : List Cond} {rm : Room} {Pc : Array Value → State → Prop} {Qc : Array Value → State → Outcome → State → Prop} {XC : String → State → State → Prop} {mc ms : Nat} {free : Addr → Prop} {bytes : ByteArray} {maxL : Nat} {ret : Option FieldType} {hh : List (Nat × Nat × Nat × Nat)}
    (hM : vx_Met l y ws rm Pc Qc XC mc ms free) (hblind : FrameBlind Pc) (hrc : rm.cells = mc) (hrs : rm.slots = ms)
    (hframes : rm.frames + 1 ≤ R.frames) (hlocals : W9 + (maxL + 11) + rm.locals ≤ R.locals)
    (hws : ∀ w ∈ ws, ∀ a' U, s.WarmedH U.vm → w.before a' U = true) (hcode : Cond.codeWith y bytes maxL ret hh ∈ ws) (hinit : ∀ a' U, s.WarmedH U.vm → (Cond.initialized y.cls).before a' U = true) :
    vx_Back l R p e below s sargs y len W9 (PreOf R mc ms Pc) (PostOf Qc mc ms free) (vx_Post XC mc ms free) := by
  intro m meth c A g ig mk a X hg hsize hdg hW hn hp
  have h1 : (headSpec ws rm).pre.before a A.U = true := atoms_intro fun w hw => hws w hw _ _ X.warmed
  have h2 : (Cond.codeWith y bytes maxL ret hh).before a A.U = true := hws _ hcode _ _ X.warmed
  have h3 : (Cond.initialized y.cls).before a A.U = true := hinit _ _ X.warmed
  have h4 : A.cells + (headSpec ws rm).room.cells ≤ R.cells := by rw [show (headSpec ws rm).room.cells = mc from hrc]; exact hp.1
  have h5 : A.slots + (headSpec ws rm).room.slots ≤ R.slots := by rw [show (headSpec ws rm).room.slots = ms from hrs]; exact hp.2.1
  have hPc : Pc a (A.U.calling g mk a) := hblind _ _ _ _ hp.2.2
  obtain ⟨U, Ls, c0, s0⟩ := A
  dsimp only [Pt.U, Pt.locs, Pt.cells, Pt.slots] at h1 h2 h3 h4 h5 X hn hPc ⊢
  obtain ⟨m9, methY, cY, hn9, hmY, hcY, -, hlY, -⟩ := Cond.codeWith_spec h2
  cases Option.some.inj (hn9.symm.trans hn)
  obtain ⟨kY, hkY, -⟩ := className_of_methodNamed hn
  have hinitY : kY.init = .initialized := Cond.initialized_spec (findClass_of_methodNamed hn) hkY h3
  have h : At U g.method c below := by rw [hg]; exact X.here
  have hlocals9 : W9 + (maxL + 11) + (headSpec ws rm).room.locals ≤ R.locals := hlocals
  have happ : (headSpec ws rm).appliesLoose y e.platform (U.calling g mk a) = true :=
    Spec.appliesLoose_calling (g := g) h hdg hn hkY hinitY
      (X.room_calling (g := g) (R' := (headSpec ws rm).room) hsize hmY hcY hframes (by rw [hlY]; omega) h4 h5) h1
  obtain ⟨mid, hmid⟩ := h.above
  have hfr : (U.setTop g).frames = (.java g :: mid) ++ below := by rw [State.frames_setTop' g h.top, hmid]; rfl
  obtain ⟨o, s₂, hsteps, -, hend, hq⟩ := Steps.callFree hM p X.admits X.cas X.clock (acts := []) hfr happ hPc trivial
  have hq' : vx_Q Qc XC mc ms free a (U.calling g mk a) o s₂ := hq
  rw [State.frames_setTop' g h.top] at hend
  obtain ⟨g₀, hg0⟩ := Option.isSome_iff_exists.mp h.top
  obtain ⟨r, hr⟩ := State.topJava?_eq_some.mp hg0
  have hr' : (({ U with heap := s₂.heap, slotsUsed := s₂.slotsUsed } : State).setVm s₂.vm).frames = .java g₀ :: r := hr
  rcases hq' with ⟨hqc, L, hfe, hL⟩ | ⟨q, rfl, E, ce, L, hx, hce, hcv, hcl, hW₂, hsm, hL⟩
  · obtain ⟨⟨v, rfl⟩, hW₂, e2, q2, q3, q4, q5, q6⟩ := id hfe
    have e3 : s₂ = ({ (U.calling g mk a).setFrames s₂.frames with heap := s₂.heap, slotsUsed := s₂.slotsUsed } : State).setVm s₂.vm := by
      have : s₂ = ({ s₂ with vm := (U.calling g mk a).vm } : State).setVm s₂.vm := rfl
      rw [e2] at this
      exact this
    obtain ⟨c₂, i₂, len₂, hc₂, hd₂, hf₂⟩ := hend
    have hW' : U.WarmedH s₂.vm := hW₂
    have hcc : c₂ = c := by
      have h1 : s₂.code? g.method = U.code? g.method := by
        rw [State.code?_eq, State.code?_eq, hW'.alike.method?]
      exact Option.some.inj (hc₂.symm.trans (h1.trans h.code))
    subst hcc
    have hlen : len₂ = len := by rw [hdg] at hd₂; cases hd₂; rfl
    subst hlen
    have hs₂ : s₂ = (({ U with heap := s₂.heap, slotsUsed := s₂.slotsUsed } : State).setVm s₂.vm).setTop { g with pc := g.pc + len₂, stack := v.toList ++ g.stack } := by
      refine e3.trans ?_
      rw [hf₂, State.calling_eq h.top, State.setFrames_setFrames, State.setTop_of_frames _ hr', hr]
      rfl
    have hsame : U.sameButNew ({ U with heap := s₂.heap, slotsUsed := s₂.slotsUsed } : State) L mc ms := by
      refine ⟨?_, q2, q3, q4, q5, q6⟩
      obtain ⟨t, ht, -⟩ := State.frames_cons hr
      show ({ U with heap := s₂.heap, slotsUsed := s₂.slotsUsed } : State) = { U.setFrames U.frames with heap := s₂.heap, slotsUsed := s₂.slotsUsed }
      rw [State.setFrames_self ht]
    subst hg
    refine Or.inl ⟨v, ⟨(({ U with heap := s₂.heap, slotsUsed := s₂.slotsUsed } : State).setVm s₂.vm), Ls ++ L, c0 + mc, s0 + ms⟩,
      ⟨X.admits, X.cas, X.clock, X.frames, X.room, X.hears, X.method, X.code, (X.here.setHeapUsed s₂.heap s₂.slotsUsed).setVm hW'.alike, X.tail, State.WarmedH.trans X.warmed hW', X.limits, X.bytes, X.same.trans (hsame.setVm s.vm)⟩,
      ⟨g, mk, s₂, L, rfl, rfl, hqc, rfl, hL, rfl, rfl⟩, ?_⟩
    show Steps p.tables e below _ ((({ U with heap := s₂.heap, slotsUsed := s₂.slotsUsed } : State).setVm s₂.vm).setTop { g with pc := g.pc + len₂, stack := v.toList ++ g.stack })
    rw [← hs₂]
    exact hsteps
  · obtain ⟨e2, q2, q3, q4, q5, q6⟩ := id hsm
    have e3 : s₂ = ({ (U.calling g mk a).setFrames s₂.frames with heap := s₂.heap, slotsUsed := s₂.slotsUsed } : State).setVm s₂.vm := by
      have : s₂ = ({ s₂ with vm := (U.calling g mk a).vm } : State).setVm s₂.vm := rfl
      rw [e2] at this
      exact this
    have hf₂ : s₂.frames = .throwing q :: .java g :: U.frames.tail := hend
    have hW' : U.WarmedH s₂.vm := hW₂
    have hs₂ : s₂ = ((({ U with heap := s₂.heap, slotsUsed := s₂.slotsUsed } : State).setVm s₂.vm).setTop g).pushFrame (.throwing q) := by
      refine e3.trans ?_
      rw [hf₂, State.calling_eq h.top, State.setFrames_setFrames, State.pushFrame, State.frames_setTop _ hr', State.setTop_of_frames _ hr', State.setFrames_setFrames, hr]
      rfl
    have hsame : U.sameButNew ({ U with heap := s₂.heap, slotsUsed := s₂.slotsUsed } : State) L mc ms := by
      refine ⟨?_, q2, q3, q4, q5, q6⟩
      obtain ⟨t, ht, -⟩ := State.frames_cons hr
      show ({ U with heap := s₂.heap, slotsUsed := s₂.slotsUsed } : State) = { U.setFrames U.frames with heap := s₂.heap, slotsUsed := s₂.slotsUsed }
      rw [State.setFrames_self ht]
    subst hg
    refine Or.inr ⟨q, ⟨(({ U with heap := s₂.heap, slotsUsed := s₂.slotsUsed } : State).setVm s₂.vm), Ls ++ L, c0 + mc, s0 + ms⟩,
      ⟨X.admits, X.cas, X.clock, X.frames, X.room, X.hears, X.method, X.code, (X.here.setHeapUsed s₂.heap s₂.slotsUsed).setVm hW'.alike, X.tail, State.WarmedH.trans X.warmed hW', X.limits, X.bytes, X.same.trans (hsame.setVm s.vm)⟩,
      ⟨g, mk, s₂, L, E, ce, rfl, rfl, hx, hce, hcv, hcl, rfl, hL, rfl, rfl⟩, ?_⟩
    show Steps p.tables e below _ (((({ U with heap := s₂.heap, slotsUsed := s₂.slotsUsed } : State).setVm s₂.vm).setTop g).pushFrame (.throwing q))
    rw [← hs₂]
    exact hsteps
end
variable {p : Program} {l : Launch} {e : Env} {R : Room} {s : State} {m : MethodId} {args : Array Value} {below : List Frame} {meth : Method} {c : Code} {T : State} {H : Heap} {locs : List Loc} {cells slots : Nat}
theorem vx_callVX (X : Stand p l e R s m args below meth c T locs cells slots) (hexec : p.tables.exec = Jvm.exec) {own C : String} {index : Nat} {y : MethodName} {bytes : ByteArray} {maxL : Nat} {ret : Option FieldType} {hh : List (Nat × Nat × Nat × Nat)}
    (hown : s.vm.findClass own = some m.cls) (hlink : (Cond.methodLink own index y).before args s = true) (hinst : (Cond.instanceMethod y).before args s = true) (hsel : (Cond.selects C y y).before args s = true)
    (hcode : (Cond.codeWith y bytes maxL ret hh).before args s = true) (hy : y.cls ≠ "java/lang/invoke/MethodHandle" ∧ y.cls ≠ "java/lang/invoke/VarHandle")
    {W9 : Nat} {Pre : Pt → Array Value → Prop} {Post : Pt → Array Value → Option Value → Pt → Prop} {PostX : Pt → Array Value → Addr → Pt → Prop} (hK : vx_Back l R p e below s args y 3 W9 Pre Post PostX)
    {b : Addr} {cellB : Cell} (hcell : T.heap[b]? = some cellB) (hobj : cellB.vm.isStatics = false) (hcls : s.vm.findClass C = some cellB.cls)
    {g : JFrame} (hg : g.method = m) (hsize : g.locals.size = c.maxLocals) {argsL rest : List Value} (hlen : ∀ sig, parseMethodDescriptor y.desc = some sig → argsL.length = sig.parameters.length)
    (hstack : g.stack = argsL.reverse ++ .ref b :: rest) (hW : 2 * g.monitorRoom + (rest.map fun v => v.category).sum ≤ W9) (hdg : decode c.code g.pc = .ok (.invokevirtual index, 3))
    (hpre : ∀ vm₁, s.WarmedH vm₁ → Pre ⟨T.setVm vm₁, locs, cells, slots⟩ (Value.ref b :: argsL).toArray) :
    (∃ (v : Option Value) (vm₁ : Vm) (B : Pt), s.WarmedH vm₁ ∧ Stand p l e R s m args below meth c B.U B.locs B.cells B.slots ∧ Post ⟨T.setVm vm₁, locs, cells, slots⟩ (Value.ref b :: argsL).toArray v B ∧
      ∀ target, Steps p.tables e below (B.U.setTop { g with pc := g.pc + 3, stack := v.toList ++ rest }) target → Steps p.tables e below (T.setTop g) target) ∨
    (∃ (q : Addr) (vm₁ : Vm) (B : Pt), s.WarmedH vm₁ ∧ Stand p l e R s m args below meth c B.U B.locs B.cells B.slots ∧ PostX ⟨T.setVm vm₁, locs, cells, slots⟩ (Value.ref b :: argsL).toArray q B ∧
      Steps p.tables e below (T.setTop g) ((B.U.setTop { g with stack := rest }).pushFrame (.throwing q))) := by
  obtain ⟨mk, methM, hnamed, hmethM, hstM, habM⟩ := Cond.instanceMethod_spec hinst
  obtain ⟨m8, methM', cM, hn8, hmethM', -, -, -, -, -, -, hsigM⟩ := Cond.codeWith_spec hcode
  cases Option.some.inj (hn8.symm.trans hnamed)
  cases hmethM.symm.trans hmethM'
  obtain ⟨c2, r2, m2, q1, q2, q3, q4, kP, hkP, hkPi⟩ := Cond.selects_spec hsel
  cases hcls.symm.trans q1
  cases (State.methodFound?_of_named hnamed hy).symm.trans q2
  cases hnamed.symm.trans q3
  have hselP : selectMethod e.platform s.vm cellB.cls mk = .method mk := by rw [Launch.admits_selectMethod X.admits]; exact q4
  obtain ⟨vm₁, X₁, hstep₁⟩ := X.invokevirtual hexec hown hlink hnamed hmethM hstM hkP hkPi hy (a := b) (cell := cellB) hcell
    (fun z h => by rw [h] at hobj; cases hobj) hselP hmethM habM hkP hkPi (g := g) hg (argsL := argsL) (rest := rest) (hlen _ hsigM) hstack hdg
  rcases hK m meth c ⟨T.setVm vm₁, locs, cells, slots⟩ { g with stack := rest } (.invokevirtual index) mk (Value.ref b :: argsL).toArray X₁ hg hsize hdg hW (X₁.named hnamed) (hpre vm₁ X₁.warmed) with ⟨v, B, X', hpost, hsteps⟩ | ⟨q, B, X', hpost, hsteps⟩
  · exact Or.inl ⟨v, vm₁, B, X₁.warmed, X', hpost, fun target h => hstep₁ _ fun acts => by rw [doInvoke_state]; exact hsteps.trans h⟩
  · exact Or.inr ⟨q, vm₁, B, X₁.warmed, X', hpost, hstep₁ _ fun acts => by rw [doInvoke_state]; exact hsteps⟩
theorem vx_callSX (X : Stand p l e R s m args below meth c T locs cells slots) (hexec : p.tables.exec = Jvm.exec) {own : String} {index : Nat} {y : MethodName} {bytes : ByteArray} {maxL : Nat} {ret : Option FieldType} {hh : List (Nat × Nat × Nat × Nat)}
    (hown : s.vm.findClass own = some m.cls) (hlink : (Cond.methodLink own index y).before args s = true) (hstat : (Cond.static y).before args s = true) (hinit : (Cond.initialized y.cls).before args s = true)
    (hcode : (Cond.codeWith y bytes maxL ret hh).before args s = true) (hy : y.cls ≠ "java/lang/invoke/MethodHandle" ∧ y.cls ≠ "java/lang/invoke/VarHandle")
    {W9 : Nat} {Pre : Pt → Array Value → Prop} {Post : Pt → Array Value → Option Value → Pt → Prop} {PostX : Pt → Array Value → Addr → Pt → Prop} (hK : vx_Back l R p e below s args y 3 W9 Pre Post PostX)
    {g : JFrame} (hg : g.method = m) (hsize : g.locals.size = c.maxLocals) {argsL rest : List Value} (hlen : ∀ sig, parseMethodDescriptor y.desc = some sig → argsL.length = sig.parameters.length)
    (hstack : g.stack = argsL.reverse ++ rest) (hW : 2 * g.monitorRoom + (rest.map fun v => v.category).sum ≤ W9) (hdg : decode c.code g.pc = .ok (.invokestatic index, 3))
    (hpre : ∀ vm₁, s.WarmedH vm₁ → Pre ⟨T.setVm vm₁, locs, cells, slots⟩ argsL.toArray) :
    (∃ (v : Option Value) (vm₁ : Vm) (B : Pt), s.WarmedH vm₁ ∧ Stand p l e R s m args below meth c B.U B.locs B.cells B.slots ∧ Post ⟨T.setVm vm₁, locs, cells, slots⟩ argsL.toArray v B ∧
      ∀ target, Steps p.tables e below (B.U.setTop { g with pc := g.pc + 3, stack := v.toList ++ rest }) target → Steps p.tables e below (T.setTop g) target) ∨
    (∃ (q : Addr) (vm₁ : Vm) (B : Pt), s.WarmedH vm₁ ∧ Stand p l e R s m args below meth c B.U B.locs B.cells B.slots ∧ PostX ⟨T.setVm vm₁, locs, cells, slots⟩ argsL.toArray q B ∧
      Steps p.tables e below (T.setTop g) ((B.U.setTop { g with stack := rest }).pushFrame (.throwing q))) := by
  obtain ⟨mk, methM, cM, hnamed, hmethM, -, -, -, -, -, -, hsigM⟩ := Cond.codeWith_spec hcode
  have hstatic : methM.isStatic = true := Cond.static_spec hnamed hmethM hstat
  obtain ⟨kP, hkP, -⟩ := className_of_methodNamed hnamed
  have hinitP : kP.init = .initialized := Cond.initialized_spec (findClass_of_methodNamed hnamed) hkP hinit
  obtain ⟨vm₁, X₁, hstep₁⟩ := X.invokestatic hexec hown hlink hnamed hmethM hstatic hkP hinitP hy (g := g) hg (argsL := argsL) (rest := rest) (hlen _ hsigM) hstack hdg
  rcases hK m meth c ⟨T.setVm vm₁, locs, cells, slots⟩ { g with stack := rest } (.invokestatic index) mk argsL.toArray X₁ hg hsize hdg hW (X₁.named hnamed) (hpre vm₁ X₁.warmed) with ⟨v, B, X', hpost, hsteps⟩ | ⟨q, B, X', hpost, hsteps⟩
  · exact Or.inl ⟨v, vm₁, B, X₁.warmed, X', hpost, fun target h => hstep₁ _ fun acts => by rw [doInvoke_state]; exact hsteps.trans h⟩
  · exact Or.inr ⟨q, vm₁, B, X₁.warmed, X', hpost, hstep₁ _ fun acts => by rw [doInvoke_state]; exact hsteps⟩
theorem vx_callVW (X : Stand p l e R s m args below meth c T locs cells slots) (hexec : p.tables.exec = Jvm.exec) {own C : String} {index : Nat} {y : MethodName} {bytes : ByteArray} {maxL : Nat} {ret : Option FieldType} {hh : List (Nat × Nat × Nat × Nat)}
    (hown : s.vm.findClass own = some m.cls) (hlink : (Cond.methodLink own index y).before args s = true) (hinst : (Cond.instanceMethod y).before args s = true) (hsel : (Cond.selects C y y).before args s = true)
    (hcode : (Cond.codeWith y bytes maxL ret hh).before args s = true) (hy : y.cls ≠ "java/lang/invoke/MethodHandle" ∧ y.cls ≠ "java/lang/invoke/VarHandle")
    {W9 : Nat} {Pre : Pt → Array Value → Prop} {Post : Pt → Array Value → Option Value → Pt → Prop} (hK : Back l R p e below s args y 3 W9 Pre Post)
    {b : Addr} {cellB : Cell} (hcell : T.heap[b]? = some cellB) (hobj : cellB.vm.isStatics = false) (hcls : s.vm.findClass C = some cellB.cls)
    {g : JFrame} (hg : g.method = m) (hsize : g.locals.size = c.maxLocals) {argsL rest : List Value} (hlen : ∀ sig, parseMethodDescriptor y.desc = some sig → argsL.length = sig.parameters.length)
    (hstack : g.stack = argsL.reverse ++ .ref b :: rest) (hW : 2 * g.monitorRoom + (rest.map fun v => v.category).sum ≤ W9) (hdg : decode c.code g.pc = .ok (.invokevirtual index, 3))
    (hpre : ∀ vm₁, s.WarmedH vm₁ → Pre ⟨T.setVm vm₁, locs, cells, slots⟩ (Value.ref b :: argsL).toArray) :
    ∃ (v : Option Value) (vm₁ : Vm) (B : Pt), s.WarmedH vm₁ ∧ Stand p l e R s m args below meth c B.U B.locs B.cells B.slots ∧ Post ⟨T.setVm vm₁, locs, cells, slots⟩ (Value.ref b :: argsL).toArray v B ∧
      ∀ target, Steps p.tables e below (B.U.setTop { g with pc := g.pc + 3, stack := v.toList ++ rest }) target → Steps p.tables e below (T.setTop g) target := by
  obtain ⟨mk, methM, hnamed, hmethM, hstM, habM⟩ := Cond.instanceMethod_spec hinst
  obtain ⟨m8, methM', cM, hn8, hmethM', -, -, -, -, -, -, hsigM⟩ := Cond.codeWith_spec hcode
  cases Option.some.inj (hn8.symm.trans hnamed)
  cases hmethM.symm.trans hmethM'
  obtain ⟨c2, r2, m2, q1, q2, q3, q4, kP, hkP, hkPi⟩ := Cond.selects_spec hsel
  cases hcls.symm.trans q1
  cases (State.methodFound?_of_named hnamed hy).symm.trans q2
  cases hnamed.symm.trans q3
  have hselP : selectMethod e.platform s.vm cellB.cls mk = .method mk := by rw [Launch.admits_selectMethod X.admits]; exact q4
  obtain ⟨vm₁, X₁, hstep₁⟩ := X.invokevirtual hexec hown hlink hnamed hmethM hstM hkP hkPi hy (a := b) (cell := cellB) hcell
    (fun z h => by rw [h] at hobj; cases hobj) hselP hmethM habM hkP hkPi (g := g) hg (argsL := argsL) (rest := rest) (hlen _ hsigM) hstack hdg
  obtain ⟨v, B, X', hpost, hsteps⟩ := hK m meth c ⟨T.setVm vm₁, locs, cells, slots⟩ { g with stack := rest } (.invokevirtual index) mk (Value.ref b :: argsL).toArray X₁ hg hsize hdg hW (X₁.named hnamed) (hpre vm₁ X₁.warmed)
  exact ⟨v, vm₁, B, X₁.warmed, X', hpost, fun target h => hstep₁ _ fun acts => by rw [doInvoke_state]; exact hsteps.trans h⟩
abbrev vx_CVW (R : Room) (s : State) (args : Array Value) (own C : String) (index : Nat) (y : MethodName) (bytes : ByteArray) (maxL : Nat) (ret : Option FieldType) (hh : List (Nat × Nat × Nat × Nat)) (ws : List Cond) (rm : Room) (mc ms n : Nat) : Prop :=
  (rm.cells = mc ∧ rm.slots = ms ∧ rm.frames + 1 ≤ R.frames ∧ 8 + (maxL + 11) + rm.locals ≤ R.locals ∧ (∀ w ∈ ws, ∀ (a' : Array Value) (U : State), s.WarmedH U.vm → w.before a' U = true) ∧ Cond.codeWith y bytes maxL ret hh ∈ ws) ∧
  (Cond.codeWith y bytes maxL ret hh).before args s = true ∧ (Cond.initialized y.cls).before args s = true ∧ (y.cls ≠ "java/lang/invoke/MethodHandle" ∧ y.cls ≠ "java/lang/invoke/VarHandle") ∧
  (∀ sig, parseMethodDescriptor y.desc = some sig → n = sig.parameters.length) ∧ (Cond.methodLink own index y).before args s = true ∧ (Cond.instanceMethod y).before args s = true ∧ (Cond.selects C y y).before args s = true
theorem vx_cwVW {own C : String} {index maxL mc ms : Nat} {y : MethodName} {bytes : ByteArray} {ret : Option FieldType} {hh : List (Nat × Nat × Nat × Nat)} {Ts ws ws' : List Cond} {rm : Room} (n : Nat) (ht : ∀ w ∈ Ts, w.before args s = true) (hT : GoodIn Ts (wsV own index C y ws)) (hw : ws = Cond.codeWith y bytes maxL ret hh :: ws') (hrc : rm.cells = mc) (hrs : rm.slots = ms)
    (hd : y.cls = C ∧ y.cls ≠ "java/lang/invoke/MethodHandle" ∧ y.cls ≠ "java/lang/invoke/VarHandle" ∧ (parseMethodDescriptor y.desc).map (fun d => d.parameters.length) = some n) (hR : rm.frames + 1 ≤ R.frames ∧ 8 + (maxL + 11) + rm.locals ≤ R.locals) :
    vx_CVW R s args own C index y bytes maxL ret hh ws rm mc ms n := by
  obtain ⟨hC, hd⟩ := hd
  subst hC
  have ok : ∀ w ∈ wsV own index y.cls y ws, w.before args s = true := fun w h => ht w (hT w h).1
  have hG : GoodIn Ts ws := fun w h => hT w (by unfold wsV; exact List.mem_append_right _ h)
  have hc : Cond.codeWith y bytes maxL ret hh ∈ ws := by rw [hw]; exact List.mem_cons_self
  refine ⟨⟨hrc, hrs, hR.1, hR.2, pay_in ht hG, hc⟩, ht _ (hG _ hc).1, ok _ (by simp [wsV]), ⟨hd.1, hd.2.1⟩, fun sig h => ?_, ok _ (by simp [wsV]), ok _ (by simp [wsV]), ok _ (by simp [wsV])⟩
  have h2 := hd.2.2
  rw [h] at h2
  exact (Option.some.inj h2).symm
theorem vx_runVW {y : MethodName} {bytes cc : ByteArray} {maxL nL mc ms n index : Nat} {ret : Option FieldType} {hh : List (Nat × Nat × Nat × Nat)} {ws : List Cond} {rm : Room} {Pc : Array Value → State → Prop} {Qc : Array Value → State → Outcome → State → Prop} {free : Addr → Prop} {Ts : List Cond} {own C : String} {b : Addr} {As rest : List Value} {g : JFrame}
    (S : CallFix p m c cc nL s args Ts own) (hM : Met l y ws rm Pc Qc mc ms free) (cw : vx_CVW R s args own C index y bytes maxL ret hh ws rm mc ms n) (hp : PreV s H C b Pc As)
    (hg : g.method = m) (hn : As.length = n) (hsize : g.locals.size = nL) (hstack : g.stack = As.reverse ++ .ref b :: rest) (hW : 2 * g.monitorRoom + (rest.map fun v => v.category).sum ≤ 8) (hdg : decode cc g.pc = .ok (.invokevirtual index, 3)) (hf : cells + mc ≤ R.cells ∧ slots + ms ≤ R.slots) :
    va_Run p l e R s m args below meth c H locs cells slots mc ms g rest (Qc (Value.ref b :: As).toArray) free := by
  obtain ⟨⟨hrc, hrs, hfr, hlo, hws, hcw⟩, hcode, hini, hy, hlen, hl, hin, hse⟩ := cw
  have hK : Back l R p e below s args y 3 8 (PreOf R mc ms Pc) (PostOf Qc mc ms free) := va_backW (hh := hh) (bytes := bytes) (maxL := maxL) (ret := ret) hM hp.1 hrc hrs hfr hlo hws hcw (fun a' U hW => word_at hW (Or.inl (by first | rfl | simp [Cond.onTables, Cond.keeps, Cond.steady])) hini)
  obtain ⟨hx, hb, hml, ho, -⟩ := S
  obtain ⟨-, ⟨cellB, hcB, hoB, hclB⟩, hPc⟩ := hp
  intro T hT X
  obtain ⟨v, vm₁, ⟨U', l2, c2, s2⟩, hW₁, X', ⟨g', mk, t, L, e1, e2, hq, h1, hL, h2, h3⟩, st⟩ := vx_callVW X hx (C := C) (hh := hh) (bytes := bytes) (maxL := maxL) (ret := ret) ho hl hin hse hcode hy hK (by rw [hT]; exact hcB) hoB hclB hg (hsize.trans hml.symm) (argsL := As) (rest := rest) (fun sig h => hn.trans (hlen sig h)) hstack hW (by rw [hb]; exact hdg)
    (fun vm₁ hW₁ => ⟨hf.1, hf.2, hPc (T.setVm vm₁) hT hW₁⟩)
  dsimp only [Pt.U, Pt.locs, Pt.cells, Pt.slots] at X' e1 e2 h1 h2 h3 st
  subst h1; subst h2; subst h3
  exact ⟨v, (T.setVm vm₁).calling g' mk (Value.ref b :: As).toArray, t, U', L, hT, X', hL, e1, e2, hq, st⟩
section
variable {y : MethodName} {bytes cc : ByteArray} {maxL nL mc ms n index : Nat} {ret : Option FieldType} {ws : List Cond} {rm : Room} {Pc : Array Value → State → Prop} {Qc : Array Value → State → Outcome → State → Prop} {XC : String → State → State → Prop} {free : Addr → Prop} {Ts : List Cond} {own C : String} {b : Addr} {As rest : List Value} {g : JFrame}
theorem vx_runVX {hh : List (Nat × Nat × Nat × Nat)} (S : CallFix p m c cc nL s args Ts own) (hM : vx_Met l y ws rm Pc Qc XC mc ms free) (cw : vx_CVW R s args own C index y bytes maxL ret hh ws rm mc ms n) (hp : PreV s H C b Pc As)
    (hg : g.method = m) (hn : As.length = n) (hsize : g.locals.size = nL) (hstack : g.stack = As.reverse ++ .ref b :: rest) (hW : 2 * g.monitorRoom + (rest.map fun v => v.category).sum ≤ 8) (hdg : decode cc g.pc = .ok (.invokevirtual index, 3)) (hf : cells + mc ≤ R.cells ∧ slots + ms ≤ R.slots) :
    vx_Run p l e R s m args below meth c H locs cells slots mc ms g rest (Qc (Value.ref b :: As).toArray) XC free := by
  obtain ⟨⟨hrc, hrs, hfr, hlo, hws, hcw⟩, hcode, hini, hy, hlen, hl, hin, hse⟩ := cw
  have hK : vx_Back l R p e below s args y 3 8 (PreOf R mc ms Pc) (PostOf Qc mc ms free) (vx_Post XC mc ms free) := vx_backW (hh := hh) (bytes := bytes) (maxL := maxL) (ret := ret) hM hp.1 hrc hrs hfr hlo hws hcw (fun a' U hW => word_at hW (Or.inl (by first | rfl | simp [Cond.onTables, Cond.keeps, Cond.steady])) hini)
  obtain ⟨hx, hb, hml, ho, -⟩ := S
  obtain ⟨-, ⟨cellB, hcB, hoB, hclB⟩, hPc⟩ := hp
  intro T hT X
  rcases vx_callVX X hx (C := C) (hh := hh) (bytes := bytes) (maxL := maxL) (ret := ret) ho hl hin hse hcode hy hK (by rw [hT]; exact hcB) hoB hclB hg (hsize.trans hml.symm) (argsL := As) (rest := rest) (fun sig h => hn.trans (hlen sig h)) hstack hW (by rw [hb]; exact hdg)
    (fun vm₁ hW₁ => ⟨hf.1, hf.2, hPc (T.setVm vm₁) hT hW₁⟩) with ⟨v, vm₁, ⟨U', l2, c2, s2⟩, hW₁, X', ⟨g', mk, t, L, e1, e2, hq, h1, hL, h2, h3⟩, st⟩ | ⟨q, vm₁, ⟨U', l2, c2, s2⟩, hW₁, X', ⟨g', mk, t, L, E, ce, e1, e2, hq, hce, hcv, hcl, h1, hL, h2, h3⟩, st⟩
  · dsimp only [Pt.U, Pt.locs, Pt.cells, Pt.slots] at X' e1 e2 h1 h2 h3 st
    subst h1; subst h2; subst h3
    exact Or.inl ⟨v, (T.setVm vm₁).calling g' mk (Value.ref b :: As).toArray, t, U', L, hT, X', hL, e1, e2, hq, st⟩
  · dsimp only [Pt.U, Pt.locs, Pt.cells, Pt.slots] at X' e1 e2 h1 h2 h3 st hcl
    subst h1; subst h2; subst h3
    exact Or.inr ⟨q, (T.setVm vm₁).calling g' mk (Value.ref b :: As).toArray, t, U', L, E, ce, hT, X', hL, e1, e2, hq, hce, hcv, vx_cls hW₁ hcl, st⟩
theorem vx_runSX {hh : List (Nat × Nat × Nat × Nat)} (S : CallFix p m c cc nL s args Ts own) (hM : vx_Met l y ws rm Pc Qc XC mc ms free) (cw : vx_CSW R s args own index y bytes maxL ret hh ws rm mc ms n) (hp : PreS s H Pc As)
    (hg : g.method = m) (hn : As.length = n) (hsize : g.locals.size = nL) (hstack : g.stack = As.reverse ++ rest) (hW : 2 * g.monitorRoom + (rest.map fun v => v.category).sum ≤ 8) (hdg : decode cc g.pc = .ok (.invokestatic index, 3)) (hf : cells + mc ≤ R.cells ∧ slots + ms ≤ R.slots) :
    vx_Run p l e R s m args below meth c H locs cells slots mc ms g rest (Qc As.toArray) XC free := by
  obtain ⟨⟨hrc, hrs, hfr, hlo, hws, hcw⟩, hcode, hini, hy, hlen, hl, hstt⟩ := cw
  have hK : vx_Back l R p e below s args y 3 8 (PreOf R mc ms Pc) (PostOf Qc mc ms free) (vx_Post XC mc ms free) := vx_backW (hh := hh) (bytes := bytes) (maxL := maxL) (ret := ret) hM hp.1 hrc hrs hfr hlo hws hcw (fun a' U hW => word_at hW (Or.inl (by first | rfl | simp [Cond.onTables, Cond.keeps, Cond.steady])) hini)
  obtain ⟨hx, hb, hml, ho, -⟩ := S
  intro T hT X
  rcases vx_callSX X hx (hh := hh) (bytes := bytes) (maxL := maxL) (ret := ret) ho hl hstt hini hcode hy hK hg (hsize.trans hml.symm) (argsL := As) (rest := rest) (fun sig h => hn.trans (hlen sig h)) hstack hW (by rw [hb]; exact hdg)
    (fun vm₁ hW₁ => ⟨hf.1, hf.2, hp.2 (T.setVm vm₁) hT hW₁⟩) with ⟨v, vm₁, ⟨U', l2, c2, s2⟩, hW₁, X', ⟨g', mk, t, L, e1, e2, hq, h1, hL, h2, h3⟩, st⟩ | ⟨q, vm₁, ⟨U', l2, c2, s2⟩, hW₁, X', ⟨g', mk, t, L, E, ce, e1, e2, hq, hce, hcv, hcl, h1, hL, h2, h3⟩, st⟩
  · dsimp only [Pt.U, Pt.locs, Pt.cells, Pt.slots] at X' e1 e2 h1 h2 h3 st
    subst h1; subst h2; subst h3
    exact Or.inl ⟨v, (T.setVm vm₁).calling g' mk As.toArray, t, U', L, hT, X', hL, e1, e2, hq, st⟩
  · dsimp only [Pt.U, Pt.locs, Pt.cells, Pt.slots] at X' e1 e2 h1 h2 h3 st hcl
    subst h1; subst h2; subst h3
    exact Or.inr ⟨q, (T.setVm vm₁).calling g' mk As.toArray, t, U', L, E, ce, hT, X', hL, e1, e2, hq, hce, hcv, vx_cls hW₁ hcl, st⟩
end
end VXH
theorem vx_ofWH {l : Launch} {y : MethodName} {ws ws' : List Cond} {rm : Room} {Pc : Array Value → State → Prop} {Qc : Array Value → State → Outcome → State → Prop} {XC : String → State → State → Prop} {mc ms : Nat} {free : Addr → Prop} {cc : ByteArray} {maxL : Nat} {ret : Option FieldType} {hh : List (Nat × Nat × Nat × Nat)}
    (hy : plainName y.cls = true) (hw : ws = Cond.codeWith y cc maxL ret hh :: ws')
    (body : ∀ p e s m args below meth c s₁, BodyLoose p l y (headSpec ws rm) cc maxL ret e s m args below meth c s₁ → c.maxLocals = maxL → Pc args s →
      W p l e (headSpec ws rm).room s m args below meth c s.heap [] 0 0 (vx_MQ below Qc XC args s mc ms free) (entryFrame m args maxL)) : vx_Met l y ws rm Pc Qc XC mc ms free := by
  refine MetFree.of_bodyS (code := cc) (maxLocals := maxL) (ret := ret) hy ?_ ?_
  · intro args s m h hn
    obtain ⟨m9, meth, c, hn9, h1, h2, h3, h4, -, h5, h6, -⟩ := Cond.codeWith_spec (atoms_spec (ws := ws) h _ (by rw [hw]; exact List.mem_cons_self))
    cases hn.symm.trans hn9
    exact ⟨meth, c, h1, h2, h3, h4, h5, h6⟩
  · intro p e s m args below meth c s₁ B hml hP _
    have hh0 : s₁.heap = s.heap := by rw [B.state]; rfl
    obtain ⟨t, a1, o, b1, b2, b3⟩ := body p e s m args below meth c s₁ B hml hP s₁ hh0 (Stand.of_body B)
    exact ⟨t, o, a1, b1, b2, b3⟩
/-! ===== END ===== -/

/-! ===== BEGIN printed: names, fields, word lists, decode rows ===== -/
def RX0 : String := "Pickwave$Aisle"
def TX0 : u_T := fun k => match k with
  | 0 => ("Pickwave$Aisle", "number", "I", true)
  | 1 => ("Pickwave$Aisle", "blocked", "Z", false)
  | _ => ("Pickwave$Aisle", "pickers", "I", false)
def tyX0 : Nat → FieldType := fun k => match k with
  | 0 => .int
  | 1 => .boolean
  | _ => .int
abbrev wsX00 : List Cond := u_ws RX0 TX0 3
theorem nmX0 : ∀ a, a < 3 → ∀ b, b < 3 → a ≠ b → (TX0 a).2.1 ≠ (TX0 b).2.1 := by decide +kernel
theorem tyX0_ok : ∀ k, k < 3 → parseFieldDescriptor (TX0 k).2.2.1 = some (tyX0 k) := by decide +kernel
abbrev cX0_init : ByteArray := prog_2_method_1_code
def yX0_init : MethodName := ⟨RX0, "<init>", "(I)V"⟩
def RX1 : String := "Pickwave$Article"
def TX1 : u_T := fun k => match k with
  | 0 => ("Pickwave$Article", "aisle", "LPickwave$Aisle;", true)
  | 1 => ("Pickwave$Article", "room", "I", true)
  | 2 => ("Pickwave$Article", "stock", "I", false)
  | 3 => ("Pickwave$Article", "reserve", "I", false)
  | _ => ("Pickwave$Article", "promisedUnits", "I", false)
def tyX1 : Nat → FieldType := fun k => match k with
  | 0 => .object "Pickwave$Aisle"
  | 1 => .int
  | 2 => .int
  | 3 => .int
  | _ => .int
abbrev wsX10 : List Cond := u_ws RX1 TX1 5
theorem nmX1 : ∀ a, a < 5 → ∀ b, b < 5 → a ≠ b → (TX1 a).2.1 ≠ (TX1 b).2.1 := by decide +kernel
theorem tyX1_ok : ∀ k, k < 5 → parseFieldDescriptor (TX1 k).2.2.1 = some (tyX1 k) := by decide +kernel
abbrev cX1_init : ByteArray := prog_3_method_1_code
def yX1_init : MethodName := ⟨RX1, "<init>", "(LPickwave$Aisle;III)V"⟩
abbrev cX1_freeUnits : ByteArray := prog_3_method_2_code
def yX1_freeUnits : MethodName := ⟨RX1, "freeUnits", "()I"⟩
abbrev cX1_roomLeft : ByteArray := prog_3_method_3_code
def yX1_roomLeft : MethodName := ⟨RX1, "roomLeft", "()I"⟩
abbrev cX1_putAway : ByteArray := prog_3_method_4_code
def yX1_putAway : MethodName := ⟨RX1, "putAway", "(I)I"⟩
def RX2 : String := "Pickwave$Line"
def TX2 : u_T := fun k => match k with
  | 0 => ("Pickwave$Line", "number", "I", true)
  | 1 => ("Pickwave$Line", "article", "LPickwave$Article;", true)
  | 2 => ("Pickwave$Line", "carrier", "I", true)
  | 3 => ("Pickwave$Line", "amount", "I", false)
  | 4 => ("Pickwave$Line", "state", "C", false)
  | _ => ("Pickwave$Line", "lastWave", "I", false)
def tyX2 : Nat → FieldType := fun k => match k with
  | 0 => .int
  | 1 => .object "Pickwave$Article"
  | 2 => .int
  | 3 => .int
  | 4 => .char
  | _ => .int
abbrev wsX20 : List Cond := u_ws RX2 TX2 6
theorem nmX2 : ∀ a, a < 6 → ∀ b, b < 6 → a ≠ b → (TX2 a).2.1 ≠ (TX2 b).2.1 := by decide +kernel
theorem tyX2_ok : ∀ k, k < 6 → parseFieldDescriptor (TX2 k).2.2.1 = some (tyX2 k) := by decide +kernel
abbrev cX2_init : ByteArray := prog_4_method_1_code
def yX2_init : MethodName := ⟨RX2, "<init>", "(ILPickwave$Article;II)V"⟩
def RX3 : String := "Pickwave$Robot"
def TX3 : u_T := fun k => match k with
  | 0 => ("Pickwave$Robot", "article", "LPickwave$Article;", false)
  | 1 => ("Pickwave$Robot", "load", "I", false)
  | _ => ("Pickwave$Robot", "minutes", "I", false)
def tyX3 : Nat → FieldType := fun k => match k with
  | 0 => .object "Pickwave$Article"
  | 1 => .int
  | _ => .int
abbrev wsX30 : List Cond := u_ws RX3 TX3 3
theorem nmX3 : ∀ a, a < 3 → ∀ b, b < 3 → a ≠ b → (TX3 a).2.1 ≠ (TX3 b).2.1 := by decide +kernel
theorem tyX3_ok : ∀ k, k < 3 → parseFieldDescriptor (TX3 k).2.2.1 = some (tyX3 k) := by decide +kernel
abbrev cX3_init : ByteArray := prog_5_method_1_code
def yX3_init : MethodName := ⟨RX3, "<init>", "()V"⟩
def RX4 : String := "Pickwave$ScanLog"
def TX4 : u_T := fun k => match k with
  | 0 => ("Pickwave$ScanLog", "numbers", "[I", true)
  | 1 => ("Pickwave$ScanLog", "signs", "[C", true)
  | _ => ("Pickwave$ScanLog", "count", "I", false)
def tyX4 : Nat → FieldType := fun k => match k with
  | 0 => .array .int
  | 1 => .array .char
  | _ => .int
abbrev wsX40 : List Cond := u_ws RX4 TX4 3
theorem nmX4 : ∀ a, a < 3 → ∀ b, b < 3 → a ≠ b → (TX4 a).2.1 ≠ (TX4 b).2.1 := by decide +kernel
theorem tyX4_ok : ∀ k, k < 3 → parseFieldDescriptor (TX4 k).2.2.1 = some (tyX4 k) := by decide +kernel
abbrev cX4_init : ByteArray := prog_6_method_1_code
def yX4_init : MethodName := ⟨RX4, "<init>", "()V"⟩
abbrev cX4_write : ByteArray := prog_6_method_2_code
def yX4_write : MethodName := ⟨RX4, "write", "(IC)V"⟩
abbrev cX4_has : ByteArray := prog_6_method_3_code
def yX4_has : MethodName := ⟨RX4, "has", "(I)Z"⟩
abbrev cX4_lastSignOf : ByteArray := prog_6_method_4_code
def yX4_lastSignOf : MethodName := ⟨RX4, "lastSignOf", "(I)C"⟩
def RX5 : String := "Pickwave"
def TX5 : u_T := fun k => match k with
  | 0 => ("Pickwave", "aisles", "[LPickwave$Aisle;", true)
  | 1 => ("Pickwave", "cutOffs", "[I", true)
  | 2 => ("Pickwave", "robots", "[LPickwave$Robot;", true)
  | 3 => ("Pickwave", "articles", "Ljava/util/ArrayList;", true)
  | 4 => ("Pickwave", "lines", "Ljava/util/ArrayList;", true)
  | 5 => ("Pickwave", "log", "LPickwave$ScanLog;", true)
  | 6 => ("Pickwave", "presentMinute", "I", false)
  | 7 => ("Pickwave", "waveCount", "I", false)
  | 8 => ("Pickwave", "badUnits", "I", false)
  | _ => ("Pickwave", "shippedUnits", "J", false)
def tyX5 : Nat → FieldType := fun k => match k with
  | 0 => .array (.object "Pickwave$Aisle")
  | 1 => .array .int
  | 2 => .array (.object "Pickwave$Robot")
  | 3 => .object "java/util/ArrayList"
  | 4 => .object "java/util/ArrayList"
  | 5 => .object "Pickwave$ScanLog"
  | 6 => .int
  | 7 => .int
  | 8 => .int
  | _ => .long
abbrev wsX50 : List Cond := u_ws RX5 TX5 10
theorem nmX5 : ∀ a, a < 10 → ∀ b, b < 10 → a ≠ b → (TX5 a).2.1 ≠ (TX5 b).2.1 := by decide +kernel
theorem tyX5_ok : ∀ k, k < 10 → parseFieldDescriptor (TX5 k).2.2.1 = some (tyX5 k) := by decide +kernel
abbrev cX5_init : ByteArray := prog_1_method_1_code
def yX5_init : MethodName := ⟨RX5, "<init>", "()V"⟩
abbrev cX5_addArticle : ByteArray := prog_1_method_2_code
def yX5_addArticle : MethodName := ⟨RX5, "addArticle", "(IIII)I"⟩
abbrev cX5_stock : ByteArray := prog_1_method_3_code
def yX5_stock : MethodName := ⟨RX5, "stock", "(I)I"⟩
abbrev cX5_reserve : ByteArray := prog_1_method_4_code
def yX5_reserve : MethodName := ⟨RX5, "reserve", "(I)I"⟩
abbrev cX5_free : ByteArray := prog_1_method_5_code
def yX5_free : MethodName := ⟨RX5, "free", "(I)I"⟩
abbrev cX5_promised : ByteArray := prog_1_method_6_code
def yX5_promised : MethodName := ⟨RX5, "promised", "(I)I"⟩
abbrev cX5_promisedByScans : ByteArray := prog_1_method_7_code
def yX5_promisedByScans : MethodName := ⟨RX5, "promisedByScans", "(I)I"⟩
abbrev cX5_setBlocked : ByteArray := prog_1_method_8_code
def yX5_setBlocked : MethodName := ⟨RX5, "setBlocked", "(IZ)Z"⟩
abbrev cX5_setPickers : ByteArray := prog_1_method_9_code
def yX5_setPickers : MethodName := ⟨RX5, "setPickers", "(II)I"⟩
abbrev cX5_giveBack : ByteArray := prog_1_method_10_code
def yX5_giveBack : MethodName := ⟨RX5, "giveBack", "(III)I"⟩
abbrev cX5_writtenOff : ByteArray := prog_1_method_11_code
def yX5_writtenOff : MethodName := ⟨RX5, "writtenOff", "()I"⟩
abbrev cX5_order : ByteArray := prog_1_method_12_code
def yX5_order : MethodName := ⟨RX5, "order", "(III)I"⟩
abbrev cX5_drop : ByteArray := prog_1_method_13_code
def yX5_drop : MethodName := ⟨RX5, "drop", "(I)I"⟩
abbrev cX5_state : ByteArray := prog_1_method_14_code
def yX5_state : MethodName := ⟨RX5, "state", "(I)C"⟩
abbrev cX5_stateByScans : ByteArray := prog_1_method_15_code
def yX5_stateByScans : MethodName := ⟨RX5, "stateByScans", "(I)C"⟩
abbrev cX5_amount : ByteArray := prog_1_method_16_code
def yX5_amount : MethodName := ⟨RX5, "amount", "(I)I"⟩
abbrev cX5_orders : ByteArray := prog_1_method_17_code
def yX5_orders : MethodName := ⟨RX5, "orders", "()I"⟩
abbrev cX5_pick : ByteArray := prog_1_method_18_code
def yX5_pick : MethodName := ⟨RX5, "pick", "(II)I"⟩
abbrev cX5_ship : ByteArray := prog_1_method_19_code
def yX5_ship : MethodName := ⟨RX5, "ship", "(I)I"⟩
abbrev cX5_setCutOff : ByteArray := prog_1_method_20_code
def yX5_setCutOff : MethodName := ⟨RX5, "setCutOff", "(II)I"⟩
abbrev cX5_wave : ByteArray := prog_1_method_21_code
def yX5_wave : MethodName := ⟨RX5, "wave", "(I)I"⟩
abbrev cX5_waveOf : ByteArray := prog_1_method_22_code
def yX5_waveOf : MethodName := ⟨RX5, "waveOf", "(I)I"⟩
abbrev cX5_waves : ByteArray := prog_1_method_23_code
def yX5_waves : MethodName := ⟨RX5, "waves", "()I"⟩
abbrev cX5_minutesLeft : ByteArray := prog_1_method_24_code
def yX5_minutesLeft : MethodName := ⟨RX5, "minutesLeft", "(I)I"⟩
abbrev cX5_send : ByteArray := prog_1_method_25_code
def yX5_send : MethodName := ⟨RX5, "send", "(II)I"⟩
abbrev cX5_carried : ByteArray := prog_1_method_26_code
def yX5_carried : MethodName := ⟨RX5, "carried", "(I)I"⟩
abbrev cX5_minutesOf : ByteArray := prog_1_method_27_code
def yX5_minutesOf : MethodName := ⟨RX5, "minutesOf", "(I)I"⟩
abbrev cX5_aisleOf : ByteArray := prog_1_method_28_code
def yX5_aisleOf : MethodName := ⟨RX5, "aisleOf", "(I)I"⟩
abbrev cX5_pass : ByteArray := prog_1_method_29_code
def yX5_pass : MethodName := ⟨RX5, "pass", "(I)I"⟩
abbrev cX5_minute : ByteArray := prog_1_method_30_code
def yX5_minute : MethodName := ⟨RX5, "minute", "()I"⟩
abbrev cX5_scans : ByteArray := prog_1_method_31_code
def yX5_scans : MethodName := ⟨RX5, "scans", "()I"⟩
abbrev cX5_scanOrder : ByteArray := prog_1_method_32_code
def yX5_scanOrder : MethodName := ⟨RX5, "scanOrder", "(I)I"⟩
abbrev cX5_scanSign : ByteArray := prog_1_method_33_code
def yX5_scanSign : MethodName := ⟨RX5, "scanSign", "(I)C"⟩
abbrev cX5_shipped : ByteArray := prog_1_method_34_code
def yX5_shipped : MethodName := ⟨RX5, "shipped", "()J"⟩
abbrev cX5_shippedShare : ByteArray := prog_1_method_35_code
def yX5_shippedShare : MethodName := ⟨RX5, "shippedShare", "()F"⟩
abbrev cX5_isBetween : ByteArray := prog_1_method_36_code
def yX5_isBetween : MethodName := ⟨RX5, "isBetween", "(III)Z"⟩
abbrev cX5_isAisle : ByteArray := prog_1_method_37_code
def yX5_isAisle : MethodName := ⟨RX5, "isAisle", "(I)Z"⟩
abbrev cX5_isCarrier : ByteArray := prog_1_method_38_code
def yX5_isCarrier : MethodName := ⟨RX5, "isCarrier", "(I)Z"⟩
abbrev cX5_checkCarrier : ByteArray := prog_1_method_39_code
def yX5_checkCarrier : MethodName := ⟨RX5, "checkCarrier", "(I)V"⟩
abbrev cX5_findAisle : ByteArray := prog_1_method_40_code
def yX5_findAisle : MethodName := ⟨RX5, "findAisle", "(I)LPickwave$Aisle;"⟩
abbrev cX5_findArticle : ByteArray := prog_1_method_41_code
def yX5_findArticle : MethodName := ⟨RX5, "findArticle", "(I)LPickwave$Article;"⟩
abbrev cX5_findLine : ByteArray := prog_1_method_42_code
def yX5_findLine : MethodName := ⟨RX5, "findLine", "(I)LPickwave$Line;"⟩
abbrev cX5_findRobot : ByteArray := prog_1_method_43_code
def yX5_findRobot : MethodName := ⟨RX5, "findRobot", "(I)LPickwave$Robot;"⟩
abbrev cX5_letCome : ByteArray := prog_1_method_44_code
def yX5_letCome : MethodName := ⟨RX5, "letCome", "(LPickwave$Article;II)I"⟩
abbrev cX5_scan : ByteArray := prog_1_method_45_code
def yX5_scan : MethodName := ⟨RX5, "scan", "(LPickwave$Line;C)V"⟩
abbrev cX5_stateAfter : ByteArray := prog_1_method_46_code
def yX5_stateAfter : MethodName := ⟨RX5, "stateAfter", "(C)C"⟩
abbrev cX5_lastScannedState : ByteArray := prog_1_method_47_code
def yX5_lastScannedState : MethodName := ⟨RX5, "lastScannedState", "(LPickwave$Line;)C"⟩
abbrev cX5_split : ByteArray := prog_1_method_48_code
def yX5_split : MethodName := ⟨RX5, "split", "(LPickwave$Line;I)I"⟩
abbrev cX5_reopenInAisle : ByteArray := prog_1_method_49_code
def yX5_reopenInAisle : MethodName := ⟨RX5, "reopenInAisle", "(LPickwave$Aisle;)V"⟩
abbrev cX5_reopenOfArticle : ByteArray := prog_1_method_50_code
def yX5_reopenOfArticle : MethodName := ⟨RX5, "reopenOfArticle", "(LPickwave$Article;)V"⟩
abbrev cX5_promiseAll : ByteArray := prog_1_method_51_code
def yX5_promiseAll : MethodName := ⟨RX5, "promiseAll", "(III)I"⟩
abbrev cX5_canBePromised : ByteArray := prog_1_method_52_code
def yX5_canBePromised : MethodName := ⟨RX5, "canBePromised", "(LPickwave$Line;)Z"⟩
abbrev cX5_minutesOfAWay : ByteArray := prog_1_method_53_code
def yX5_minutesOfAWay : MethodName := ⟨RX5, "minutesOfAWay", "(LPickwave$Aisle;)I"⟩
abbrev cX5_hasRobotIn : ByteArray := prog_1_method_54_code
def yX5_hasRobotIn : MethodName := ⟨RX5, "hasRobotIn", "(LPickwave$Aisle;)Z"⟩
abbrev cX5_passMinuteOf : ByteArray := prog_1_method_55_code
def yX5_passMinuteOf : MethodName := ⟨RX5, "passMinuteOf", "(LPickwave$Robot;)I"⟩
def RX6 : String := "PickwaveModel"
def TX6 : u_T := fun k => match k with
  | 0 => ("PickwaveModel", "thrown", "I", false)
  | 1 => ("PickwaveModel", "articles", "I", false)
  | 2 => ("PickwaveModel", "orders", "I", false)
  | 3 => ("PickwaveModel", "waves", "I", false)
  | 4 => ("PickwaveModel", "minute", "I", false)
  | 5 => ("PickwaveModel", "bad", "I", false)
  | 6 => ("PickwaveModel", "scans", "I", false)
  | 7 => ("PickwaveModel", "aisle", "[I", true)
  | 8 => ("PickwaveModel", "stock", "[I", true)
  | 9 => ("PickwaveModel", "reserve", "[I", true)
  | 10 => ("PickwaveModel", "room", "[I", true)
  | 11 => ("PickwaveModel", "item", "[I", true)
  | 12 => ("PickwaveModel", "amount", "[I", true)
  | 13 => ("PickwaveModel", "carrier", "[I", true)
  | 14 => ("PickwaveModel", "state", "[I", true)
  | 15 => ("PickwaveModel", "waveOf", "[I", true)
  | 16 => ("PickwaveModel", "isBlocked", "[Z", true)
  | 17 => ("PickwaveModel", "pickers", "[I", true)
  | 18 => ("PickwaveModel", "cutOff", "[I", true)
  | 19 => ("PickwaveModel", "load", "[I", true)
  | 20 => ("PickwaveModel", "left", "[I", true)
  | 21 => ("PickwaveModel", "goal", "[I", true)
  | 22 => ("PickwaveModel", "scanOrder", "[I", true)
  | _ => ("PickwaveModel", "scanSign", "[I", true)
def tyX6 : Nat → FieldType := fun k => match k with
  | 0 => .int
  | 1 => .int
  | 2 => .int
  | 3 => .int
  | 4 => .int
  | 5 => .int
  | 6 => .int
  | 7 => .array .int
  | 8 => .array .int
  | 9 => .array .int
  | 10 => .array .int
  | 11 => .array .int
  | 12 => .array .int
  | 13 => .array .int
  | 14 => .array .int
  | 15 => .array .int
  | 16 => .array .boolean
  | 17 => .array .int
  | 18 => .array .int
  | 19 => .array .int
  | 20 => .array .int
  | 21 => .array .int
  | 22 => .array .int
  | _ => .array .int
abbrev wsX60 : List Cond := u_ws RX6 TX6 24
theorem nmX6 : ∀ a, a < 24 → ∀ b, b < 24 → a ≠ b → (TX6 a).2.1 ≠ (TX6 b).2.1 := by decide +kernel
theorem tyX6_ok : ∀ k, k < 24 → parseFieldDescriptor (TX6 k).2.2.1 = some (tyX6 k) := by decide +kernel
abbrev cX6_init : ByteArray := prog_8_method_1_code
def yX6_init : MethodName := ⟨RX6, "<init>", "()V"⟩
abbrev cX6_thrown : ByteArray := prog_8_method_2_code
def yX6_thrown : MethodName := ⟨RX6, "thrown", "()I"⟩
abbrev cX6_fails : ByteArray := prog_8_method_3_code
def yX6_fails : MethodName := ⟨RX6, "fails", "(I)I"⟩
abbrev cX6_in : ByteArray := prog_8_method_4_code
def yX6_in : MethodName := ⟨RX6, "in", "(III)Z"⟩
abbrev cX6_isArticle : ByteArray := prog_8_method_5_code
def yX6_isArticle : MethodName := ⟨RX6, "isArticle", "(I)Z"⟩
abbrev cX6_isOrder : ByteArray := prog_8_method_6_code
def yX6_isOrder : MethodName := ⟨RX6, "isOrder", "(I)Z"⟩
abbrev cX6_isAisle : ByteArray := prog_8_method_7_code
def yX6_isAisle : MethodName := ⟨RX6, "isAisle", "(I)Z"⟩
abbrev cX6_isCarrier : ByteArray := prog_8_method_8_code
def yX6_isCarrier : MethodName := ⟨RX6, "isCarrier", "(I)Z"⟩
abbrev cX6_isRobot : ByteArray := prog_8_method_9_code
def yX6_isRobot : MethodName := ⟨RX6, "isRobot", "(I)Z"⟩
abbrev cX6_notes : ByteArray := prog_8_method_10_code
def yX6_notes : MethodName := ⟨RX6, "notes", "(IC)V"⟩
abbrev cX6_hold : ByteArray := prog_8_method_11_code
def yX6_hold : MethodName := ⟨RX6, "hold", "(I)I"⟩
abbrev cX6_rest : ByteArray := prog_8_method_12_code
def yX6_rest : MethodName := ⟨RX6, "rest", "(I)I"⟩
abbrev cX6_opens : ByteArray := prog_8_method_13_code
def yX6_opens : MethodName := ⟨RX6, "opens", "(I)V"⟩
abbrev cX6_adds : ByteArray := prog_8_method_14_code
def yX6_adds : MethodName := ⟨RX6, "adds", "(III)I"⟩
abbrev cX6_shelves : ByteArray := prog_8_method_15_code
def yX6_shelves : MethodName := ⟨RX6, "shelves", "(II)I"⟩
abbrev cX6_addArticle : ByteArray := prog_8_method_16_code
def yX6_addArticle : MethodName := ⟨RX6, "addArticle", "(IIII)I"⟩
abbrev cX6_stock : ByteArray := prog_8_method_17_code
def yX6_stock : MethodName := ⟨RX6, "stock", "(I)I"⟩
abbrev cX6_reserve : ByteArray := prog_8_method_18_code
def yX6_reserve : MethodName := ⟨RX6, "reserve", "(I)I"⟩
abbrev cX6_free : ByteArray := prog_8_method_19_code
def yX6_free : MethodName := ⟨RX6, "free", "(I)I"⟩
abbrev cX6_promised : ByteArray := prog_8_method_20_code
def yX6_promised : MethodName := ⟨RX6, "promised", "(I)I"⟩
abbrev cX6_promisedByScans : ByteArray := prog_8_method_21_code
def yX6_promisedByScans : MethodName := ⟨RX6, "promisedByScans", "(I)I"⟩
abbrev cX6_setBlocked : ByteArray := prog_8_method_22_code
def yX6_setBlocked : MethodName := ⟨RX6, "setBlocked", "(IZ)Z"⟩
abbrev cX6_setPickers : ByteArray := prog_8_method_23_code
def yX6_setPickers : MethodName := ⟨RX6, "setPickers", "(II)I"⟩
abbrev cX6_giveBack : ByteArray := prog_8_method_24_code
def yX6_giveBack : MethodName := ⟨RX6, "giveBack", "(III)I"⟩
abbrev cX6_writtenOff : ByteArray := prog_8_method_25_code
def yX6_writtenOff : MethodName := ⟨RX6, "writtenOff", "()I"⟩
abbrev cX6_order : ByteArray := prog_8_method_26_code
def yX6_order : MethodName := ⟨RX6, "order", "(III)I"⟩
abbrev cX6_drop : ByteArray := prog_8_method_27_code
def yX6_drop : MethodName := ⟨RX6, "drop", "(I)I"⟩
abbrev cX6_state : ByteArray := prog_8_method_28_code
def yX6_state : MethodName := ⟨RX6, "state", "(I)C"⟩
abbrev cX6_stateByScans : ByteArray := prog_8_method_29_code
def yX6_stateByScans : MethodName := ⟨RX6, "stateByScans", "(I)C"⟩
abbrev cX6_amount : ByteArray := prog_8_method_30_code
def yX6_amount : MethodName := ⟨RX6, "amount", "(I)I"⟩
abbrev cX6_orders : ByteArray := prog_8_method_31_code
def yX6_orders : MethodName := ⟨RX6, "orders", "()I"⟩
abbrev cX6_pick : ByteArray := prog_8_method_32_code
def yX6_pick : MethodName := ⟨RX6, "pick", "(II)I"⟩
abbrev cX6_ship : ByteArray := prog_8_method_33_code
def yX6_ship : MethodName := ⟨RX6, "ship", "(I)I"⟩
abbrev cX6_setCutOff : ByteArray := prog_8_method_34_code
def yX6_setCutOff : MethodName := ⟨RX6, "setCutOff", "(II)I"⟩
abbrev cX6_wave : ByteArray := prog_8_method_35_code
def yX6_wave : MethodName := ⟨RX6, "wave", "(I)I"⟩
abbrev cX6_waveOf : ByteArray := prog_8_method_36_code
def yX6_waveOf : MethodName := ⟨RX6, "waveOf", "(I)I"⟩
abbrev cX6_waves : ByteArray := prog_8_method_37_code
def yX6_waves : MethodName := ⟨RX6, "waves", "()I"⟩
abbrev cX6_minutesLeft : ByteArray := prog_8_method_38_code
def yX6_minutesLeft : MethodName := ⟨RX6, "minutesLeft", "(I)I"⟩
abbrev cX6_send : ByteArray := prog_8_method_39_code
def yX6_send : MethodName := ⟨RX6, "send", "(II)I"⟩
abbrev cX6_carried : ByteArray := prog_8_method_40_code
def yX6_carried : MethodName := ⟨RX6, "carried", "(I)I"⟩
abbrev cX6_minutesOf : ByteArray := prog_8_method_41_code
def yX6_minutesOf : MethodName := ⟨RX6, "minutesOf", "(I)I"⟩
abbrev cX6_aisleOf : ByteArray := prog_8_method_42_code
def yX6_aisleOf : MethodName := ⟨RX6, "aisleOf", "(I)I"⟩
abbrev cX6_pass : ByteArray := prog_8_method_43_code
def yX6_pass : MethodName := ⟨RX6, "pass", "(I)I"⟩
abbrev cX6_minute : ByteArray := prog_8_method_44_code
def yX6_minute : MethodName := ⟨RX6, "minute", "()I"⟩
abbrev cX6_scans : ByteArray := prog_8_method_45_code
def yX6_scans : MethodName := ⟨RX6, "scans", "()I"⟩
abbrev cX6_scanOrder : ByteArray := prog_8_method_46_code
def yX6_scanOrder : MethodName := ⟨RX6, "scanOrder", "(I)I"⟩
abbrev cX6_scanSign : ByteArray := prog_8_method_47_code
def yX6_scanSign : MethodName := ⟨RX6, "scanSign", "(I)C"⟩
abbrev cX6_shipped : ByteArray := prog_8_method_48_code
def yX6_shipped : MethodName := ⟨RX6, "shipped", "()J"⟩
abbrev cX6_shippedShare : ByteArray := prog_8_method_49_code
def yX6_shippedShare : MethodName := ⟨RX6, "shippedShare", "()F"⟩
def RJx145de : String := "java/io/Serializable"
def TJx145de : u_T := fun k => match k with
  | _ => ("", "", "", false)
def tyJx145de : Nat → FieldType := fun k => match k with
  | _ => .int
abbrev wsJx145de0 : List Cond := u_ws RJx145de TJx145de 0
theorem nmJx145de : ∀ a, a < 0 → ∀ b, b < 0 → a ≠ b → (TJx145de a).2.1 ≠ (TJx145de b).2.1 := by decide +kernel
theorem tyJx145de_ok : ∀ k, k < 0 → parseFieldDescriptor (TJx145de k).2.2.1 = some (tyJx145de k) := by decide +kernel
def RJx8e188 : String := "java/lang/Cloneable"
def TJx8e188 : u_T := fun k => match k with
  | _ => ("", "", "", false)
def tyJx8e188 : Nat → FieldType := fun k => match k with
  | _ => .int
abbrev wsJx8e1880 : List Cond := u_ws RJx8e188 TJx8e188 0
theorem nmJx8e188 : ∀ a, a < 0 → ∀ b, b < 0 → a ≠ b → (TJx8e188 a).2.1 ≠ (TJx8e188 b).2.1 := by decide +kernel
theorem tyJx8e188_ok : ∀ k, k < 0 → parseFieldDescriptor (TJx8e188 k).2.2.1 = some (tyJx8e188 k) := by decide +kernel
def RJxab1ab : String := "java/lang/Iterable"
def TJxab1ab : u_T := fun k => match k with
  | _ => ("", "", "", false)
def tyJxab1ab : Nat → FieldType := fun k => match k with
  | _ => .int
abbrev wsJxab1ab0 : List Cond := u_ws RJxab1ab TJxab1ab 0
theorem nmJxab1ab : ∀ a, a < 0 → ∀ b, b < 0 → a ≠ b → (TJxab1ab a).2.1 ≠ (TJxab1ab b).2.1 := by decide +kernel
theorem tyJxab1ab_ok : ∀ k, k < 0 → parseFieldDescriptor (TJxab1ab k).2.2.1 = some (tyJxab1ab k) := by decide +kernel
def RJ9 : String := "java/lang/Math"
def TJ9 : u_T := fun k => match k with
  | _ => ("", "", "", false)
def tyJ9 : Nat → FieldType := fun k => match k with
  | _ => .int
abbrev wsJ90 : List Cond := u_ws RJ9 TJ9 0
theorem nmJ9 : ∀ a, a < 0 → ∀ b, b < 0 → a ≠ b → (TJ9 a).2.1 ≠ (TJ9 b).2.1 := by decide +kernel
theorem tyJ9_ok : ∀ k, k < 0 → parseFieldDescriptor (TJ9 k).2.2.1 = some (tyJ9 k) := by decide +kernel
abbrev cJ9_max_7cf53 : ByteArray := prog_16_method_65_code
def yJ9_max_7cf53 : MethodName := ⟨RJ9, "max", "(II)I"⟩
abbrev cJ9_min_7cf53 : ByteArray := prog_16_method_69_code
def yJ9_min_7cf53 : MethodName := ⟨RJ9, "min", "(II)I"⟩
def RJ0 : String := "java/lang/String"
def TJ0 : u_T := fun k => match k with
  | _ => ("", "", "", false)
def tyJ0 : Nat → FieldType := fun k => match k with
  | _ => .int
abbrev wsJ00 : List Cond := u_ws RJ0 TJ0 0
theorem nmJ0 : ∀ a, a < 0 → ∀ b, b < 0 → a ≠ b → (TJ0 a).2.1 ≠ (TJ0 b).2.1 := by decide +kernel
theorem tyJ0_ok : ∀ k, k < 0 → parseFieldDescriptor (TJ0 k).2.2.1 = some (tyJ0 k) := by decide +kernel
def RJ10 : String := "java/lang/System"
def TJ10 : u_T := fun k => match k with
  | _ => ("", "", "", false)
def tyJ10 : Nat → FieldType := fun k => match k with
  | _ => .int
abbrev wsJ100 : List Cond := u_ws RJ10 TJ10 0
theorem nmJ10 : ∀ a, a < 0 → ∀ b, b < 0 → a ≠ b → (TJ10 a).2.1 ≠ (TJ10 b).2.1 := by decide +kernel
theorem tyJ10_ok : ∀ k, k < 0 → parseFieldDescriptor (TJ10 k).2.2.1 = some (tyJ10 k) := by decide +kernel
def RJxa1e45 : String := "java/util/AbstractCollection"
def TJxa1e45 : u_T := fun k => match k with
  | _ => ("", "", "", false)
def tyJxa1e45 : Nat → FieldType := fun k => match k with
  | _ => .int
abbrev wsJxa1e450 : List Cond := u_ws RJxa1e45 TJxa1e45 0
theorem nmJxa1e45 : ∀ a, a < 0 → ∀ b, b < 0 → a ≠ b → (TJxa1e45 a).2.1 ≠ (TJxa1e45 b).2.1 := by decide +kernel
theorem tyJxa1e45_ok : ∀ k, k < 0 → parseFieldDescriptor (TJxa1e45 k).2.2.1 = some (tyJxa1e45 k) := by decide +kernel
abbrev cJxa1e45_init_da8c8 : ByteArray := prog_22_method_1_code
def yJxa1e45_init_da8c8 : MethodName := ⟨RJxa1e45, "<init>", "()V"⟩
def RJxc12de : String := "java/util/AbstractList"
def TJxc12de : u_T := fun k => match k with
  | _ => ("", "", "", false)
def tyJxc12de : Nat → FieldType := fun k => match k with
  | _ => .int
abbrev wsJxc12de0 : List Cond := u_ws RJxc12de TJxc12de 0
theorem nmJxc12de : ∀ a, a < 0 → ∀ b, b < 0 → a ≠ b → (TJxc12de a).2.1 ≠ (TJxc12de b).2.1 := by decide +kernel
theorem tyJxc12de_ok : ∀ k, k < 0 → parseFieldDescriptor (TJxc12de k).2.2.1 = some (tyJxc12de k) := by decide +kernel
abbrev cJxc12de_init_da8c8 : ByteArray := prog_23_method_1_code
def yJxc12de_init_da8c8 : MethodName := ⟨RJxc12de, "<init>", "()V"⟩
def RJx4a65c : String := "java/util/ArrayList"
def TJx4a65c : u_T := fun k => match k with
  | 0 => ("java/util/AbstractList", "modCount", "I", false)
  | 1 => ("java/util/ArrayList", "elementData", "[Ljava/lang/Object;", false)
  | _ => ("java/util/ArrayList", "size", "I", false)
def tyJx4a65c : Nat → FieldType := fun k => match k with
  | 0 => .int
  | 1 => .array (.object "java/lang/Object")
  | _ => .int
abbrev wsJx4a65c0 : List Cond := u_ws RJx4a65c TJx4a65c 3
theorem nmJx4a65c : ∀ a, a < 3 → ∀ b, b < 3 → a ≠ b → (TJx4a65c a).2.1 ≠ (TJx4a65c b).2.1 := by decide +kernel
theorem tyJx4a65c_ok : ∀ k, k < 3 → parseFieldDescriptor (TJx4a65c k).2.2.1 = some (tyJx4a65c k) := by decide +kernel
abbrev cJx4a65c_init_da8c8 : ByteArray := prog_24_method_2_code
def yJx4a65c_init_da8c8 : MethodName := ⟨RJx4a65c, "<init>", "()V"⟩
abbrev cJx4a65c_grow_92f84 : ByteArray := prog_24_method_6_code
def yJx4a65c_grow_92f84 : MethodName := ⟨RJx4a65c, "grow", "(I)[Ljava/lang/Object;"⟩
abbrev cJx4a65c_grow_d5877 : ByteArray := prog_24_method_7_code
def yJx4a65c_grow_d5877 : MethodName := ⟨RJx4a65c, "grow", "()[Ljava/lang/Object;"⟩
abbrev cJx4a65c_size_8abf5 : ByteArray := prog_24_method_8_code
def yJx4a65c_size_8abf5 : MethodName := ⟨RJx4a65c, "size", "()I"⟩
abbrev cJx4a65c_elementData_915e3 : ByteArray := prog_24_method_18_code
def yJx4a65c_elementData_915e3 : MethodName := ⟨RJx4a65c, "elementData", "(I)Ljava/lang/Object;"⟩
abbrev cJx4a65c_get_915e3 : ByteArray := prog_24_method_20_code
def yJx4a65c_get_915e3 : MethodName := ⟨RJx4a65c, "get", "(I)Ljava/lang/Object;"⟩
abbrev cJx4a65c_add_72be8 : ByteArray := prog_24_method_24_code
def yJx4a65c_add_72be8 : MethodName := ⟨RJx4a65c, "add", "(Ljava/lang/Object;[Ljava/lang/Object;I)V"⟩
abbrev cJx4a65c_add_9ea2d : ByteArray := prog_24_method_25_code
def yJx4a65c_add_9ea2d : MethodName := ⟨RJx4a65c, "add", "(Ljava/lang/Object;)Z"⟩
def RJ7 : String := "java/util/Arrays"
def TJ7 : u_T := fun k => match k with
  | _ => ("", "", "", false)
def tyJ7 : Nat → FieldType := fun k => match k with
  | _ => .int
abbrev wsJ70 : List Cond := u_ws RJ7 TJ7 0
theorem nmJ7 : ∀ a, a < 0 → ∀ b, b < 0 → a ≠ b → (TJ7 a).2.1 ≠ (TJ7 b).2.1 := by decide +kernel
theorem tyJ7_ok : ∀ k, k < 0 → parseFieldDescriptor (TJ7 k).2.2.1 = some (tyJ7 k) := by decide +kernel
abbrev cJ7_copyOf_1904c : ByteArray := prog_25_method_119_code
def yJ7_copyOf_1904c : MethodName := ⟨RJ7, "copyOf", "([Ljava/lang/Object;I)[Ljava/lang/Object;"⟩
abbrev cJ7_copyOf_6403c : ByteArray := prog_25_method_120_code
def yJ7_copyOf_6403c : MethodName := ⟨RJ7, "copyOf", "([Ljava/lang/Object;ILjava/lang/Class;)[Ljava/lang/Object;"⟩
def RJx5ef63 : String := "java/util/Collection"
def TJx5ef63 : u_T := fun k => match k with
  | _ => ("", "", "", false)
def tyJx5ef63 : Nat → FieldType := fun k => match k with
  | _ => .int
abbrev wsJx5ef630 : List Cond := u_ws RJx5ef63 TJx5ef63 0
theorem nmJx5ef63 : ∀ a, a < 0 → ∀ b, b < 0 → a ≠ b → (TJx5ef63 a).2.1 ≠ (TJx5ef63 b).2.1 := by decide +kernel
theorem tyJx5ef63_ok : ∀ k, k < 0 → parseFieldDescriptor (TJx5ef63 k).2.2.1 = some (tyJx5ef63 k) := by decide +kernel
def RJxbd725 : String := "java/util/List"
def TJxbd725 : u_T := fun k => match k with
  | _ => ("", "", "", false)
def tyJxbd725 : Nat → FieldType := fun k => match k with
  | _ => .int
abbrev wsJxbd7250 : List Cond := u_ws RJxbd725 TJxbd725 0
theorem nmJxbd725 : ∀ a, a < 0 → ∀ b, b < 0 → a ≠ b → (TJxbd725 a).2.1 ≠ (TJxbd725 b).2.1 := by decide +kernel
theorem tyJxbd725_ok : ∀ k, k < 0 → parseFieldDescriptor (TJxbd725 k).2.2.1 = some (tyJxbd725 k) := by decide +kernel
def RJ15 : String := "java/util/Objects"
def TJ15 : u_T := fun k => match k with
  | _ => ("", "", "", false)
def tyJ15 : Nat → FieldType := fun k => match k with
  | _ => .int
abbrev wsJ150 : List Cond := u_ws RJ15 TJ15 0
theorem nmJ15 : ∀ a, a < 0 → ∀ b, b < 0 → a ≠ b → (TJ15 a).2.1 ≠ (TJ15 b).2.1 := by decide +kernel
theorem tyJ15_ok : ∀ k, k < 0 → parseFieldDescriptor (TJ15 k).2.2.1 = some (tyJ15 k) := by decide +kernel
abbrev cJ15_checkIndex_7cf53 : ByteArray := prog_29_method_17_code
def yJ15_checkIndex_7cf53 : MethodName := ⟨RJ15, "checkIndex", "(II)I"⟩
def RJxf0a74 : String := "java/util/RandomAccess"
def TJxf0a74 : u_T := fun k => match k with
  | _ => ("", "", "", false)
def tyJxf0a74 : Nat → FieldType := fun k => match k with
  | _ => .int
abbrev wsJxf0a740 : List Cond := u_ws RJxf0a74 TJxf0a74 0
theorem nmJxf0a74 : ∀ a, a < 0 → ∀ b, b < 0 → a ≠ b → (TJxf0a74 a).2.1 ≠ (TJxf0a74 b).2.1 := by decide +kernel
theorem tyJxf0a74_ok : ∀ k, k < 0 → parseFieldDescriptor (TJxf0a74 k).2.2.1 = some (tyJxf0a74 k) := by decide +kernel
def RJxa66e6 : String := "java/util/SequencedCollection"
def TJxa66e6 : u_T := fun k => match k with
  | _ => ("", "", "", false)
def tyJxa66e6 : Nat → FieldType := fun k => match k with
  | _ => .int
abbrev wsJxa66e60 : List Cond := u_ws RJxa66e6 TJxa66e6 0
theorem nmJxa66e6 : ∀ a, a < 0 → ∀ b, b < 0 → a ≠ b → (TJxa66e6 a).2.1 ≠ (TJxa66e6 b).2.1 := by decide +kernel
theorem tyJxa66e6_ok : ∀ k, k < 0 → parseFieldDescriptor (TJxa66e6 k).2.2.1 = some (tyJxa66e6 k) := by decide +kernel
def RJ8 : String := "jdk/internal/util/ArraysSupport"
def TJ8 : u_T := fun k => match k with
  | _ => ("", "", "", false)
def tyJ8 : Nat → FieldType := fun k => match k with
  | _ => .int
abbrev wsJ80 : List Cond := u_ws RJ8 TJ8 0
theorem nmJ8 : ∀ a, a < 0 → ∀ b, b < 0 → a ≠ b → (TJ8 a).2.1 ≠ (TJ8 b).2.1 := by decide +kernel
theorem tyJ8_ok : ∀ k, k < 0 → parseFieldDescriptor (TJ8 k).2.2.1 = some (tyJ8 k) := by decide +kernel
abbrev cJ8_newLength_cabcc : ByteArray := prog_32_method_27_code
def yJ8_newLength_cabcc : MethodName := ⟨RJ8, "newLength", "(III)I"⟩
abbrev cJ8_hugeLength_7cf53 : ByteArray := prog_32_method_28_code
def yJ8_hugeLength_7cf53 : MethodName := ⟨RJ8, "hugeLength", "(II)I"⟩
def RJ3 : String := "jdk/internal/util/Preconditions"
def TJ3 : u_T := fun k => match k with
  | _ => ("", "", "", false)
def tyJ3 : Nat → FieldType := fun k => match k with
  | _ => .int
abbrev wsJ30 : List Cond := u_ws RJ3 TJ3 0
theorem nmJ3 : ∀ a, a < 0 → ∀ b, b < 0 → a ≠ b → (TJ3 a).2.1 ≠ (TJ3 b).2.1 := by decide +kernel
theorem tyJ3_ok : ∀ k, k < 0 → parseFieldDescriptor (TJ3 k).2.2.1 = some (tyJ3 k) := by decide +kernel
abbrev cJ3_checkIndex_8e157 : ByteArray := prog_33_method_11_code
def yJ3_checkIndex_8e157 : MethodName := ⟨RJ3, "checkIndex", "(IILjava/util/function/BiFunction;)I"⟩
def RL : String := "PickwaveLaw"
abbrev cL_addArticle : ByteArray := method_3_code
def yL_addArticle : MethodName := ⟨RL, "addArticle", "(LPickwave;IIII[J)I"⟩
abbrev cL_stock : ByteArray := method_4_code
def yL_stock : MethodName := ⟨RL, "stock", "(LPickwave;I[J)I"⟩
abbrev cL_reserve : ByteArray := method_5_code
def yL_reserve : MethodName := ⟨RL, "reserve", "(LPickwave;I[J)I"⟩
abbrev cL_free : ByteArray := method_6_code
def yL_free : MethodName := ⟨RL, "free", "(LPickwave;I[J)I"⟩
abbrev cL_promised : ByteArray := method_7_code
def yL_promised : MethodName := ⟨RL, "promised", "(LPickwave;I[J)I"⟩
abbrev cL_promisedByScans : ByteArray := method_8_code
def yL_promisedByScans : MethodName := ⟨RL, "promisedByScans", "(LPickwave;I[J)I"⟩
abbrev cL_setBlocked : ByteArray := method_9_code
def yL_setBlocked : MethodName := ⟨RL, "setBlocked", "(LPickwave;IZ[J)I"⟩
abbrev cL_setPickers : ByteArray := method_10_code
def yL_setPickers : MethodName := ⟨RL, "setPickers", "(LPickwave;II[J)I"⟩
abbrev cL_giveBack : ByteArray := method_11_code
def yL_giveBack : MethodName := ⟨RL, "giveBack", "(LPickwave;III[J)I"⟩
abbrev cL_order : ByteArray := method_12_code
def yL_order : MethodName := ⟨RL, "order", "(LPickwave;III[J)I"⟩
abbrev cL_drop : ByteArray := method_13_code
def yL_drop : MethodName := ⟨RL, "drop", "(LPickwave;I[J)I"⟩
abbrev cL_state : ByteArray := method_14_code
def yL_state : MethodName := ⟨RL, "state", "(LPickwave;I[J)I"⟩
abbrev cL_stateByScans : ByteArray := method_15_code
def yL_stateByScans : MethodName := ⟨RL, "stateByScans", "(LPickwave;I[J)I"⟩
abbrev cL_amount : ByteArray := method_16_code
def yL_amount : MethodName := ⟨RL, "amount", "(LPickwave;I[J)I"⟩
abbrev cL_pick : ByteArray := method_17_code
def yL_pick : MethodName := ⟨RL, "pick", "(LPickwave;II[J)I"⟩
abbrev cL_ship : ByteArray := method_18_code
def yL_ship : MethodName := ⟨RL, "ship", "(LPickwave;I[J)I"⟩
abbrev cL_setCutOff : ByteArray := method_19_code
def yL_setCutOff : MethodName := ⟨RL, "setCutOff", "(LPickwave;II[J)I"⟩
abbrev cL_wave : ByteArray := method_20_code
def yL_wave : MethodName := ⟨RL, "wave", "(LPickwave;I[J)I"⟩
abbrev cL_waveOf : ByteArray := method_21_code
def yL_waveOf : MethodName := ⟨RL, "waveOf", "(LPickwave;I[J)I"⟩
abbrev cL_minutesLeft : ByteArray := method_22_code
def yL_minutesLeft : MethodName := ⟨RL, "minutesLeft", "(LPickwave;I[J)I"⟩
abbrev cL_send : ByteArray := method_23_code
def yL_send : MethodName := ⟨RL, "send", "(LPickwave;II[J)I"⟩
abbrev cL_carried : ByteArray := method_24_code
def yL_carried : MethodName := ⟨RL, "carried", "(LPickwave;I[J)I"⟩
abbrev cL_minutesOf : ByteArray := method_25_code
def yL_minutesOf : MethodName := ⟨RL, "minutesOf", "(LPickwave;I[J)I"⟩
abbrev cL_aisleOf : ByteArray := method_26_code
def yL_aisleOf : MethodName := ⟨RL, "aisleOf", "(LPickwave;I[J)I"⟩
abbrev cL_pass : ByteArray := method_27_code
def yL_pass : MethodName := ⟨RL, "pass", "(LPickwave;I[J)I"⟩
abbrev cL_scanOrder : ByteArray := method_28_code
def yL_scanOrder : MethodName := ⟨RL, "scanOrder", "(LPickwave;I[J)I"⟩
abbrev cL_scanSign : ByteArray := method_29_code
def yL_scanSign : MethodName := ⟨RL, "scanSign", "(LPickwave;I[J)I"⟩
abbrev cL_shippedShare : ByteArray := method_30_code
def yL_shippedShare : MethodName := ⟨RL, "shippedShare", "(LPickwave;[D)I"⟩
abbrev cL_law : ByteArray := code
def yL_law : MethodName := ⟨RL, "law", "([I)Z"⟩
def wsL_law0_r1 : List Cond := [Cond.classLink RL 8 RX5, Cond.instantiable RX5 10, Cond.initialized RX5, Cond.classLink RL 111 RX6, Cond.instantiable RX6 24, Cond.initialized RX6, Cond.arrayClass .long, Cond.arrayClass .double, Cond.methodLink RL 110 yX5_init, Cond.instanceMethod yX5_init, Cond.code yX5_init cX5_init 2 none, Cond.methodLink RX5 3 objectInit, Cond.instanceMethod objectInit, Cond.code objectInit ⟨#[0xb1]⟩ 1 none, Cond.classLink RX5 9 RX0, Cond.fieldLink RX5 11 "Pickwave" "aisles" "[LPickwave$Aisle;", Cond.instantiable RX0 3, Cond.initialized RX0, Cond.arrayClass .int, Cond.fieldLink RX5 18 "Pickwave" "cutOffs" "[I", Cond.classLink RX5 22 RX3, Cond.fieldLink RX5 24 "Pickwave" "robots" "[LPickwave$Robot;", Cond.instantiable RX3 3, Cond.initialized RX3]
def wsL_law0_r2 : List Cond := [Cond.classLink RX5 29 RJx4a65c, Cond.instantiable RJx4a65c 3, Cond.initialized RJx4a65c, Cond.fieldLink RX5 32 "Pickwave" "articles" "Ljava/util/ArrayList;", Cond.fieldLink RX5 36 "Pickwave" "lines" "Ljava/util/ArrayList;", Cond.classLink RX5 39 RX4, Cond.instantiable RX4 3, Cond.initialized RX4, Cond.fieldLink RX5 42 "Pickwave" "log" "LPickwave$ScanLog;", Cond.methodLink RX5 15 yX0_init, Cond.instanceMethod yX0_init, Cond.code yX0_init cX0_init 2 none, Cond.methodLink RX0 1 objectInit, Cond.fieldLink RX0 7 "Pickwave$Aisle" "number" "I", Cond.instanceMethod yX3_init, Cond.code yX3_init cX3_init 1 none, Cond.methodLink RX3 1 objectInit, Cond.methodLink RX5 31 yJx4a65c_init_da8c8, Cond.instanceMethod yJx4a65c_init_da8c8, Cond.code yJx4a65c_init_da8c8 cJx4a65c_init_da8c8 1 none, Cond.fieldLink RJx4a65c 39 "java/util/ArrayList" "DEFAULTCAPACITY_EMPTY_ELEMENTDATA" "[Ljava/lang/Object;", Cond.fieldLink RJx4a65c 9 "java/util/ArrayList" "elementData" "[Ljava/lang/Object;", Cond.methodLink RJx4a65c 1 yJxc12de_init_da8c8, Cond.instanceMethod yJxc12de_init_da8c8]
def wsL_law0_r3 : List Cond := [Cond.initialized RJxc12de, Cond.code yJxc12de_init_da8c8 cJxc12de_init_da8c8 1 none, Cond.fieldLink RJxc12de 7 "java/util/AbstractList" "modCount" "I", Cond.methodLink RJxc12de 1 yJxa1e45_init_da8c8, Cond.instanceMethod yJxa1e45_init_da8c8, Cond.initialized RJxa1e45, Cond.code yJxa1e45_init_da8c8 cJxa1e45_init_da8c8 1 none, Cond.methodLink RJxa1e45 1 objectInit, Cond.methodLink RX5 41 yX4_init, Cond.instanceMethod yX4_init, Cond.code yX4_init cX4_init 1 none, Cond.methodLink RX4 3 objectInit, Cond.fieldLink RX4 9 "Pickwave$ScanLog" "numbers" "[I", Cond.arrayClass .char, Cond.fieldLink RX4 15 "Pickwave$ScanLog" "signs" "[C", Cond.methodLink RL 113 yX6_init, Cond.instanceMethod yX6_init, Cond.code yX6_init cX6_init 1 none, Cond.methodLink RX6 1 objectInit, Cond.fieldLink RX6 7 "PickwaveModel" "aisle" "[I", Cond.fieldLink RX6 13 "PickwaveModel" "stock" "[I", Cond.fieldLink RX6 16 "PickwaveModel" "reserve" "[I", Cond.fieldLink RX6 19 "PickwaveModel" "room" "[I", Cond.fieldLink RX6 22 "PickwaveModel" "item" "[I"]
def wsL_law0_r4 : List Cond := [Cond.fieldLink RX6 25 "PickwaveModel" "amount" "[I", Cond.fieldLink RX6 28 "PickwaveModel" "carrier" "[I", Cond.fieldLink RX6 31 "PickwaveModel" "state" "[I", Cond.fieldLink RX6 34 "PickwaveModel" "waveOf" "[I", Cond.arrayClass .boolean, Cond.fieldLink RX6 37 "PickwaveModel" "isBlocked" "[Z", Cond.fieldLink RX6 41 "PickwaveModel" "pickers" "[I", Cond.fieldLink RX6 44 "PickwaveModel" "cutOff" "[I", Cond.fieldLink RX6 47 "PickwaveModel" "load" "[I", Cond.fieldLink RX6 50 "PickwaveModel" "left" "[I", Cond.fieldLink RX6 53 "PickwaveModel" "goal" "[I", Cond.fieldLink RX6 56 "PickwaveModel" "scanOrder" "[I", Cond.fieldLink RX6 59 "PickwaveModel" "scanSign" "[I", Cond.methodLink RL 114 yL_addArticle, Cond.static yL_addArticle, Cond.initialized RL, Cond.codeWith yL_addArticle cL_addArticle 7 (some .int) [(0, 14, 17, 13), (0, 14, 21, 15)], Cond.classLink RL 13 "java/lang/IllegalArgumentException", Cond.classLink RL 15 "java/lang/IllegalStateException", Cond.methodLink RL 7 yX5_addArticle, Cond.instanceMethod yX5_addArticle, Cond.selects RX5 yX5_addArticle yX5_addArticle, Cond.code yX5_addArticle cX5_addArticle 5 (some .int), Cond.classLink RX5 50 "java/lang/IllegalArgumentException"]
def wsL_law0_r5 : List Cond := [Cond.initialized "java/lang/IllegalArgumentException", Cond.classLink RX5 69 "java/lang/IllegalStateException", Cond.initialized "java/lang/IllegalStateException", Cond.classLink RX5 74 RX1, Cond.instantiable RX1 5, Cond.initialized RX1, Cond.methodLink RX5 46 yX5_isAisle, Cond.instanceMethod yX5_isAisle, Cond.selects RX5 yX5_isAisle yX5_isAisle, Cond.code yX5_isAisle cX5_isAisle 2 (some .boolean), Cond.methodLink RX5 57 yX5_isBetween, Cond.static yX5_isBetween, Cond.code yX5_isBetween cX5_isBetween 3 (some .boolean), Cond.methodLink RX5 65 yJx4a65c_size_8abf5, Cond.instanceMethod yJx4a65c_size_8abf5, Cond.selects RJx4a65c yJx4a65c_size_8abf5 yJx4a65c_size_8abf5, Cond.code yJx4a65c_size_8abf5 cJx4a65c_size_8abf5 1 (some .int), Cond.fieldLink RJx4a65c 48 "java/util/ArrayList" "size" "I", Cond.methodLink RX5 76 yX1_init, Cond.instanceMethod yX1_init, Cond.code yX1_init cX1_init 5 none, Cond.methodLink RX1 1 objectInit, Cond.fieldLink RX1 7 "Pickwave$Article" "aisle" "LPickwave$Aisle;", Cond.fieldLink RX1 13 "Pickwave$Article" "stock" "I"]
def wsL_law0_r6 : List Cond := [Cond.fieldLink RX1 17 "Pickwave$Article" "reserve" "I", Cond.fieldLink RX1 20 "Pickwave$Article" "room" "I", Cond.methodLink RX5 79 yJx4a65c_add_9ea2d, Cond.instanceMethod yJx4a65c_add_9ea2d, Cond.selects RJx4a65c yJx4a65c_add_9ea2d yJx4a65c_add_9ea2d, Cond.code yJx4a65c_add_9ea2d cJx4a65c_add_9ea2d 2 (some .boolean), Cond.fieldLink RJx4a65c 63 "java/util/ArrayList" "modCount" "I", Cond.sameField "java/util/ArrayList" "java/util/AbstractList" "modCount" "I", Cond.methodLink RJx4a65c 131 yJx4a65c_add_72be8, Cond.instanceMethod yJx4a65c_add_72be8, Cond.selects RJx4a65c yJx4a65c_add_72be8 yJx4a65c_add_72be8, Cond.code yJx4a65c_add_72be8 cJx4a65c_add_72be8 4 none, Cond.methodLink RJx4a65c 129 yJx4a65c_grow_d5877, Cond.instanceMethod yJx4a65c_grow_d5877, Cond.selects RJx4a65c yJx4a65c_grow_d5877 yJx4a65c_grow_d5877, Cond.code yJx4a65c_grow_d5877 cJx4a65c_grow_d5877 1 (some (.array (.object "java/lang/Object"))), Cond.methodLink RJx4a65c 69 yJx4a65c_grow_92f84, Cond.instanceMethod yJx4a65c_grow_92f84, Cond.selects RJx4a65c yJx4a65c_grow_92f84 yJx4a65c_grow_92f84, Cond.code yJx4a65c_grow_92f84 cJx4a65c_grow_92f84 4 (some (.array (.object "java/lang/Object"))), Cond.methodLink RJx4a65c 79 Lib.Math.max.name, Cond.static Lib.Math.max.name, Cond.initialized "java/lang/Math", Cond.code Lib.Math.max.name Lib.Math.max.code 2 (some .int)]
def wsL_law0_r7 : List Cond := [Cond.classLink RJx4a65c 7 "java/lang/Object", Cond.methodLink RJx4a65c 73 yJ8_newLength_cabcc, Cond.static yJ8_newLength_cabcc, Cond.initialized RJ8, Cond.code yJ8_newLength_cabcc cJ8_newLength_cabcc 4 (some .int), Cond.methodLink RJ8 194 Lib.Math.max.name, Cond.constant RJ8 200 (2147483639), Cond.methodLink RJ8 201 yJ8_hugeLength_7cf53, Cond.static yJ8_hugeLength_7cf53, Cond.code yJ8_hugeLength_7cf53 cJ8_hugeLength_7cf53 3 (some .int), Cond.methodLink RJx4a65c 66 yJ7_copyOf_1904c, Cond.static yJ7_copyOf_1904c, Cond.initialized RJ7, Cond.code yJ7_copyOf_1904c cJ7_copyOf_1904c 2 (some (.array (.object "java/lang/Object"))), Cond.methodLink RJ7 86 ⟨"java/lang/Object", "getClass", "()Ljava/lang/Class;"⟩, Cond.selects "[Ljava/lang/Object;" ⟨"java/lang/Object", "getClass", "()Ljava/lang/Class;"⟩ ⟨"java/lang/Object", "getClass", "()Ljava/lang/Class;"⟩, Cond.instanceMethod ⟨"java/lang/Object", "getClass", "()Ljava/lang/Class;"⟩, Cond.native ⟨"java/lang/Object", "getClass", "()Ljava/lang/Class;"⟩, Cond.methodLink RJ7 300 yJ7_copyOf_6403c, Cond.static yJ7_copyOf_6403c, Cond.code yJ7_copyOf_6403c cJ7_copyOf_6403c 4 (some (.array (.object "java/lang/Object"))), Cond.classLink RJ7 110 "[Ljava/lang/Object;", Cond.classLink RJ7 2 "java/lang/Object", Cond.methodLink RJ7 304 Lib.Math.min.name]
def wsL_law0_r8 : List Cond := [Cond.static Lib.Math.min.name, Cond.code Lib.Math.min.name Lib.Math.min.code 2 (some .int), Cond.methodLink RJ7 150 arraycopyName, Cond.native arraycopyName, Cond.static arraycopyName, Cond.initialized "java/lang/System", Cond.methodLink RL 119 yX6_addArticle, Cond.instanceMethod yX6_addArticle, Cond.selects RX6 yX6_addArticle yX6_addArticle, Cond.code yX6_addArticle cX6_addArticle 5 (some .int), Cond.fieldLink RX6 66 "PickwaveModel" "articles" "I", Cond.fieldLink RX6 62 "PickwaveModel" "thrown" "I", Cond.methodLink RX6 69 yX6_in, Cond.static yX6_in, Cond.code yX6_in cX6_in 3 (some .boolean), Cond.methodLink RX6 87 yX6_fails, Cond.instanceMethod yX6_fails, Cond.selects RX6 yX6_fails yX6_fails, Cond.code yX6_fails cX6_fails 2 (some .int), Cond.methodLink RL 120 yX6_thrown, Cond.instanceMethod yX6_thrown, Cond.selects RX6 yX6_thrown yX6_thrown, Cond.code yX6_thrown cX6_thrown 1 (some .int), Cond.methodLink RL 124 yL_stock]
def wsL_law0_r9 : List Cond := [Cond.static yL_stock, Cond.codeWith yL_stock cL_stock 4 (some .int) [(0, 9, 12, 21)], Cond.classLink RL 21 "java/lang/IndexOutOfBoundsException", Cond.methodLink RL 17 yX5_stock, Cond.instanceMethod yX5_stock, Cond.selects RX5 yX5_stock yX5_stock, Cond.code yX5_stock cX5_stock 2 (some .int), Cond.fieldLink RX5 87 "Pickwave$Article" "stock" "I", Cond.methodLink RX5 83 yX5_findArticle, Cond.instanceMethod yX5_findArticle, Cond.selects RX5 yX5_findArticle yX5_findArticle, Cond.code yX5_findArticle cX5_findArticle 2 (some (.object "Pickwave$Article")), Cond.classLink RX5 275 "java/lang/IndexOutOfBoundsException", Cond.initialized "java/lang/IndexOutOfBoundsException", Cond.classLink RX5 74 "Pickwave$Article", Cond.methodLink RX5 100 yJx4a65c_get_915e3, Cond.instanceMethod yJx4a65c_get_915e3, Cond.selects RJx4a65c yJx4a65c_get_915e3 yJx4a65c_get_915e3, Cond.code yJx4a65c_get_915e3 cJx4a65c_get_915e3 2 (some (.object "java/lang/Object")), Cond.methodLink RJx4a65c 118 yJ15_checkIndex_7cf53, Cond.static yJ15_checkIndex_7cf53, Cond.initialized RJ15, Cond.code yJ15_checkIndex_7cf53 cJ15_checkIndex_7cf53 2 (some .int), Cond.methodLink RJ15 105 yJ3_checkIndex_8e157]
def wsL_law0_r10 : List Cond := [Cond.static yJ3_checkIndex_8e157, Cond.initialized RJ3, Cond.code yJ3_checkIndex_8e157 cJ3_checkIndex_8e157 3 (some .int), Cond.methodLink RJx4a65c 123 yJx4a65c_elementData_915e3, Cond.instanceMethod yJx4a65c_elementData_915e3, Cond.selects RJx4a65c yJx4a65c_elementData_915e3 yJx4a65c_elementData_915e3, Cond.code yJx4a65c_elementData_915e3 cJx4a65c_elementData_915e3 2 (some (.object "java/lang/Object")), Cond.methodLink RL 127 yX6_stock, Cond.instanceMethod yX6_stock, Cond.selects RX6 yX6_stock yX6_stock, Cond.code yX6_stock cX6_stock 2 (some .int), Cond.methodLink RX6 90 yX6_isArticle, Cond.instanceMethod yX6_isArticle, Cond.selects RX6 yX6_isArticle yX6_isArticle, Cond.code yX6_isArticle cX6_isArticle 2 (some .boolean), Cond.methodLink RL 128 yL_reserve, Cond.static yL_reserve, Cond.codeWith yL_reserve cL_reserve 4 (some .int) [(0, 9, 12, 21)], Cond.methodLink RL 23 yX5_reserve, Cond.instanceMethod yX5_reserve, Cond.selects RX5 yX5_reserve yX5_reserve, Cond.code yX5_reserve cX5_reserve 2 (some .int), Cond.fieldLink RX5 91 "Pickwave$Article" "reserve" "I", Cond.methodLink RL 130 yX6_reserve]
def wsL_law0_r11 : List Cond := [Cond.instanceMethod yX6_reserve, Cond.selects RX6 yX6_reserve yX6_reserve, Cond.code yX6_reserve cX6_reserve 2 (some .int), Cond.methodLink RL 131 yL_free, Cond.static yL_free, Cond.codeWith yL_free cL_free 4 (some .int) [(0, 9, 12, 21)], Cond.methodLink RL 26 yX5_free, Cond.instanceMethod yX5_free, Cond.selects RX5 yX5_free yX5_free, Cond.code yX5_free cX5_free 2 (some .int), Cond.methodLink RX5 94 yX1_freeUnits, Cond.instanceMethod yX1_freeUnits, Cond.selects RX1 yX1_freeUnits yX1_freeUnits, Cond.code yX1_freeUnits cX1_freeUnits 1 (some .int), Cond.fieldLink RX1 23 "Pickwave$Article" "promisedUnits" "I", Cond.methodLink RL 133 yX6_free, Cond.instanceMethod yX6_free, Cond.selects RX6 yX6_free yX6_free, Cond.code yX6_free cX6_free 2 (some .int), Cond.methodLink RX6 94 yX6_rest, Cond.instanceMethod yX6_rest, Cond.selects RX6 yX6_rest yX6_rest, Cond.code yX6_rest cX6_rest 2 (some .int), Cond.methodLink RX6 79 yX6_hold]
def wsL_law0_r12 : List Cond := [Cond.instanceMethod yX6_hold, Cond.selects RX6 yX6_hold yX6_hold, Cond.code yX6_hold cX6_hold 4 (some .int), Cond.fieldLink RX6 73 "PickwaveModel" "orders" "I", Cond.methodLink RL 134 yL_promised, Cond.static yL_promised, Cond.codeWith yL_promised cL_promised 4 (some .int) [(0, 9, 12, 21)], Cond.methodLink RL 29 yX5_promised, Cond.instanceMethod yX5_promised, Cond.selects RX5 yX5_promised yX5_promised, Cond.code yX5_promised cX5_promised 2 (some .int), Cond.fieldLink RX5 97 "Pickwave$Article" "promisedUnits" "I", Cond.methodLink RL 136 yX6_promised, Cond.instanceMethod yX6_promised, Cond.selects RX6 yX6_promised yX6_promised, Cond.code yX6_promised cX6_promised 2 (some .int), Cond.methodLink RL 137 yL_promisedByScans, Cond.static yL_promisedByScans, Cond.codeWith yL_promisedByScans cL_promisedByScans 4 (some .int) [(0, 9, 12, 21)], Cond.methodLink RL 32 yX5_promisedByScans, Cond.instanceMethod yX5_promisedByScans, Cond.selects RX5 yX5_promisedByScans yX5_promisedByScans, Cond.code yX5_promisedByScans cX5_promisedByScans 6 (some .int), Cond.classLink RX5 104 "Pickwave$Line"]
def wsL_law0_r13 : List Cond := [Cond.fieldLink RX5 106 "Pickwave$Line" "article" "LPickwave$Article;", Cond.fieldLink RX5 114 "Pickwave$Line" "amount" "I", Cond.methodLink RX5 110 yX5_lastScannedState, Cond.instanceMethod yX5_lastScannedState, Cond.selects RX5 yX5_lastScannedState yX5_lastScannedState, Cond.code yX5_lastScannedState cX5_lastScannedState 2 (some .char), Cond.fieldLink RX5 298 "Pickwave$Line" "number" "I", Cond.methodLink RX5 307 yX4_lastSignOf, Cond.instanceMethod yX4_lastSignOf, Cond.selects RX4 yX4_lastSignOf yX4_lastSignOf, Cond.code yX4_lastSignOf cX4_lastSignOf 5 (some .char), Cond.fieldLink RX4 19 "Pickwave$ScanLog" "count" "I", Cond.methodLink RX4 23 Lib.Math.min.name, Cond.methodLink RX5 299 yX5_stateAfter, Cond.static yX5_stateAfter, Cond.code yX5_stateAfter cX5_stateAfter 1 (some .char), Cond.methodLink RL 139 yX6_promisedByScans, Cond.instanceMethod yX6_promisedByScans, Cond.selects RX6 yX6_promisedByScans yX6_promisedByScans, Cond.code yX6_promisedByScans cX6_promisedByScans 2 (some .int), Cond.methodLink RX6 97 yX6_promised, Cond.methodLink RL 140 yL_setBlocked, Cond.static yL_setBlocked, Cond.codeWith yL_setBlocked cL_setBlocked 5 (some .int) [(0, 17, 20, 21)]]
def wsL_law0_r14 : List Cond := [Cond.methodLink RL 35 yX5_setBlocked, Cond.instanceMethod yX5_setBlocked, Cond.selects RX5 yX5_setBlocked yX5_setBlocked, Cond.code yX5_setBlocked cX5_setBlocked 5 (some .boolean), Cond.fieldLink RX5 121 "Pickwave$Aisle" "blocked" "Z", Cond.methodLink RX5 117 yX5_findAisle, Cond.instanceMethod yX5_findAisle, Cond.selects RX5 yX5_findAisle yX5_findAisle, Cond.code yX5_findAisle cX5_findAisle 2 (some (.object "Pickwave$Aisle")), Cond.methodLink RX5 125 yX5_reopenInAisle, Cond.instanceMethod yX5_reopenInAisle, Cond.selects RX5 yX5_reopenInAisle yX5_reopenInAisle, Cond.code yX5_reopenInAisle cX5_reopenInAisle 4 none, Cond.fieldLink RX5 185 "Pickwave$Article" "aisle" "LPickwave$Aisle;", Cond.fieldLink RX5 173 "Pickwave$Line" "state" "C", Cond.methodLink RX5 179 yX5_scan, Cond.instanceMethod yX5_scan, Cond.selects RX5 yX5_scan yX5_scan, Cond.code yX5_scan cX5_scan 4 none, Cond.methodLink RX5 303 yX4_write, Cond.instanceMethod yX4_write, Cond.selects RX4 yX4_write yX4_write, Cond.code yX4_write cX4_write 3 none, Cond.methodLink RL 143 yX6_setBlocked]
def wsL_law0_r15 : List Cond := [Cond.instanceMethod yX6_setBlocked, Cond.selects RX6 yX6_setBlocked yX6_setBlocked, Cond.code yX6_setBlocked cX6_setBlocked 5 (some .boolean), Cond.methodLink RX6 100 yX6_isAisle, Cond.instanceMethod yX6_isAisle, Cond.selects RX6 yX6_isAisle yX6_isAisle, Cond.code yX6_isAisle cX6_isAisle 2 (some .boolean), Cond.methodLink RX6 103 yX6_opens, Cond.instanceMethod yX6_opens, Cond.selects RX6 yX6_opens yX6_opens, Cond.code yX6_opens cX6_opens 2 none, Cond.methodLink RX6 83 yX6_notes, Cond.instanceMethod yX6_notes, Cond.selects RX6 yX6_notes yX6_notes, Cond.code yX6_notes cX6_notes 3 none, Cond.fieldLink RX6 76 "PickwaveModel" "scans" "I", Cond.methodLink RL 144 yL_setPickers, Cond.static yL_setPickers, Cond.codeWith yL_setPickers cL_setPickers 5 (some .int) [(0, 10, 13, 21), (0, 10, 17, 13)], Cond.methodLink RL 39 yX5_setPickers, Cond.instanceMethod yX5_setPickers, Cond.selects RX5 yX5_setPickers yX5_setPickers, Cond.code yX5_setPickers cX5_setPickers 5 (some .int), Cond.fieldLink RX5 131 "Pickwave$Aisle" "pickers" "I"]
def wsL_law0_r16 : List Cond := [Cond.methodLink RL 147 yX6_setPickers, Cond.instanceMethod yX6_setPickers, Cond.selects RX6 yX6_setPickers yX6_setPickers, Cond.code yX6_setPickers cX6_setPickers 4 (some .int), Cond.methodLink RL 148 yL_giveBack, Cond.static yL_giveBack, Cond.codeWith yL_giveBack cL_giveBack 6 (some .int) [(0, 12, 15, 21), (0, 12, 19, 13), (0, 12, 23, 15)], Cond.methodLink RL 43 yX5_giveBack, Cond.instanceMethod yX5_giveBack, Cond.selects RX5 yX5_giveBack yX5_giveBack, Cond.code yX5_giveBack cX5_giveBack 6 (some .int), Cond.methodLink RX5 141 Lib.Math.max.name, Cond.fieldLink RX5 149 "Pickwave" "badUnits" "I", Cond.methodLink RX5 138 yX1_roomLeft, Cond.instanceMethod yX1_roomLeft, Cond.selects RX1 yX1_roomLeft yX1_roomLeft, Cond.code yX1_roomLeft cX1_roomLeft 1 (some .int), Cond.methodLink RX5 152 yX1_putAway, Cond.instanceMethod yX1_putAway, Cond.selects RX1 yX1_putAway yX1_putAway, Cond.code yX1_putAway cX1_putAway 3 (some .int), Cond.methodLink RX1 30 Lib.Math.min.name, Cond.methodLink RX1 26 yX1_roomLeft, Cond.methodLink RL 151 yX6_giveBack]
def wsL_law0_r17 : List Cond := [Cond.instanceMethod yX6_giveBack, Cond.selects RX6 yX6_giveBack yX6_giveBack, Cond.code yX6_giveBack cX6_giveBack 5 (some .int), Cond.fieldLink RX6 107 "PickwaveModel" "bad" "I", Cond.methodLink RX6 110 yX6_shelves, Cond.instanceMethod yX6_shelves, Cond.selects RX6 yX6_shelves yX6_shelves, Cond.code yX6_shelves cX6_shelves 5 (some .int), Cond.methodLink RL 152 yX5_writtenOff, Cond.instanceMethod yX5_writtenOff, Cond.selects RX5 yX5_writtenOff yX5_writtenOff, Cond.code yX5_writtenOff cX5_writtenOff 1 (some .int), Cond.methodLink RL 155 yX6_writtenOff, Cond.instanceMethod yX6_writtenOff, Cond.selects RX6 yX6_writtenOff yX6_writtenOff, Cond.code yX6_writtenOff cX6_writtenOff 1 (some .int), Cond.methodLink RL 156 yL_order, Cond.static yL_order, Cond.codeWith yL_order cL_order 6 (some .int) [(0, 12, 15, 21), (0, 12, 19, 13), (0, 12, 23, 15)], Cond.methodLink RL 47 yX5_order, Cond.instanceMethod yX5_order, Cond.selects RX5 yX5_order yX5_order, Cond.code yX5_order cX5_order 5 (some .int), Cond.methodLink RX5 158 yX5_isCarrier]
def wsL_law0_r18 : List Cond := [Cond.instanceMethod yX5_isCarrier, Cond.selects RX5 yX5_isCarrier yX5_isCarrier, Cond.code yX5_isCarrier cX5_isCarrier 2 (some .boolean), Cond.methodLink RX5 165 yX5_letCome, Cond.instanceMethod yX5_letCome, Cond.selects RX5 yX5_letCome yX5_letCome, Cond.code yX5_letCome cX5_letCome 5 (some .int), Cond.classLink RX5 104 RX2, Cond.instantiable RX2 6, Cond.initialized RX2, Cond.methodLink RX5 295 yX2_init, Cond.instanceMethod yX2_init, Cond.code yX2_init cX2_init 5 none, Cond.methodLink RX2 3 objectInit, Cond.fieldLink RX2 9 "Pickwave$Line" "number" "I", Cond.fieldLink RX2 15 "Pickwave$Line" "article" "LPickwave$Article;", Cond.fieldLink RX2 19 "Pickwave$Line" "amount" "I", Cond.fieldLink RX2 22 "Pickwave$Line" "carrier" "I", Cond.fieldLink RX2 25 "Pickwave$Line" "state" "C", Cond.fieldLink RX2 29 "Pickwave$Line" "lastWave" "I", Cond.methodLink RL 158 yX6_order, Cond.instanceMethod yX6_order, Cond.selects RX6 yX6_order yX6_order, Cond.code yX6_order cX6_order 4 (some .int)]
def wsL_law0_r19 : List Cond := [Cond.methodLink RX6 114 yX6_adds, Cond.instanceMethod yX6_adds, Cond.selects RX6 yX6_adds yX6_adds, Cond.code yX6_adds cX6_adds 4 (some .int), Cond.methodLink RL 159 yL_drop, Cond.static yL_drop, Cond.codeWith yL_drop cL_drop 4 (some .int) [(0, 9, 12, 21), (0, 9, 15, 15)], Cond.methodLink RL 50 yX5_drop, Cond.instanceMethod yX5_drop, Cond.selects RX5 yX5_drop yX5_drop, Cond.code yX5_drop cX5_drop 3 (some .int), Cond.methodLink RX5 169 yX5_findLine, Cond.instanceMethod yX5_findLine, Cond.selects RX5 yX5_findLine yX5_findLine, Cond.code yX5_findLine cX5_findLine 2 (some (.object "Pickwave$Line")), Cond.methodLink RL 161 yX6_drop, Cond.instanceMethod yX6_drop, Cond.selects RX6 yX6_drop yX6_drop, Cond.code yX6_drop cX6_drop 2 (some .int), Cond.methodLink RX6 118 yX6_isOrder, Cond.instanceMethod yX6_isOrder, Cond.selects RX6 yX6_isOrder yX6_isOrder, Cond.code yX6_isOrder cX6_isOrder 2 (some .boolean), Cond.methodLink RL 162 yL_state]
def wsL_law0_r20 : List Cond := [Cond.static yL_state, Cond.codeWith yL_state cL_state 4 (some .int) [(0, 9, 12, 21)], Cond.methodLink RL 53 yX5_state, Cond.instanceMethod yX5_state, Cond.selects RX5 yX5_state yX5_state, Cond.code yX5_state cX5_state 2 (some .char), Cond.methodLink RL 164 yX6_state, Cond.instanceMethod yX6_state, Cond.selects RX6 yX6_state yX6_state, Cond.code yX6_state cX6_state 2 (some .char), Cond.methodLink RL 165 yL_stateByScans, Cond.static yL_stateByScans, Cond.codeWith yL_stateByScans cL_stateByScans 4 (some .int) [(0, 9, 12, 21)], Cond.methodLink RL 57 yX5_stateByScans, Cond.instanceMethod yX5_stateByScans, Cond.selects RX5 yX5_stateByScans yX5_stateByScans, Cond.code yX5_stateByScans cX5_stateByScans 2 (some .char), Cond.methodLink RL 167 yX6_stateByScans, Cond.instanceMethod yX6_stateByScans, Cond.selects RX6 yX6_stateByScans yX6_stateByScans, Cond.code yX6_stateByScans cX6_stateByScans 2 (some .char), Cond.methodLink RX6 121 yX6_state, Cond.methodLink RL 168 yL_amount, Cond.static yL_amount]
def wsL_law0_r21 : List Cond := [Cond.codeWith yL_amount cL_amount 4 (some .int) [(0, 9, 12, 21)], Cond.methodLink RL 60 yX5_amount, Cond.instanceMethod yX5_amount, Cond.selects RX5 yX5_amount yX5_amount, Cond.code yX5_amount cX5_amount 2 (some .int), Cond.methodLink RL 170 yX6_amount, Cond.instanceMethod yX6_amount, Cond.selects RX6 yX6_amount yX6_amount, Cond.code yX6_amount cX6_amount 2 (some .int), Cond.methodLink RL 171 yX5_orders, Cond.instanceMethod yX5_orders, Cond.selects RX5 yX5_orders yX5_orders, Cond.code yX5_orders cX5_orders 1 (some .int), Cond.methodLink RL 174 yX6_orders, Cond.instanceMethod yX6_orders, Cond.selects RX6 yX6_orders yX6_orders, Cond.code yX6_orders cX6_orders 1 (some .int), Cond.methodLink RL 175 yL_pick, Cond.static yL_pick, Cond.codeWith yL_pick cL_pick 5 (some .int) [(0, 10, 13, 21), (0, 10, 17, 13), (0, 10, 21, 66), (0, 10, 25, 15)], Cond.classLink RL 66 "java/lang/UnsupportedOperationException", Cond.methodLink RL 63 yX5_pick, Cond.instanceMethod yX5_pick, Cond.selects RX5 yX5_pick yX5_pick]
def wsL_law0_r22 : List Cond := [Cond.code yX5_pick cX5_pick 4 (some .int), Cond.classLink RX5 189 "java/lang/UnsupportedOperationException", Cond.initialized "java/lang/UnsupportedOperationException", Cond.methodLink RX5 196 yX5_split, Cond.instanceMethod yX5_split, Cond.selects RX5 yX5_split yX5_split, Cond.code yX5_split cX5_split 5 (some .int), Cond.fieldLink RX5 203 "Pickwave$Line" "carrier" "I", Cond.methodLink RX5 311 yX5_reopenOfArticle, Cond.instanceMethod yX5_reopenOfArticle, Cond.selects RX5 yX5_reopenOfArticle yX5_reopenOfArticle, Cond.code yX5_reopenOfArticle cX5_reopenOfArticle 4 none, Cond.methodLink RL 177 yX6_pick, Cond.instanceMethod yX6_pick, Cond.selects RX6 yX6_pick yX6_pick, Cond.code yX6_pick cX6_pick 7 (some .int), Cond.methodLink RL 178 yL_ship, Cond.static yL_ship, Cond.codeWith yL_ship cL_ship 4 (some .int) [(0, 9, 12, 21)], Cond.methodLink RL 68 yX5_ship, Cond.instanceMethod yX5_ship, Cond.selects RX5 yX5_ship yX5_ship, Cond.code yX5_ship cX5_ship 5 (some .int), Cond.fieldLink RX5 206 "Pickwave" "shippedUnits" "J"]
def wsL_law0_r23 : List Cond := [Cond.methodLink RX5 200 yX5_checkCarrier, Cond.instanceMethod yX5_checkCarrier, Cond.selects RX5 yX5_checkCarrier yX5_checkCarrier, Cond.code yX5_checkCarrier cX5_checkCarrier 2 none, Cond.methodLink RL 180 yX6_ship, Cond.instanceMethod yX6_ship, Cond.selects RX6 yX6_ship yX6_ship, Cond.code yX6_ship cX6_ship 4 (some .int), Cond.methodLink RX6 124 yX6_isCarrier, Cond.instanceMethod yX6_isCarrier, Cond.selects RX6 yX6_isCarrier yX6_isCarrier, Cond.code yX6_isCarrier cX6_isCarrier 2 (some .boolean), Cond.methodLink RL 181 yL_setCutOff, Cond.static yL_setCutOff, Cond.codeWith yL_setCutOff cL_setCutOff 5 (some .int) [(0, 10, 13, 21), (0, 10, 17, 13)], Cond.methodLink RL 71 yX5_setCutOff, Cond.instanceMethod yX5_setCutOff, Cond.selects RX5 yX5_setCutOff yX5_setCutOff, Cond.code yX5_setCutOff cX5_setCutOff 4 (some .int), Cond.methodLink RL 183 yX6_setCutOff, Cond.instanceMethod yX6_setCutOff, Cond.selects RX6 yX6_setCutOff yX6_setCutOff, Cond.code yX6_setCutOff cX6_setCutOff 4 (some .int), Cond.methodLink RL 184 yL_wave]
def wsL_law0_r24 : List Cond := [Cond.static yL_wave, Cond.codeWith yL_wave cL_wave 4 (some .int) [(0, 9, 12, 21), (0, 9, 15, 66), (0, 9, 18, 15)], Cond.methodLink RL 74 yX5_wave, Cond.instanceMethod yX5_wave, Cond.selects RX5 yX5_wave yX5_wave, Cond.code yX5_wave cX5_wave 5 (some .int), Cond.fieldLink RX5 212 "Pickwave" "presentMinute" "I", Cond.fieldLink RX5 217 "Pickwave" "waveCount" "I", Cond.methodLink RX5 222 yX5_promiseAll, Cond.instanceMethod yX5_promiseAll, Cond.selects RX5 yX5_promiseAll yX5_promiseAll, Cond.code yX5_promiseAll cX5_promiseAll 8 (some .int), Cond.fieldLink RX5 226 "Pickwave$Line" "lastWave" "I", Cond.methodLink RX5 315 yX5_canBePromised, Cond.static yX5_canBePromised, Cond.code yX5_canBePromised cX5_canBePromised 1 (some .boolean), Cond.methodLink RL 186 yX6_wave, Cond.instanceMethod yX6_wave, Cond.selects RX6 yX6_wave yX6_wave, Cond.code yX6_wave cX6_wave 5 (some .int), Cond.fieldLink RX6 127 "PickwaveModel" "minute" "I", Cond.fieldLink RX6 130 "PickwaveModel" "waves" "I", Cond.methodLink RL 187 yL_waveOf, Cond.static yL_waveOf]
def wsL_law0_r25 : List Cond := [Cond.codeWith yL_waveOf cL_waveOf 4 (some .int) [(0, 9, 12, 21), (0, 9, 15, 80)], Cond.classLink RL 80 "java/util/NoSuchElementException", Cond.methodLink RL 77 yX5_waveOf, Cond.instanceMethod yX5_waveOf, Cond.selects RX5 yX5_waveOf yX5_waveOf, Cond.code yX5_waveOf cX5_waveOf 3 (some .int), Cond.classLink RX5 229 "java/util/NoSuchElementException", Cond.initialized "java/util/NoSuchElementException", Cond.methodLink RL 189 yX6_waveOf, Cond.instanceMethod yX6_waveOf, Cond.selects RX6 yX6_waveOf yX6_waveOf, Cond.code yX6_waveOf cX6_waveOf 2 (some .int), Cond.methodLink RL 190 yX5_waves, Cond.instanceMethod yX5_waves, Cond.selects RX5 yX5_waves yX5_waves, Cond.code yX5_waves cX5_waves 1 (some .int), Cond.methodLink RL 193 yX6_waves, Cond.instanceMethod yX6_waves, Cond.selects RX6 yX6_waves yX6_waves, Cond.code yX6_waves cX6_waves 1 (some .int), Cond.methodLink RL 194 yL_minutesLeft, Cond.static yL_minutesLeft, Cond.codeWith yL_minutesLeft cL_minutesLeft 4 (some .int) [(0, 9, 12, 21)], Cond.methodLink RL 82 yX5_minutesLeft]
def wsL_law0_r26 : List Cond := [Cond.instanceMethod yX5_minutesLeft, Cond.selects RX5 yX5_minutesLeft yX5_minutesLeft, Cond.code yX5_minutesLeft cX5_minutesLeft 3 (some .int), Cond.methodLink RL 196 yX6_minutesLeft, Cond.instanceMethod yX6_minutesLeft, Cond.selects RX6 yX6_minutesLeft yX6_minutesLeft, Cond.code yX6_minutesLeft cX6_minutesLeft 2 (some .int), Cond.methodLink RL 197 yL_send, Cond.static yL_send, Cond.codeWith yL_send cL_send 5 (some .int) [(0, 10, 13, 21), (0, 10, 17, 66), (0, 10, 21, 15), (0, 10, 25, 80)], Cond.methodLink RL 85 yX5_send, Cond.instanceMethod yX5_send, Cond.selects RX5 yX5_send yX5_send, Cond.code yX5_send cX5_send 6 (some .int), Cond.fieldLink RX5 238 "Pickwave$Robot" "article" "LPickwave$Article;", Cond.methodLink RX5 241 Lib.Math.min.name, Cond.fieldLink RX5 250 "Pickwave$Robot" "minutes" "I", Cond.fieldLink RX5 253 "Pickwave$Robot" "load" "I", Cond.methodLink RX5 234 yX5_findRobot, Cond.instanceMethod yX5_findRobot, Cond.selects RX5 yX5_findRobot yX5_findRobot, Cond.code yX5_findRobot cX5_findRobot 2 (some (.object "Pickwave$Robot")), Cond.methodLink RX5 246 yX5_minutesOfAWay, Cond.instanceMethod yX5_minutesOfAWay]
def wsL_law0_r27 : List Cond := [Cond.selects RX5 yX5_minutesOfAWay yX5_minutesOfAWay, Cond.code yX5_minutesOfAWay cX5_minutesOfAWay 3 (some .int), Cond.methodLink RX5 319 yX5_hasRobotIn, Cond.instanceMethod yX5_hasRobotIn, Cond.selects RX5 yX5_hasRobotIn yX5_hasRobotIn, Cond.code yX5_hasRobotIn cX5_hasRobotIn 4 (some .boolean), Cond.methodLink RL 199 yX6_send, Cond.instanceMethod yX6_send, Cond.selects RX6 yX6_send yX6_send, Cond.code yX6_send cX6_send 7 (some .int), Cond.methodLink RX6 133 yX6_isRobot, Cond.instanceMethod yX6_isRobot, Cond.selects RX6 yX6_isRobot yX6_isRobot, Cond.code yX6_isRobot cX6_isRobot 2 (some .boolean), Cond.methodLink RL 200 yL_carried, Cond.static yL_carried, Cond.codeWith yL_carried cL_carried 4 (some .int) [(0, 9, 12, 21)], Cond.methodLink RL 88 yX5_carried, Cond.instanceMethod yX5_carried, Cond.selects RX5 yX5_carried yX5_carried, Cond.code yX5_carried cX5_carried 2 (some .int), Cond.methodLink RL 202 yX6_carried, Cond.instanceMethod yX6_carried, Cond.selects RX6 yX6_carried yX6_carried]
def wsL_law0_r28 : List Cond := [Cond.code yX6_carried cX6_carried 2 (some .int), Cond.methodLink RL 203 yL_minutesOf, Cond.static yL_minutesOf, Cond.codeWith yL_minutesOf cL_minutesOf 4 (some .int) [(0, 9, 12, 21)], Cond.methodLink RL 91 yX5_minutesOf, Cond.instanceMethod yX5_minutesOf, Cond.selects RX5 yX5_minutesOf yX5_minutesOf, Cond.code yX5_minutesOf cX5_minutesOf 2 (some .int), Cond.methodLink RL 205 yX6_minutesOf, Cond.instanceMethod yX6_minutesOf, Cond.selects RX6 yX6_minutesOf yX6_minutesOf, Cond.code yX6_minutesOf cX6_minutesOf 2 (some .int), Cond.methodLink RL 206 yL_aisleOf, Cond.static yL_aisleOf, Cond.codeWith yL_aisleOf cL_aisleOf 4 (some .int) [(0, 9, 12, 21), (0, 9, 15, 80)], Cond.methodLink RL 94 yX5_aisleOf, Cond.instanceMethod yX5_aisleOf, Cond.selects RX5 yX5_aisleOf yX5_aisleOf, Cond.code yX5_aisleOf cX5_aisleOf 3 (some .int), Cond.fieldLink RX5 258 "Pickwave$Aisle" "number" "I", Cond.methodLink RL 208 yX6_aisleOf, Cond.instanceMethod yX6_aisleOf, Cond.selects RX6 yX6_aisleOf yX6_aisleOf, Cond.code yX6_aisleOf cX6_aisleOf 2 (some .int)]
def wsL_law0_r29 : List Cond := [Cond.methodLink RL 209 yL_pass, Cond.static yL_pass, Cond.codeWith yL_pass cL_pass 4 (some .int) [(0, 9, 12, 13)], Cond.methodLink RL 97 yX5_pass, Cond.instanceMethod yX5_pass, Cond.selects RX5 yX5_pass yX5_pass, Cond.code yX5_pass cX5_pass 5 (some .int), Cond.methodLink RX5 265 yX5_passMinuteOf, Cond.static yX5_passMinuteOf, Cond.code yX5_passMinuteOf cX5_passMinuteOf 3 (some .int), Cond.methodLink RL 211 yX6_pass, Cond.instanceMethod yX6_pass, Cond.selects RX6 yX6_pass yX6_pass, Cond.code yX6_pass cX6_pass 5 (some .int), Cond.methodLink RL 212 yX5_minute, Cond.instanceMethod yX5_minute, Cond.selects RX5 yX5_minute yX5_minute, Cond.code yX5_minute cX5_minute 1 (some .int), Cond.methodLink RL 215 yX6_minute, Cond.instanceMethod yX6_minute, Cond.selects RX6 yX6_minute yX6_minute, Cond.code yX6_minute cX6_minute 1 (some .int), Cond.methodLink RL 216 yX5_scans, Cond.instanceMethod yX5_scans]
def wsL_law0_r30 : List Cond := [Cond.selects RX5 yX5_scans yX5_scans, Cond.code yX5_scans cX5_scans 1 (some .int), Cond.fieldLink RX5 269 "Pickwave$ScanLog" "count" "I", Cond.methodLink RL 219 yX6_scans, Cond.instanceMethod yX6_scans, Cond.selects RX6 yX6_scans yX6_scans, Cond.code yX6_scans cX6_scans 1 (some .int), Cond.methodLink RL 220 yL_scanOrder, Cond.static yL_scanOrder, Cond.codeWith yL_scanOrder cL_scanOrder 4 (some .int) [(0, 9, 12, 21)], Cond.methodLink RL 100 yX5_scanOrder, Cond.instanceMethod yX5_scanOrder, Cond.selects RX5 yX5_scanOrder yX5_scanOrder, Cond.code yX5_scanOrder cX5_scanOrder 2 (some .int), Cond.fieldLink RX5 280 "Pickwave$ScanLog" "numbers" "[I", Cond.methodLink RX5 272 yX4_has, Cond.instanceMethod yX4_has, Cond.selects RX4 yX4_has yX4_has, Cond.code yX4_has cX4_has 2 (some .boolean), Cond.methodLink RL 222 yX6_scanOrder, Cond.instanceMethod yX6_scanOrder, Cond.selects RX6 yX6_scanOrder yX6_scanOrder, Cond.code yX6_scanOrder cX6_scanOrder 2 (some .int), Cond.methodLink RL 223 yL_scanSign]
def wsL_law0_r31 : List Cond := [Cond.static yL_scanSign, Cond.codeWith yL_scanSign cL_scanSign 4 (some .int) [(0, 9, 12, 21)], Cond.methodLink RL 103 yX5_scanSign, Cond.instanceMethod yX5_scanSign, Cond.selects RX5 yX5_scanSign yX5_scanSign, Cond.code yX5_scanSign cX5_scanSign 2 (some .char), Cond.fieldLink RX5 283 "Pickwave$ScanLog" "signs" "[C", Cond.methodLink RL 225 yX6_scanSign, Cond.instanceMethod yX6_scanSign, Cond.selects RX6 yX6_scanSign yX6_scanSign, Cond.code yX6_scanSign cX6_scanSign 2 (some .char), Cond.methodLink RL 226 yX5_shipped, Cond.instanceMethod yX5_shipped, Cond.selects RX5 yX5_shipped yX5_shipped, Cond.code yX5_shipped cX5_shipped 1 (some .long), Cond.methodLink RL 230 yX6_shipped, Cond.instanceMethod yX6_shipped, Cond.selects RX6 yX6_shipped yX6_shipped, Cond.code yX6_shipped cX6_shipped 4 (some .long), Cond.methodLink RL 231 yL_shippedShare, Cond.static yL_shippedShare, Cond.codeWith yL_shippedShare cL_shippedShare 3 (some .int) [(0, 8, 11, 80)], Cond.methodLink RL 106 yX5_shippedShare, Cond.instanceMethod yX5_shippedShare]
def wsL_law0_r32 : List Cond := [Cond.selects RX5 yX5_shippedShare yX5_shippedShare, Cond.code yX5_shippedShare cX5_shippedShare 4 (some .float), Cond.methodLink RL 234 yX6_shippedShare, Cond.instanceMethod yX6_shippedShare, Cond.selects RX6 yX6_shippedShare yX6_shippedShare, Cond.code yX6_shippedShare cX6_shippedShare 3 (some .float)]
def wsL_law0 : List Cond := (wsL_law0_r1 ++ (wsL_law0_r2 ++ (wsL_law0_r3 ++ (wsL_law0_r4 ++ (wsL_law0_r5 ++ (wsL_law0_r6 ++ (wsL_law0_r7 ++ (wsL_law0_r8 ++ (wsL_law0_r9 ++ (wsL_law0_r10 ++ (wsL_law0_r11 ++ (wsL_law0_r12 ++ (wsL_law0_r13 ++ (wsL_law0_r14 ++ (wsL_law0_r15 ++ (wsL_law0_r16 ++ (wsL_law0_r17 ++ (wsL_law0_r18 ++ (wsL_law0_r19 ++ (wsL_law0_r20 ++ (wsL_law0_r21 ++ (wsL_law0_r22 ++ (wsL_law0_r23 ++ (wsL_law0_r24 ++ (wsL_law0_r25 ++ (wsL_law0_r26 ++ (wsL_law0_r27 ++ (wsL_law0_r28 ++ (wsL_law0_r29 ++ (wsL_law0_r30 ++ (wsL_law0_r31 ++ wsL_law0_r32))))))))))))))))))))))))))))))) ++ wsX50 ++ wsX60 ++ wsX00 ++ wsX30 ++ wsJx4a65c0 ++ wsX40 ++ wsX10 ++ wsX20 ++ ([] : List Cond)
def wsL_law : List Cond := wsL_law0 ++ (vx_atS RX5 54 "java/lang/IllegalArgumentException" ["java/lang/RuntimeException", "java/lang/Exception"]).filter goodWord ++ (vx_atS RX5 73 "java/lang/IllegalStateException" ["java/lang/RuntimeException", "java/lang/Exception"]).filter goodWord ++ (vx_atS RX5 279 "java/lang/IndexOutOfBoundsException" ["java/lang/RuntimeException", "java/lang/Exception"]).filter goodWord ++ (vx_atS RX5 193 "java/lang/UnsupportedOperationException" ["java/lang/RuntimeException", "java/lang/Exception"]).filter goodWord ++ (vx_atS RX5 233 "java/util/NoSuchElementException" ["java/lang/RuntimeException", "java/lang/Exception"]).filter goodWord
theorem inlX0 : ∀ w ∈ wsX00, w ∈ wsL_law := fun _ h => List.mem_append_left _ (List.mem_append_left _ (List.mem_append_left _ (List.mem_append_left _ (List.mem_append_left _ (List.mem_append_left _ (List.mem_append_left _ (List.mem_append_left _ (List.mem_append_left _ (List.mem_append_left _ (List.mem_append_left _ (List.mem_append_right _ h)))))))))))
theorem inlX1 : ∀ w ∈ wsX10, w ∈ wsL_law := fun _ h => List.mem_append_left _ (List.mem_append_left _ (List.mem_append_left _ (List.mem_append_left _ (List.mem_append_left _ (List.mem_append_left _ (List.mem_append_left _ (List.mem_append_right _ h)))))))
theorem inlX2 : ∀ w ∈ wsX20, w ∈ wsL_law := fun _ h => List.mem_append_left _ (List.mem_append_left _ (List.mem_append_left _ (List.mem_append_left _ (List.mem_append_left _ (List.mem_append_left _ (List.mem_append_right _ h))))))
theorem inlX3 : ∀ w ∈ wsX30, w ∈ wsL_law := fun _ h => List.mem_append_left _ (List.mem_append_left _ (List.mem_append_left _ (List.mem_append_left _ (List.mem_append_left _ (List.mem_append_left _ (List.mem_append_left _ (List.mem_append_left _ (List.mem_append_left _ (List.mem_append_left _ (List.mem_append_right _ h))))))))))
theorem inlX4 : ∀ w ∈ wsX40, w ∈ wsL_law := fun _ h => List.mem_append_left _ (List.mem_append_left _ (List.mem_append_left _ (List.mem_append_left _ (List.mem_append_left _ (List.mem_append_left _ (List.mem_append_left _ (List.mem_append_left _ (List.mem_append_right _ h))))))))
theorem inlX5 : ∀ w ∈ wsX50, w ∈ wsL_law := fun _ h => List.mem_append_left _ (List.mem_append_left _ (List.mem_append_left _ (List.mem_append_left _ (List.mem_append_left _ (List.mem_append_left _ (List.mem_append_left _ (List.mem_append_left _ (List.mem_append_left _ (List.mem_append_left _ (List.mem_append_left _ (List.mem_append_left _ (List.mem_append_left _ (List.mem_append_right _ h)))))))))))))
theorem inlX6 : ∀ w ∈ wsX60, w ∈ wsL_law := fun _ h => List.mem_append_left _ (List.mem_append_left _ (List.mem_append_left _ (List.mem_append_left _ (List.mem_append_left _ (List.mem_append_left _ (List.mem_append_left _ (List.mem_append_left _ (List.mem_append_left _ (List.mem_append_left _ (List.mem_append_left _ (List.mem_append_left _ (List.mem_append_right _ h))))))))))))
theorem inlJx4a65c : ∀ w ∈ wsJx4a65c0, w ∈ wsL_law := fun _ h => List.mem_append_left _ (List.mem_append_left _ (List.mem_append_left _ (List.mem_append_left _ (List.mem_append_left _ (List.mem_append_left _ (List.mem_append_left _ (List.mem_append_left _ (List.mem_append_left _ (List.mem_append_right _ h)))))))))
abbrev vwCl : List vw_C := [(RJx4a65c, TJx4a65c, 3), (RX0, TX0, 3), (RX1, TX1, 5), (RX2, TX2, 6), (RX3, TX3, 3), (RX4, TX4, 3), (RX5, TX5, 10), (RX6, TX6, 24)]
end
section
/-! the words of the law, by their places; the texts of the exceptions -/
theorem kr_0 : ∀ w ∈ (wsL_law0_r1 ++ (wsL_law0_r2 ++ (wsL_law0_r3 ++ (wsL_law0_r4 ++ (wsL_law0_r5 ++ (wsL_law0_r6 ++ (wsL_law0_r7 ++ (wsL_law0_r8 ++ (wsL_law0_r9 ++ (wsL_law0_r10 ++ (wsL_law0_r11 ++ (wsL_law0_r12 ++ (wsL_law0_r13 ++ (wsL_law0_r14 ++ (wsL_law0_r15 ++ (wsL_law0_r16 ++ (wsL_law0_r17 ++ (wsL_law0_r18 ++ (wsL_law0_r19 ++ (wsL_law0_r20 ++ (wsL_law0_r21 ++ (wsL_law0_r22 ++ (wsL_law0_r23 ++ (wsL_law0_r24 ++ (wsL_law0_r25 ++ (wsL_law0_r26 ++ (wsL_law0_r27 ++ (wsL_law0_r28 ++ (wsL_law0_r29 ++ (wsL_law0_r30 ++ (wsL_law0_r31 ++ wsL_law0_r32))))))))))))))))))))))))))))))), w ∈ wsL_law := fun _ h => List.mem_append_left _ (List.mem_append_left _ (List.mem_append_left _ (List.mem_append_left _ (List.mem_append_left _ (List.mem_append_left _ (List.mem_append_left _ (List.mem_append_left _ (List.mem_append_left _ (List.mem_append_left _ (List.mem_append_left _ (List.mem_append_left _ (List.mem_append_left _ (List.mem_append_left _ (h))))))))))))))
theorem kr_1 : ∀ w ∈ wsL_law0_r1, w ∈ wsL_law := fun _ h => kr_0 _ (List.mem_append_left _ h)
theorem kr_2 : ∀ w ∈ wsL_law0_r2, w ∈ wsL_law := fun _ h => kr_0 _ (List.mem_append_right _ (List.mem_append_left _ h))
theorem kr_3 : ∀ w ∈ wsL_law0_r3, w ∈ wsL_law := fun _ h => kr_0 _ (List.mem_append_right _ (List.mem_append_right _ (List.mem_append_left _ h)))
theorem kr_4 : ∀ w ∈ wsL_law0_r4, w ∈ wsL_law := fun _ h => kr_0 _ (List.mem_append_right _ (List.mem_append_right _ (List.mem_append_right _ (List.mem_append_left _ h))))
theorem kr_5 : ∀ w ∈ wsL_law0_r5, w ∈ wsL_law := fun _ h => kr_0 _ (List.mem_append_right _ (List.mem_append_right _ (List.mem_append_right _ (List.mem_append_right _ (List.mem_append_left _ h)))))
theorem kr_6 : ∀ w ∈ wsL_law0_r6, w ∈ wsL_law := fun _ h => kr_0 _ (List.mem_append_right _ (List.mem_append_right _ (List.mem_append_right _ (List.mem_append_right _ (List.mem_append_right _ (List.mem_append_left _ h))))))
theorem kr_7 : ∀ w ∈ wsL_law0_r7, w ∈ wsL_law := fun _ h => kr_0 _ (List.mem_append_right _ (List.mem_append_right _ (List.mem_append_right _ (List.mem_append_right _ (List.mem_append_right _ (List.mem_append_right _ (List.mem_append_left _ h)))))))
theorem kr_8 : ∀ w ∈ wsL_law0_r8, w ∈ wsL_law := fun _ h => kr_0 _ (List.mem_append_right _ (List.mem_append_right _ (List.mem_append_right _ (List.mem_append_right _ (List.mem_append_right _ (List.mem_append_right _ (List.mem_append_right _ (List.mem_append_left _ h))))))))
theorem kr_9 : ∀ w ∈ wsL_law0_r9, w ∈ wsL_law := fun _ h => kr_0 _ (List.mem_append_right _ (List.mem_append_right _ (List.mem_append_right _ (List.mem_append_right _ (List.mem_append_right _ (List.mem_append_right _ (List.mem_append_right _ (List.mem_append_right _ (List.mem_append_left _ h)))))))))
theorem kr_10 : ∀ w ∈ wsL_law0_r10, w ∈ wsL_law := fun _ h => kr_0 _ (List.mem_append_right _ (List.mem_append_right _ (List.mem_append_right _ (List.mem_append_right _ (List.mem_append_right _ (List.mem_append_right _ (List.mem_append_right _ (List.mem_append_right _ (List.mem_append_right _ (List.mem_append_left _ h))))))))))
theorem kr_11 : ∀ w ∈ wsL_law0_r11, w ∈ wsL_law := fun _ h => kr_0 _ (List.mem_append_right _ (List.mem_append_right _ (List.mem_append_right _ (List.mem_append_right _ (List.mem_append_right _ (List.mem_append_right _ (List.mem_append_right _ (List.mem_append_right _ (List.mem_append_right _ (List.mem_append_right _ (List.mem_append_left _ h)))))))))))
theorem kr_12 : ∀ w ∈ wsL_law0_r12, w ∈ wsL_law := fun _ h => kr_0 _ (List.mem_append_right _ (List.mem_append_right _ (List.mem_append_right _ (List.mem_append_right _ (List.mem_append_right _ (List.mem_append_right _ (List.mem_append_right _ (List.mem_append_right _ (List.mem_append_right _ (List.mem_append_right _ (List.mem_append_right _ (List.mem_append_left _ h))))))))))))
theorem kr_13 : ∀ w ∈ wsL_law0_r13, w ∈ wsL_law := fun _ h => kr_0 _ (List.mem_append_right _ (List.mem_append_right _ (List.mem_append_right _ (List.mem_append_right _ (List.mem_append_right _ (List.mem_append_right _ (List.mem_append_right _ (List.mem_append_right _ (List.mem_append_right _ (List.mem_append_right _ (List.mem_append_right _ (List.mem_append_right _ (List.mem_append_left _ h)))))))))))))
theorem kr_14 : ∀ w ∈ wsL_law0_r14, w ∈ wsL_law := fun _ h => kr_0 _ (List.mem_append_right _ (List.mem_append_right _ (List.mem_append_right _ (List.mem_append_right _ (List.mem_append_right _ (List.mem_append_right _ (List.mem_append_right _ (List.mem_append_right _ (List.mem_append_right _ (List.mem_append_right _ (List.mem_append_right _ (List.mem_append_right _ (List.mem_append_right _ (List.mem_append_left _ h))))))))))))))
theorem kr_15 : ∀ w ∈ wsL_law0_r15, w ∈ wsL_law := fun _ h => kr_0 _ (List.mem_append_right _ (List.mem_append_right _ (List.mem_append_right _ (List.mem_append_right _ (List.mem_append_right _ (List.mem_append_right _ (List.mem_append_right _ (List.mem_append_right _ (List.mem_append_right _ (List.mem_append_right _ (List.mem_append_right _ (List.mem_append_right _ (List.mem_append_right _ (List.mem_append_right _ (List.mem_append_left _ h)))))))))))))))
theorem kr_16 : ∀ w ∈ wsL_law0_r16, w ∈ wsL_law := fun _ h => kr_0 _ (List.mem_append_right _ (List.mem_append_right _ (List.mem_append_right _ (List.mem_append_right _ (List.mem_append_right _ (List.mem_append_right _ (List.mem_append_right _ (List.mem_append_right _ (List.mem_append_right _ (List.mem_append_right _ (List.mem_append_right _ (List.mem_append_right _ (List.mem_append_right _ (List.mem_append_right _ (List.mem_append_right _ (List.mem_append_left _ h))))))))))))))))
theorem kr_17 : ∀ w ∈ wsL_law0_r17, w ∈ wsL_law := fun _ h => kr_0 _ (List.mem_append_right _ (List.mem_append_right _ (List.mem_append_right _ (List.mem_append_right _ (List.mem_append_right _ (List.mem_append_right _ (List.mem_append_right _ (List.mem_append_right _ (List.mem_append_right _ (List.mem_append_right _ (List.mem_append_right _ (List.mem_append_right _ (List.mem_append_right _ (List.mem_append_right _ (List.mem_append_right _ (List.mem_append_right _ (List.mem_append_left _ h)))))))))))))))))
theorem kr_18 : ∀ w ∈ wsL_law0_r18, w ∈ wsL_law := fun _ h => kr_0 _ (List.mem_append_right _ (List.mem_append_right _ (List.mem_append_right _ (List.mem_append_right _ (List.mem_append_right _ (List.mem_append_right _ (List.mem_append_right _ (List.mem_append_right _ (List.mem_append_right _ (List.mem_append_right _ (List.mem_append_right _ (List.mem_append_right _ (List.mem_append_right _ (List.mem_append_right _ (List.mem_append_right _ (List.mem_append_right _ (List.mem_append_right _ (List.mem_append_left _ h))))))))))))))))))
theorem kr_19 : ∀ w ∈ wsL_law0_r19, w ∈ wsL_law := fun _ h => kr_0 _ (List.mem_append_right _ (List.mem_append_right _ (List.mem_append_right _ (List.mem_append_right _ (List.mem_append_right _ (List.mem_append_right _ (List.mem_append_right _ (List.mem_append_right _ (List.mem_append_right _ (List.mem_append_right _ (List.mem_append_right _ (List.mem_append_right _ (List.mem_append_right _ (List.mem_append_right _ (List.mem_append_right _ (List.mem_append_right _ (List.mem_append_right _ (List.mem_append_right _ (List.mem_append_left _ h)))))))))))))))))))
theorem kr_20 : ∀ w ∈ wsL_law0_r20, w ∈ wsL_law := fun _ h => kr_0 _ (List.mem_append_right _ (List.mem_append_right _ (List.mem_append_right _ (List.mem_append_right _ (List.mem_append_right _ (List.mem_append_right _ (List.mem_append_right _ (List.mem_append_right _ (List.mem_append_right _ (List.mem_append_right _ (List.mem_append_right _ (List.mem_append_right _ (List.mem_append_right _ (List.mem_append_right _ (List.mem_append_right _ (List.mem_append_right _ (List.mem_append_right _ (List.mem_append_right _ (List.mem_append_right _ (List.mem_append_left _ h))))))))))))))))))))
theorem kr_21 : ∀ w ∈ wsL_law0_r21, w ∈ wsL_law := fun _ h => kr_0 _ (List.mem_append_right _ (List.mem_append_right _ (List.mem_append_right _ (List.mem_append_right _ (List.mem_append_right _ (List.mem_append_right _ (List.mem_append_right _ (List.mem_append_right _ (List.mem_append_right _ (List.mem_append_right _ (List.mem_append_right _ (List.mem_append_right _ (List.mem_append_right _ (List.mem_append_right _ (List.mem_append_right _ (List.mem_append_right _ (List.mem_append_right _ (List.mem_append_right _ (List.mem_append_right _ (List.mem_append_right _ (List.mem_append_left _ h)))))))))))))))))))))
theorem kr_22 : ∀ w ∈ wsL_law0_r22, w ∈ wsL_law := fun _ h => kr_0 _ (List.mem_append_right _ (List.mem_append_right _ (List.mem_append_right _ (List.mem_append_right _ (List.mem_append_right _ (List.mem_append_right _ (List.mem_append_right _ (List.mem_append_right _ (List.mem_append_right _ (List.mem_append_right _ (List.mem_append_right _ (List.mem_append_right _ (List.mem_append_right _ (List.mem_append_right _ (List.mem_append_right _ (List.mem_append_right _ (List.mem_append_right _ (List.mem_append_right _ (List.mem_append_right _ (List.mem_append_right _ (List.mem_append_right _ (List.mem_append_left _ h))))))))))))))))))))))
theorem kr_23 : ∀ w ∈ wsL_law0_r23, w ∈ wsL_law := fun _ h => kr_0 _ (List.mem_append_right _ (List.mem_append_right _ (List.mem_append_right _ (List.mem_append_right _ (List.mem_append_right _ (List.mem_append_right _ (List.mem_append_right _ (List.mem_append_right _ (List.mem_append_right _ (List.mem_append_right _ (List.mem_append_right _ (List.mem_append_right _ (List.mem_append_right _ (List.mem_append_right _ (List.mem_append_right _ (List.mem_append_right _ (List.mem_append_right _ (List.mem_append_right _ (List.mem_append_right _ (List.mem_append_right _ (List.mem_append_right _ (List.mem_append_right _ (List.mem_append_left _ h)))))))))))))))))))))))
theorem kr_24 : ∀ w ∈ wsL_law0_r24, w ∈ wsL_law := fun _ h => kr_0 _ (List.mem_append_right _ (List.mem_append_right _ (List.mem_append_right _ (List.mem_append_right _ (List.mem_append_right _ (List.mem_append_right _ (List.mem_append_right _ (List.mem_append_right _ (List.mem_append_right _ (List.mem_append_right _ (List.mem_append_right _ (List.mem_append_right _ (List.mem_append_right _ (List.mem_append_right _ (List.mem_append_right _ (List.mem_append_right _ (List.mem_append_right _ (List.mem_append_right _ (List.mem_append_right _ (List.mem_append_right _ (List.mem_append_right _ (List.mem_append_right _ (List.mem_append_right _ (List.mem_append_left _ h))))))))))))))))))))))))
theorem kr_25 : ∀ w ∈ wsL_law0_r25, w ∈ wsL_law := fun _ h => kr_0 _ (List.mem_append_right _ (List.mem_append_right _ (List.mem_append_right _ (List.mem_append_right _ (List.mem_append_right _ (List.mem_append_right _ (List.mem_append_right _ (List.mem_append_right _ (List.mem_append_right _ (List.mem_append_right _ (List.mem_append_right _ (List.mem_append_right _ (List.mem_append_right _ (List.mem_append_right _ (List.mem_append_right _ (List.mem_append_right _ (List.mem_append_right _ (List.mem_append_right _ (List.mem_append_right _ (List.mem_append_right _ (List.mem_append_right _ (List.mem_append_right _ (List.mem_append_right _ (List.mem_append_right _ (List.mem_append_left _ h)))))))))))))))))))))))))
theorem kr_26 : ∀ w ∈ wsL_law0_r26, w ∈ wsL_law := fun _ h => kr_0 _ (List.mem_append_right _ (List.mem_append_right _ (List.mem_append_right _ (List.mem_append_right _ (List.mem_append_right _ (List.mem_append_right _ (List.mem_append_right _ (List.mem_append_right _ (List.mem_append_right _ (List.mem_append_right _ (List.mem_append_right _ (List.mem_append_right _ (List.mem_append_right _ (List.mem_append_right _ (List.mem_append_right _ (List.mem_append_right _ (List.mem_append_right _ (List.mem_append_right _ (List.mem_append_right _ (List.mem_append_right _ (List.mem_append_right _ (List.mem_append_right _ (List.mem_append_right _ (List.mem_append_right _ (List.mem_append_right _ (List.mem_append_left _ h))))))))))))))))))))))))))
theorem kr_27 : ∀ w ∈ wsL_law0_r27, w ∈ wsL_law := fun _ h => kr_0 _ (List.mem_append_right _ (List.mem_append_right _ (List.mem_append_right _ (List.mem_append_right _ (List.mem_append_right _ (List.mem_append_right _ (List.mem_append_right _ (List.mem_append_right _ (List.mem_append_right _ (List.mem_append_right _ (List.mem_append_right _ (List.mem_append_right _ (List.mem_append_right _ (List.mem_append_right _ (List.mem_append_right _ (List.mem_append_right _ (List.mem_append_right _ (List.mem_append_right _ (List.mem_append_right _ (List.mem_append_right _ (List.mem_append_right _ (List.mem_append_right _ (List.mem_append_right _ (List.mem_append_right _ (List.mem_append_right _ (List.mem_append_right _ (List.mem_append_left _ h)))))))))))))))))))))))))))
theorem kr_28 : ∀ w ∈ wsL_law0_r28, w ∈ wsL_law := fun _ h => kr_0 _ (List.mem_append_right _ (List.mem_append_right _ (List.mem_append_right _ (List.mem_append_right _ (List.mem_append_right _ (List.mem_append_right _ (List.mem_append_right _ (List.mem_append_right _ (List.mem_append_right _ (List.mem_append_right _ (List.mem_append_right _ (List.mem_append_right _ (List.mem_append_right _ (List.mem_append_right _ (List.mem_append_right _ (List.mem_append_right _ (List.mem_append_right _ (List.mem_append_right _ (List.mem_append_right _ (List.mem_append_right _ (List.mem_append_right _ (List.mem_append_right _ (List.mem_append_right _ (List.mem_append_right _ (List.mem_append_right _ (List.mem_append_right _ (List.mem_append_right _ (List.mem_append_left _ h))))))))))))))))))))))))))))
theorem kr_29 : ∀ w ∈ wsL_law0_r29, w ∈ wsL_law := fun _ h => kr_0 _ (List.mem_append_right _ (List.mem_append_right _ (List.mem_append_right _ (List.mem_append_right _ (List.mem_append_right _ (List.mem_append_right _ (List.mem_append_right _ (List.mem_append_right _ (List.mem_append_right _ (List.mem_append_right _ (List.mem_append_right _ (List.mem_append_right _ (List.mem_append_right _ (List.mem_append_right _ (List.mem_append_right _ (List.mem_append_right _ (List.mem_append_right _ (List.mem_append_right _ (List.mem_append_right _ (List.mem_append_right _ (List.mem_append_right _ (List.mem_append_right _ (List.mem_append_right _ (List.mem_append_right _ (List.mem_append_right _ (List.mem_append_right _ (List.mem_append_right _ (List.mem_append_right _ (List.mem_append_left _ h)))))))))))))))))))))))))))))
theorem kr_30 : ∀ w ∈ wsL_law0_r30, w ∈ wsL_law := fun _ h => kr_0 _ (List.mem_append_right _ (List.mem_append_right _ (List.mem_append_right _ (List.mem_append_right _ (List.mem_append_right _ (List.mem_append_right _ (List.mem_append_right _ (List.mem_append_right _ (List.mem_append_right _ (List.mem_append_right _ (List.mem_append_right _ (List.mem_append_right _ (List.mem_append_right _ (List.mem_append_right _ (List.mem_append_right _ (List.mem_append_right _ (List.mem_append_right _ (List.mem_append_right _ (List.mem_append_right _ (List.mem_append_right _ (List.mem_append_right _ (List.mem_append_right _ (List.mem_append_right _ (List.mem_append_right _ (List.mem_append_right _ (List.mem_append_right _ (List.mem_append_right _ (List.mem_append_right _ (List.mem_append_right _ (List.mem_append_left _ h))))))))))))))))))))))))))))))
theorem kr_31 : ∀ w ∈ wsL_law0_r31, w ∈ wsL_law := fun _ h => kr_0 _ (List.mem_append_right _ (List.mem_append_right _ (List.mem_append_right _ (List.mem_append_right _ (List.mem_append_right _ (List.mem_append_right _ (List.mem_append_right _ (List.mem_append_right _ (List.mem_append_right _ (List.mem_append_right _ (List.mem_append_right _ (List.mem_append_right _ (List.mem_append_right _ (List.mem_append_right _ (List.mem_append_right _ (List.mem_append_right _ (List.mem_append_right _ (List.mem_append_right _ (List.mem_append_right _ (List.mem_append_right _ (List.mem_append_right _ (List.mem_append_right _ (List.mem_append_right _ (List.mem_append_right _ (List.mem_append_right _ (List.mem_append_right _ (List.mem_append_right _ (List.mem_append_right _ (List.mem_append_right _ (List.mem_append_right _ (List.mem_append_left _ h)))))))))))))))))))))))))))))))
theorem kr_32 : ∀ w ∈ wsL_law0_r32, w ∈ wsL_law := fun _ h => kr_0 _ (List.mem_append_right _ (List.mem_append_right _ (List.mem_append_right _ (List.mem_append_right _ (List.mem_append_right _ (List.mem_append_right _ (List.mem_append_right _ (List.mem_append_right _ (List.mem_append_right _ (List.mem_append_right _ (List.mem_append_right _ (List.mem_append_right _ (List.mem_append_right _ (List.mem_append_right _ (List.mem_append_right _ (List.mem_append_right _ (List.mem_append_right _ (List.mem_append_right _ (List.mem_append_right _ (List.mem_append_right _ (List.mem_append_right _ (List.mem_append_right _ (List.mem_append_right _ (List.mem_append_right _ (List.mem_append_right _ (List.mem_append_right _ (List.mem_append_right _ (List.mem_append_right _ (List.mem_append_right _ (List.mem_append_right _ (List.mem_append_right _ (h))))))))))))))))))))))))))))))))
theorem kw_0 : Cond.classLink RL 8 RX5 ∈ wsL_law := kr_1 _ (List.mem_of_getElem? (i := 0) (by decide +kernel))
theorem kw_1 : Cond.instantiable RX5 10 ∈ wsL_law := kr_1 _ (List.mem_of_getElem? (i := 1) (by decide +kernel))
theorem kw_2 : Cond.initialized RX5 ∈ wsL_law := kr_1 _ (List.mem_of_getElem? (i := 2) (by decide +kernel))
theorem kw_3 : Cond.classLink RL 111 RX6 ∈ wsL_law := kr_1 _ (List.mem_of_getElem? (i := 3) (by decide +kernel))
theorem kw_4 : Cond.instantiable RX6 24 ∈ wsL_law := kr_1 _ (List.mem_of_getElem? (i := 4) (by decide +kernel))
theorem kw_5 : Cond.initialized RX6 ∈ wsL_law := kr_1 _ (List.mem_of_getElem? (i := 5) (by decide +kernel))
theorem kw_6 : Cond.arrayClass .long ∈ wsL_law := kr_1 _ (List.mem_of_getElem? (i := 6) (by decide +kernel))
theorem kw_7 : Cond.arrayClass .double ∈ wsL_law := kr_1 _ (List.mem_of_getElem? (i := 7) (by decide +kernel))
theorem kw_8 : Cond.methodLink RL 110 yX5_init ∈ wsL_law := kr_1 _ (List.mem_of_getElem? (i := 8) (by decide +kernel))
theorem kw_9 : Cond.instanceMethod yX5_init ∈ wsL_law := kr_1 _ (List.mem_of_getElem? (i := 9) (by decide +kernel))
theorem kw_10 : Cond.code yX5_init cX5_init 2 none ∈ wsL_law := kr_1 _ (List.mem_of_getElem? (i := 10) (by decide +kernel))
theorem kw_11 : Cond.methodLink RX5 3 objectInit ∈ wsL_law := kr_1 _ (List.mem_of_getElem? (i := 11) (by decide +kernel))
theorem kw_12 : Cond.instanceMethod objectInit ∈ wsL_law := kr_1 _ (List.mem_of_getElem? (i := 12) (by decide +kernel))
theorem kw_13 : Cond.code objectInit ⟨#[0xb1]⟩ 1 none ∈ wsL_law := kr_1 _ (List.mem_of_getElem? (i := 13) (by decide +kernel))
theorem kw_14 : Cond.classLink RX5 9 RX0 ∈ wsL_law := kr_1 _ (List.mem_of_getElem? (i := 14) (by decide +kernel))
theorem kw_15 : Cond.fieldLink RX5 11 "Pickwave" "aisles" "[LPickwave$Aisle;" ∈ wsL_law := kr_1 _ (List.mem_of_getElem? (i := 15) (by decide +kernel))
theorem kw_16 : Cond.instantiable RX0 3 ∈ wsL_law := kr_1 _ (List.mem_of_getElem? (i := 16) (by decide +kernel))
theorem kw_17 : Cond.initialized RX0 ∈ wsL_law := kr_1 _ (List.mem_of_getElem? (i := 17) (by decide +kernel))
theorem kw_18 : Cond.arrayClass .int ∈ wsL_law := kr_1 _ (List.mem_of_getElem? (i := 18) (by decide +kernel))
theorem kw_19 : Cond.fieldLink RX5 18 "Pickwave" "cutOffs" "[I" ∈ wsL_law := kr_1 _ (List.mem_of_getElem? (i := 19) (by decide +kernel))
theorem kw_20 : Cond.classLink RX5 22 RX3 ∈ wsL_law := kr_1 _ (List.mem_of_getElem? (i := 20) (by decide +kernel))
theorem kw_21 : Cond.fieldLink RX5 24 "Pickwave" "robots" "[LPickwave$Robot;" ∈ wsL_law := kr_1 _ (List.mem_of_getElem? (i := 21) (by decide +kernel))
theorem kw_22 : Cond.instantiable RX3 3 ∈ wsL_law := kr_1 _ (List.mem_of_getElem? (i := 22) (by decide +kernel))
theorem kw_23 : Cond.initialized RX3 ∈ wsL_law := kr_1 _ (List.mem_of_getElem? (i := 23) (by decide +kernel))
theorem kw_24 : Cond.classLink RX5 29 RJx4a65c ∈ wsL_law := kr_2 _ (List.mem_of_getElem? (i := 0) (by decide +kernel))
theorem kw_25 : Cond.instantiable RJx4a65c 3 ∈ wsL_law := kr_2 _ (List.mem_of_getElem? (i := 1) (by decide +kernel))
theorem kw_26 : Cond.initialized RJx4a65c ∈ wsL_law := kr_2 _ (List.mem_of_getElem? (i := 2) (by decide +kernel))
theorem kw_27 : Cond.fieldLink RX5 32 "Pickwave" "articles" "Ljava/util/ArrayList;" ∈ wsL_law := kr_2 _ (List.mem_of_getElem? (i := 3) (by decide +kernel))
theorem kw_28 : Cond.fieldLink RX5 36 "Pickwave" "lines" "Ljava/util/ArrayList;" ∈ wsL_law := kr_2 _ (List.mem_of_getElem? (i := 4) (by decide +kernel))
theorem kw_29 : Cond.classLink RX5 39 RX4 ∈ wsL_law := kr_2 _ (List.mem_of_getElem? (i := 5) (by decide +kernel))
theorem kw_30 : Cond.instantiable RX4 3 ∈ wsL_law := kr_2 _ (List.mem_of_getElem? (i := 6) (by decide +kernel))
theorem kw_31 : Cond.initialized RX4 ∈ wsL_law := kr_2 _ (List.mem_of_getElem? (i := 7) (by decide +kernel))
theorem kw_32 : Cond.fieldLink RX5 42 "Pickwave" "log" "LPickwave$ScanLog;" ∈ wsL_law := kr_2 _ (List.mem_of_getElem? (i := 8) (by decide +kernel))
theorem kw_33 : Cond.methodLink RX5 15 yX0_init ∈ wsL_law := kr_2 _ (List.mem_of_getElem? (i := 9) (by decide +kernel))
theorem kw_34 : Cond.instanceMethod yX0_init ∈ wsL_law := kr_2 _ (List.mem_of_getElem? (i := 10) (by decide +kernel))
theorem kw_35 : Cond.code yX0_init cX0_init 2 none ∈ wsL_law := kr_2 _ (List.mem_of_getElem? (i := 11) (by decide +kernel))
theorem kw_36 : Cond.methodLink RX0 1 objectInit ∈ wsL_law := kr_2 _ (List.mem_of_getElem? (i := 12) (by decide +kernel))
theorem kw_37 : Cond.fieldLink RX0 7 "Pickwave$Aisle" "number" "I" ∈ wsL_law := kr_2 _ (List.mem_of_getElem? (i := 13) (by decide +kernel))
theorem kw_38 : Cond.instanceMethod yX3_init ∈ wsL_law := kr_2 _ (List.mem_of_getElem? (i := 14) (by decide +kernel))
theorem kw_39 : Cond.code yX3_init cX3_init 1 none ∈ wsL_law := kr_2 _ (List.mem_of_getElem? (i := 15) (by decide +kernel))
theorem kw_40 : Cond.methodLink RX3 1 objectInit ∈ wsL_law := kr_2 _ (List.mem_of_getElem? (i := 16) (by decide +kernel))
theorem kw_41 : Cond.methodLink RX5 31 yJx4a65c_init_da8c8 ∈ wsL_law := kr_2 _ (List.mem_of_getElem? (i := 17) (by decide +kernel))
theorem kw_42 : Cond.instanceMethod yJx4a65c_init_da8c8 ∈ wsL_law := kr_2 _ (List.mem_of_getElem? (i := 18) (by decide +kernel))
theorem kw_43 : Cond.code yJx4a65c_init_da8c8 cJx4a65c_init_da8c8 1 none ∈ wsL_law := kr_2 _ (List.mem_of_getElem? (i := 19) (by decide +kernel))
theorem kw_44 : Cond.fieldLink RJx4a65c 39 "java/util/ArrayList" "DEFAULTCAPACITY_EMPTY_ELEMENTDATA" "[Ljava/lang/Object;" ∈ wsL_law := kr_2 _ (List.mem_of_getElem? (i := 20) (by decide +kernel))
theorem kw_45 : Cond.fieldLink RJx4a65c 9 "java/util/ArrayList" "elementData" "[Ljava/lang/Object;" ∈ wsL_law := kr_2 _ (List.mem_of_getElem? (i := 21) (by decide +kernel))
theorem kw_46 : Cond.methodLink RJx4a65c 1 yJxc12de_init_da8c8 ∈ wsL_law := kr_2 _ (List.mem_of_getElem? (i := 22) (by decide +kernel))
theorem kw_47 : Cond.instanceMethod yJxc12de_init_da8c8 ∈ wsL_law := kr_2 _ (List.mem_of_getElem? (i := 23) (by decide +kernel))
theorem kw_48 : Cond.initialized RJxc12de ∈ wsL_law := kr_3 _ (List.mem_of_getElem? (i := 0) (by decide +kernel))
theorem kw_49 : Cond.code yJxc12de_init_da8c8 cJxc12de_init_da8c8 1 none ∈ wsL_law := kr_3 _ (List.mem_of_getElem? (i := 1) (by decide +kernel))
theorem kw_50 : Cond.fieldLink RJxc12de 7 "java/util/AbstractList" "modCount" "I" ∈ wsL_law := kr_3 _ (List.mem_of_getElem? (i := 2) (by decide +kernel))
theorem kw_51 : Cond.methodLink RJxc12de 1 yJxa1e45_init_da8c8 ∈ wsL_law := kr_3 _ (List.mem_of_getElem? (i := 3) (by decide +kernel))
theorem kw_52 : Cond.instanceMethod yJxa1e45_init_da8c8 ∈ wsL_law := kr_3 _ (List.mem_of_getElem? (i := 4) (by decide +kernel))
theorem kw_53 : Cond.initialized RJxa1e45 ∈ wsL_law := kr_3 _ (List.mem_of_getElem? (i := 5) (by decide +kernel))
theorem kw_54 : Cond.code yJxa1e45_init_da8c8 cJxa1e45_init_da8c8 1 none ∈ wsL_law := kr_3 _ (List.mem_of_getElem? (i := 6) (by decide +kernel))
theorem kw_55 : Cond.methodLink RJxa1e45 1 objectInit ∈ wsL_law := kr_3 _ (List.mem_of_getElem? (i := 7) (by decide +kernel))
theorem kw_56 : Cond.methodLink RX5 41 yX4_init ∈ wsL_law := kr_3 _ (List.mem_of_getElem? (i := 8) (by decide +kernel))
theorem kw_57 : Cond.instanceMethod yX4_init ∈ wsL_law := kr_3 _ (List.mem_of_getElem? (i := 9) (by decide +kernel))
theorem kw_58 : Cond.code yX4_init cX4_init 1 none ∈ wsL_law := kr_3 _ (List.mem_of_getElem? (i := 10) (by decide +kernel))
theorem kw_59 : Cond.methodLink RX4 3 objectInit ∈ wsL_law := kr_3 _ (List.mem_of_getElem? (i := 11) (by decide +kernel))
theorem kw_60 : Cond.fieldLink RX4 9 "Pickwave$ScanLog" "numbers" "[I" ∈ wsL_law := kr_3 _ (List.mem_of_getElem? (i := 12) (by decide +kernel))
theorem kw_61 : Cond.arrayClass .char ∈ wsL_law := kr_3 _ (List.mem_of_getElem? (i := 13) (by decide +kernel))
theorem kw_62 : Cond.fieldLink RX4 15 "Pickwave$ScanLog" "signs" "[C" ∈ wsL_law := kr_3 _ (List.mem_of_getElem? (i := 14) (by decide +kernel))
theorem kw_63 : Cond.methodLink RL 113 yX6_init ∈ wsL_law := kr_3 _ (List.mem_of_getElem? (i := 15) (by decide +kernel))
theorem kw_64 : Cond.instanceMethod yX6_init ∈ wsL_law := kr_3 _ (List.mem_of_getElem? (i := 16) (by decide +kernel))
theorem kw_65 : Cond.code yX6_init cX6_init 1 none ∈ wsL_law := kr_3 _ (List.mem_of_getElem? (i := 17) (by decide +kernel))
theorem kw_66 : Cond.methodLink RX6 1 objectInit ∈ wsL_law := kr_3 _ (List.mem_of_getElem? (i := 18) (by decide +kernel))
theorem kw_67 : Cond.fieldLink RX6 7 "PickwaveModel" "aisle" "[I" ∈ wsL_law := kr_3 _ (List.mem_of_getElem? (i := 19) (by decide +kernel))
theorem kw_68 : Cond.fieldLink RX6 13 "PickwaveModel" "stock" "[I" ∈ wsL_law := kr_3 _ (List.mem_of_getElem? (i := 20) (by decide +kernel))
theorem kw_69 : Cond.fieldLink RX6 16 "PickwaveModel" "reserve" "[I" ∈ wsL_law := kr_3 _ (List.mem_of_getElem? (i := 21) (by decide +kernel))
theorem kw_70 : Cond.fieldLink RX6 19 "PickwaveModel" "room" "[I" ∈ wsL_law := kr_3 _ (List.mem_of_getElem? (i := 22) (by decide +kernel))
theorem kw_71 : Cond.fieldLink RX6 22 "PickwaveModel" "item" "[I" ∈ wsL_law := kr_3 _ (List.mem_of_getElem? (i := 23) (by decide +kernel))
theorem kw_72 : Cond.fieldLink RX6 25 "PickwaveModel" "amount" "[I" ∈ wsL_law := kr_4 _ (List.mem_of_getElem? (i := 0) (by decide +kernel))
theorem kw_73 : Cond.fieldLink RX6 28 "PickwaveModel" "carrier" "[I" ∈ wsL_law := kr_4 _ (List.mem_of_getElem? (i := 1) (by decide +kernel))
theorem kw_74 : Cond.fieldLink RX6 31 "PickwaveModel" "state" "[I" ∈ wsL_law := kr_4 _ (List.mem_of_getElem? (i := 2) (by decide +kernel))
theorem kw_75 : Cond.fieldLink RX6 34 "PickwaveModel" "waveOf" "[I" ∈ wsL_law := kr_4 _ (List.mem_of_getElem? (i := 3) (by decide +kernel))
theorem kw_76 : Cond.arrayClass .boolean ∈ wsL_law := kr_4 _ (List.mem_of_getElem? (i := 4) (by decide +kernel))
theorem kw_77 : Cond.fieldLink RX6 37 "PickwaveModel" "isBlocked" "[Z" ∈ wsL_law := kr_4 _ (List.mem_of_getElem? (i := 5) (by decide +kernel))
theorem kw_78 : Cond.fieldLink RX6 41 "PickwaveModel" "pickers" "[I" ∈ wsL_law := kr_4 _ (List.mem_of_getElem? (i := 6) (by decide +kernel))
theorem kw_79 : Cond.fieldLink RX6 44 "PickwaveModel" "cutOff" "[I" ∈ wsL_law := kr_4 _ (List.mem_of_getElem? (i := 7) (by decide +kernel))
theorem kw_80 : Cond.fieldLink RX6 47 "PickwaveModel" "load" "[I" ∈ wsL_law := kr_4 _ (List.mem_of_getElem? (i := 8) (by decide +kernel))
theorem kw_81 : Cond.fieldLink RX6 50 "PickwaveModel" "left" "[I" ∈ wsL_law := kr_4 _ (List.mem_of_getElem? (i := 9) (by decide +kernel))
theorem kw_82 : Cond.fieldLink RX6 53 "PickwaveModel" "goal" "[I" ∈ wsL_law := kr_4 _ (List.mem_of_getElem? (i := 10) (by decide +kernel))
theorem kw_83 : Cond.fieldLink RX6 56 "PickwaveModel" "scanOrder" "[I" ∈ wsL_law := kr_4 _ (List.mem_of_getElem? (i := 11) (by decide +kernel))
theorem kw_84 : Cond.fieldLink RX6 59 "PickwaveModel" "scanSign" "[I" ∈ wsL_law := kr_4 _ (List.mem_of_getElem? (i := 12) (by decide +kernel))
theorem kw_85 : Cond.methodLink RL 114 yL_addArticle ∈ wsL_law := kr_4 _ (List.mem_of_getElem? (i := 13) (by decide +kernel))
theorem kw_86 : Cond.static yL_addArticle ∈ wsL_law := kr_4 _ (List.mem_of_getElem? (i := 14) (by decide +kernel))
theorem kw_87 : Cond.initialized RL ∈ wsL_law := kr_4 _ (List.mem_of_getElem? (i := 15) (by decide +kernel))
theorem kw_88 : Cond.codeWith yL_addArticle cL_addArticle 7 (some .int) [(0, 14, 17, 13), (0, 14, 21, 15)] ∈ wsL_law := kr_4 _ (List.mem_of_getElem? (i := 16) (by decide +kernel))
theorem kw_89 : Cond.classLink RL 13 "java/lang/IllegalArgumentException" ∈ wsL_law := kr_4 _ (List.mem_of_getElem? (i := 17) (by decide +kernel))
theorem kw_90 : Cond.classLink RL 15 "java/lang/IllegalStateException" ∈ wsL_law := kr_4 _ (List.mem_of_getElem? (i := 18) (by decide +kernel))
theorem kw_91 : Cond.methodLink RL 7 yX5_addArticle ∈ wsL_law := kr_4 _ (List.mem_of_getElem? (i := 19) (by decide +kernel))
theorem kw_92 : Cond.instanceMethod yX5_addArticle ∈ wsL_law := kr_4 _ (List.mem_of_getElem? (i := 20) (by decide +kernel))
theorem kw_93 : Cond.selects RX5 yX5_addArticle yX5_addArticle ∈ wsL_law := kr_4 _ (List.mem_of_getElem? (i := 21) (by decide +kernel))
theorem kw_94 : Cond.code yX5_addArticle cX5_addArticle 5 (some .int) ∈ wsL_law := kr_4 _ (List.mem_of_getElem? (i := 22) (by decide +kernel))
theorem kw_95 : Cond.classLink RX5 50 "java/lang/IllegalArgumentException" ∈ wsL_law := kr_4 _ (List.mem_of_getElem? (i := 23) (by decide +kernel))
theorem kw_96 : Cond.initialized "java/lang/IllegalArgumentException" ∈ wsL_law := kr_5 _ (List.mem_of_getElem? (i := 0) (by decide +kernel))
theorem kw_97 : Cond.classLink RX5 69 "java/lang/IllegalStateException" ∈ wsL_law := kr_5 _ (List.mem_of_getElem? (i := 1) (by decide +kernel))
theorem kw_98 : Cond.initialized "java/lang/IllegalStateException" ∈ wsL_law := kr_5 _ (List.mem_of_getElem? (i := 2) (by decide +kernel))
theorem kw_99 : Cond.classLink RX5 74 RX1 ∈ wsL_law := kr_5 _ (List.mem_of_getElem? (i := 3) (by decide +kernel))
theorem kw_100 : Cond.instantiable RX1 5 ∈ wsL_law := kr_5 _ (List.mem_of_getElem? (i := 4) (by decide +kernel))
theorem kw_101 : Cond.initialized RX1 ∈ wsL_law := kr_5 _ (List.mem_of_getElem? (i := 5) (by decide +kernel))
theorem kw_102 : Cond.methodLink RX5 46 yX5_isAisle ∈ wsL_law := kr_5 _ (List.mem_of_getElem? (i := 6) (by decide +kernel))
theorem kw_103 : Cond.instanceMethod yX5_isAisle ∈ wsL_law := kr_5 _ (List.mem_of_getElem? (i := 7) (by decide +kernel))
theorem kw_104 : Cond.selects RX5 yX5_isAisle yX5_isAisle ∈ wsL_law := kr_5 _ (List.mem_of_getElem? (i := 8) (by decide +kernel))
theorem kw_105 : Cond.code yX5_isAisle cX5_isAisle 2 (some .boolean) ∈ wsL_law := kr_5 _ (List.mem_of_getElem? (i := 9) (by decide +kernel))
theorem kw_106 : Cond.methodLink RX5 57 yX5_isBetween ∈ wsL_law := kr_5 _ (List.mem_of_getElem? (i := 10) (by decide +kernel))
theorem kw_107 : Cond.static yX5_isBetween ∈ wsL_law := kr_5 _ (List.mem_of_getElem? (i := 11) (by decide +kernel))
theorem kw_108 : Cond.code yX5_isBetween cX5_isBetween 3 (some .boolean) ∈ wsL_law := kr_5 _ (List.mem_of_getElem? (i := 12) (by decide +kernel))
theorem kw_109 : Cond.methodLink RX5 65 yJx4a65c_size_8abf5 ∈ wsL_law := kr_5 _ (List.mem_of_getElem? (i := 13) (by decide +kernel))
theorem kw_110 : Cond.instanceMethod yJx4a65c_size_8abf5 ∈ wsL_law := kr_5 _ (List.mem_of_getElem? (i := 14) (by decide +kernel))
theorem kw_111 : Cond.selects RJx4a65c yJx4a65c_size_8abf5 yJx4a65c_size_8abf5 ∈ wsL_law := kr_5 _ (List.mem_of_getElem? (i := 15) (by decide +kernel))
theorem kw_112 : Cond.code yJx4a65c_size_8abf5 cJx4a65c_size_8abf5 1 (some .int) ∈ wsL_law := kr_5 _ (List.mem_of_getElem? (i := 16) (by decide +kernel))
theorem kw_113 : Cond.fieldLink RJx4a65c 48 "java/util/ArrayList" "size" "I" ∈ wsL_law := kr_5 _ (List.mem_of_getElem? (i := 17) (by decide +kernel))
theorem kw_114 : Cond.methodLink RX5 76 yX1_init ∈ wsL_law := kr_5 _ (List.mem_of_getElem? (i := 18) (by decide +kernel))
theorem kw_115 : Cond.instanceMethod yX1_init ∈ wsL_law := kr_5 _ (List.mem_of_getElem? (i := 19) (by decide +kernel))
theorem kw_116 : Cond.code yX1_init cX1_init 5 none ∈ wsL_law := kr_5 _ (List.mem_of_getElem? (i := 20) (by decide +kernel))
theorem kw_117 : Cond.methodLink RX1 1 objectInit ∈ wsL_law := kr_5 _ (List.mem_of_getElem? (i := 21) (by decide +kernel))
theorem kw_118 : Cond.fieldLink RX1 7 "Pickwave$Article" "aisle" "LPickwave$Aisle;" ∈ wsL_law := kr_5 _ (List.mem_of_getElem? (i := 22) (by decide +kernel))
theorem kw_119 : Cond.fieldLink RX1 13 "Pickwave$Article" "stock" "I" ∈ wsL_law := kr_5 _ (List.mem_of_getElem? (i := 23) (by decide +kernel))
theorem kw_120 : Cond.fieldLink RX1 17 "Pickwave$Article" "reserve" "I" ∈ wsL_law := kr_6 _ (List.mem_of_getElem? (i := 0) (by decide +kernel))
theorem kw_121 : Cond.fieldLink RX1 20 "Pickwave$Article" "room" "I" ∈ wsL_law := kr_6 _ (List.mem_of_getElem? (i := 1) (by decide +kernel))
theorem kw_122 : Cond.methodLink RX5 79 yJx4a65c_add_9ea2d ∈ wsL_law := kr_6 _ (List.mem_of_getElem? (i := 2) (by decide +kernel))
theorem kw_123 : Cond.instanceMethod yJx4a65c_add_9ea2d ∈ wsL_law := kr_6 _ (List.mem_of_getElem? (i := 3) (by decide +kernel))
theorem kw_124 : Cond.selects RJx4a65c yJx4a65c_add_9ea2d yJx4a65c_add_9ea2d ∈ wsL_law := kr_6 _ (List.mem_of_getElem? (i := 4) (by decide +kernel))
theorem kw_125 : Cond.code yJx4a65c_add_9ea2d cJx4a65c_add_9ea2d 2 (some .boolean) ∈ wsL_law := kr_6 _ (List.mem_of_getElem? (i := 5) (by decide +kernel))
theorem kw_126 : Cond.fieldLink RJx4a65c 63 "java/util/ArrayList" "modCount" "I" ∈ wsL_law := kr_6 _ (List.mem_of_getElem? (i := 6) (by decide +kernel))
theorem kw_127 : Cond.sameField "java/util/ArrayList" "java/util/AbstractList" "modCount" "I" ∈ wsL_law := kr_6 _ (List.mem_of_getElem? (i := 7) (by decide +kernel))
theorem kw_128 : Cond.methodLink RJx4a65c 131 yJx4a65c_add_72be8 ∈ wsL_law := kr_6 _ (List.mem_of_getElem? (i := 8) (by decide +kernel))
theorem kw_129 : Cond.instanceMethod yJx4a65c_add_72be8 ∈ wsL_law := kr_6 _ (List.mem_of_getElem? (i := 9) (by decide +kernel))
theorem kw_130 : Cond.selects RJx4a65c yJx4a65c_add_72be8 yJx4a65c_add_72be8 ∈ wsL_law := kr_6 _ (List.mem_of_getElem? (i := 10) (by decide +kernel))
theorem kw_131 : Cond.code yJx4a65c_add_72be8 cJx4a65c_add_72be8 4 none ∈ wsL_law := kr_6 _ (List.mem_of_getElem? (i := 11) (by decide +kernel))
theorem kw_132 : Cond.methodLink RJx4a65c 129 yJx4a65c_grow_d5877 ∈ wsL_law := kr_6 _ (List.mem_of_getElem? (i := 12) (by decide +kernel))
theorem kw_133 : Cond.instanceMethod yJx4a65c_grow_d5877 ∈ wsL_law := kr_6 _ (List.mem_of_getElem? (i := 13) (by decide +kernel))
theorem kw_134 : Cond.selects RJx4a65c yJx4a65c_grow_d5877 yJx4a65c_grow_d5877 ∈ wsL_law := kr_6 _ (List.mem_of_getElem? (i := 14) (by decide +kernel))
theorem kw_135 : Cond.code yJx4a65c_grow_d5877 cJx4a65c_grow_d5877 1 (some (.array (.object "java/lang/Object"))) ∈ wsL_law := kr_6 _ (List.mem_of_getElem? (i := 15) (by decide +kernel))
theorem kw_136 : Cond.methodLink RJx4a65c 69 yJx4a65c_grow_92f84 ∈ wsL_law := kr_6 _ (List.mem_of_getElem? (i := 16) (by decide +kernel))
theorem kw_137 : Cond.instanceMethod yJx4a65c_grow_92f84 ∈ wsL_law := kr_6 _ (List.mem_of_getElem? (i := 17) (by decide +kernel))
theorem kw_138 : Cond.selects RJx4a65c yJx4a65c_grow_92f84 yJx4a65c_grow_92f84 ∈ wsL_law := kr_6 _ (List.mem_of_getElem? (i := 18) (by decide +kernel))
theorem kw_139 : Cond.code yJx4a65c_grow_92f84 cJx4a65c_grow_92f84 4 (some (.array (.object "java/lang/Object"))) ∈ wsL_law := kr_6 _ (List.mem_of_getElem? (i := 19) (by decide +kernel))
theorem kw_140 : Cond.methodLink RJx4a65c 79 Lib.Math.max.name ∈ wsL_law := kr_6 _ (List.mem_of_getElem? (i := 20) (by decide +kernel))
theorem kw_141 : Cond.static Lib.Math.max.name ∈ wsL_law := kr_6 _ (List.mem_of_getElem? (i := 21) (by decide +kernel))
theorem kw_142 : Cond.initialized "java/lang/Math" ∈ wsL_law := kr_6 _ (List.mem_of_getElem? (i := 22) (by decide +kernel))
theorem kw_143 : Cond.code Lib.Math.max.name Lib.Math.max.code 2 (some .int) ∈ wsL_law := kr_6 _ (List.mem_of_getElem? (i := 23) (by decide +kernel))
theorem kw_144 : Cond.classLink RJx4a65c 7 "java/lang/Object" ∈ wsL_law := kr_7 _ (List.mem_of_getElem? (i := 0) (by decide +kernel))
theorem kw_145 : Cond.methodLink RJx4a65c 73 yJ8_newLength_cabcc ∈ wsL_law := kr_7 _ (List.mem_of_getElem? (i := 1) (by decide +kernel))
theorem kw_146 : Cond.static yJ8_newLength_cabcc ∈ wsL_law := kr_7 _ (List.mem_of_getElem? (i := 2) (by decide +kernel))
theorem kw_147 : Cond.initialized RJ8 ∈ wsL_law := kr_7 _ (List.mem_of_getElem? (i := 3) (by decide +kernel))
theorem kw_148 : Cond.code yJ8_newLength_cabcc cJ8_newLength_cabcc 4 (some .int) ∈ wsL_law := kr_7 _ (List.mem_of_getElem? (i := 4) (by decide +kernel))
theorem kw_149 : Cond.methodLink RJ8 194 Lib.Math.max.name ∈ wsL_law := kr_7 _ (List.mem_of_getElem? (i := 5) (by decide +kernel))
theorem kw_150 : Cond.constant RJ8 200 (2147483639) ∈ wsL_law := kr_7 _ (List.mem_of_getElem? (i := 6) (by decide +kernel))
theorem kw_151 : Cond.methodLink RJ8 201 yJ8_hugeLength_7cf53 ∈ wsL_law := kr_7 _ (List.mem_of_getElem? (i := 7) (by decide +kernel))
theorem kw_152 : Cond.static yJ8_hugeLength_7cf53 ∈ wsL_law := kr_7 _ (List.mem_of_getElem? (i := 8) (by decide +kernel))
theorem kw_153 : Cond.code yJ8_hugeLength_7cf53 cJ8_hugeLength_7cf53 3 (some .int) ∈ wsL_law := kr_7 _ (List.mem_of_getElem? (i := 9) (by decide +kernel))
theorem kw_154 : Cond.methodLink RJx4a65c 66 yJ7_copyOf_1904c ∈ wsL_law := kr_7 _ (List.mem_of_getElem? (i := 10) (by decide +kernel))
theorem kw_155 : Cond.static yJ7_copyOf_1904c ∈ wsL_law := kr_7 _ (List.mem_of_getElem? (i := 11) (by decide +kernel))
theorem kw_156 : Cond.initialized RJ7 ∈ wsL_law := kr_7 _ (List.mem_of_getElem? (i := 12) (by decide +kernel))
theorem kw_157 : Cond.code yJ7_copyOf_1904c cJ7_copyOf_1904c 2 (some (.array (.object "java/lang/Object"))) ∈ wsL_law := kr_7 _ (List.mem_of_getElem? (i := 13) (by decide +kernel))
theorem kw_158 : Cond.methodLink RJ7 86 ⟨"java/lang/Object", "getClass", "()Ljava/lang/Class;"⟩ ∈ wsL_law := kr_7 _ (List.mem_of_getElem? (i := 14) (by decide +kernel))
theorem kw_159 : Cond.selects "[Ljava/lang/Object;" ⟨"java/lang/Object", "getClass", "()Ljava/lang/Class;"⟩ ⟨"java/lang/Object", "getClass", "()Ljava/lang/Class;"⟩ ∈ wsL_law := kr_7 _ (List.mem_of_getElem? (i := 15) (by decide +kernel))
theorem kw_160 : Cond.instanceMethod ⟨"java/lang/Object", "getClass", "()Ljava/lang/Class;"⟩ ∈ wsL_law := kr_7 _ (List.mem_of_getElem? (i := 16) (by decide +kernel))
theorem kw_161 : Cond.native ⟨"java/lang/Object", "getClass", "()Ljava/lang/Class;"⟩ ∈ wsL_law := kr_7 _ (List.mem_of_getElem? (i := 17) (by decide +kernel))
theorem kw_162 : Cond.methodLink RJ7 300 yJ7_copyOf_6403c ∈ wsL_law := kr_7 _ (List.mem_of_getElem? (i := 18) (by decide +kernel))
theorem kw_163 : Cond.static yJ7_copyOf_6403c ∈ wsL_law := kr_7 _ (List.mem_of_getElem? (i := 19) (by decide +kernel))
theorem kw_164 : Cond.code yJ7_copyOf_6403c cJ7_copyOf_6403c 4 (some (.array (.object "java/lang/Object"))) ∈ wsL_law := kr_7 _ (List.mem_of_getElem? (i := 20) (by decide +kernel))
theorem kw_165 : Cond.classLink RJ7 110 "[Ljava/lang/Object;" ∈ wsL_law := kr_7 _ (List.mem_of_getElem? (i := 21) (by decide +kernel))
theorem kw_166 : Cond.classLink RJ7 2 "java/lang/Object" ∈ wsL_law := kr_7 _ (List.mem_of_getElem? (i := 22) (by decide +kernel))
theorem kw_167 : Cond.methodLink RJ7 304 Lib.Math.min.name ∈ wsL_law := kr_7 _ (List.mem_of_getElem? (i := 23) (by decide +kernel))
theorem kw_168 : Cond.static Lib.Math.min.name ∈ wsL_law := kr_8 _ (List.mem_of_getElem? (i := 0) (by decide +kernel))
theorem kw_169 : Cond.code Lib.Math.min.name Lib.Math.min.code 2 (some .int) ∈ wsL_law := kr_8 _ (List.mem_of_getElem? (i := 1) (by decide +kernel))
theorem kw_170 : Cond.methodLink RJ7 150 arraycopyName ∈ wsL_law := kr_8 _ (List.mem_of_getElem? (i := 2) (by decide +kernel))
theorem kw_171 : Cond.native arraycopyName ∈ wsL_law := kr_8 _ (List.mem_of_getElem? (i := 3) (by decide +kernel))
theorem kw_172 : Cond.static arraycopyName ∈ wsL_law := kr_8 _ (List.mem_of_getElem? (i := 4) (by decide +kernel))
theorem kw_173 : Cond.initialized "java/lang/System" ∈ wsL_law := kr_8 _ (List.mem_of_getElem? (i := 5) (by decide +kernel))
theorem kw_174 : Cond.methodLink RL 119 yX6_addArticle ∈ wsL_law := kr_8 _ (List.mem_of_getElem? (i := 6) (by decide +kernel))
theorem kw_175 : Cond.instanceMethod yX6_addArticle ∈ wsL_law := kr_8 _ (List.mem_of_getElem? (i := 7) (by decide +kernel))
theorem kw_176 : Cond.selects RX6 yX6_addArticle yX6_addArticle ∈ wsL_law := kr_8 _ (List.mem_of_getElem? (i := 8) (by decide +kernel))
theorem kw_177 : Cond.code yX6_addArticle cX6_addArticle 5 (some .int) ∈ wsL_law := kr_8 _ (List.mem_of_getElem? (i := 9) (by decide +kernel))
theorem kw_178 : Cond.fieldLink RX6 66 "PickwaveModel" "articles" "I" ∈ wsL_law := kr_8 _ (List.mem_of_getElem? (i := 10) (by decide +kernel))
theorem kw_179 : Cond.fieldLink RX6 62 "PickwaveModel" "thrown" "I" ∈ wsL_law := kr_8 _ (List.mem_of_getElem? (i := 11) (by decide +kernel))
theorem kw_180 : Cond.methodLink RX6 69 yX6_in ∈ wsL_law := kr_8 _ (List.mem_of_getElem? (i := 12) (by decide +kernel))
theorem kw_181 : Cond.static yX6_in ∈ wsL_law := kr_8 _ (List.mem_of_getElem? (i := 13) (by decide +kernel))
theorem kw_182 : Cond.code yX6_in cX6_in 3 (some .boolean) ∈ wsL_law := kr_8 _ (List.mem_of_getElem? (i := 14) (by decide +kernel))
theorem kw_183 : Cond.methodLink RX6 87 yX6_fails ∈ wsL_law := kr_8 _ (List.mem_of_getElem? (i := 15) (by decide +kernel))
theorem kw_184 : Cond.instanceMethod yX6_fails ∈ wsL_law := kr_8 _ (List.mem_of_getElem? (i := 16) (by decide +kernel))
theorem kw_185 : Cond.selects RX6 yX6_fails yX6_fails ∈ wsL_law := kr_8 _ (List.mem_of_getElem? (i := 17) (by decide +kernel))
theorem kw_186 : Cond.code yX6_fails cX6_fails 2 (some .int) ∈ wsL_law := kr_8 _ (List.mem_of_getElem? (i := 18) (by decide +kernel))
theorem kw_187 : Cond.methodLink RL 120 yX6_thrown ∈ wsL_law := kr_8 _ (List.mem_of_getElem? (i := 19) (by decide +kernel))
theorem kw_188 : Cond.instanceMethod yX6_thrown ∈ wsL_law := kr_8 _ (List.mem_of_getElem? (i := 20) (by decide +kernel))
theorem kw_189 : Cond.selects RX6 yX6_thrown yX6_thrown ∈ wsL_law := kr_8 _ (List.mem_of_getElem? (i := 21) (by decide +kernel))
theorem kw_190 : Cond.code yX6_thrown cX6_thrown 1 (some .int) ∈ wsL_law := kr_8 _ (List.mem_of_getElem? (i := 22) (by decide +kernel))
theorem kw_191 : Cond.methodLink RL 124 yL_stock ∈ wsL_law := kr_8 _ (List.mem_of_getElem? (i := 23) (by decide +kernel))
theorem kw_192 : Cond.static yL_stock ∈ wsL_law := kr_9 _ (List.mem_of_getElem? (i := 0) (by decide +kernel))
theorem kw_193 : Cond.codeWith yL_stock cL_stock 4 (some .int) [(0, 9, 12, 21)] ∈ wsL_law := kr_9 _ (List.mem_of_getElem? (i := 1) (by decide +kernel))
theorem kw_194 : Cond.classLink RL 21 "java/lang/IndexOutOfBoundsException" ∈ wsL_law := kr_9 _ (List.mem_of_getElem? (i := 2) (by decide +kernel))
theorem kw_195 : Cond.methodLink RL 17 yX5_stock ∈ wsL_law := kr_9 _ (List.mem_of_getElem? (i := 3) (by decide +kernel))
theorem kw_196 : Cond.instanceMethod yX5_stock ∈ wsL_law := kr_9 _ (List.mem_of_getElem? (i := 4) (by decide +kernel))
theorem kw_197 : Cond.selects RX5 yX5_stock yX5_stock ∈ wsL_law := kr_9 _ (List.mem_of_getElem? (i := 5) (by decide +kernel))
theorem kw_198 : Cond.code yX5_stock cX5_stock 2 (some .int) ∈ wsL_law := kr_9 _ (List.mem_of_getElem? (i := 6) (by decide +kernel))
theorem kw_199 : Cond.fieldLink RX5 87 "Pickwave$Article" "stock" "I" ∈ wsL_law := kr_9 _ (List.mem_of_getElem? (i := 7) (by decide +kernel))
theorem kw_200 : Cond.methodLink RX5 83 yX5_findArticle ∈ wsL_law := kr_9 _ (List.mem_of_getElem? (i := 8) (by decide +kernel))
theorem kw_201 : Cond.instanceMethod yX5_findArticle ∈ wsL_law := kr_9 _ (List.mem_of_getElem? (i := 9) (by decide +kernel))
theorem kw_202 : Cond.selects RX5 yX5_findArticle yX5_findArticle ∈ wsL_law := kr_9 _ (List.mem_of_getElem? (i := 10) (by decide +kernel))
theorem kw_203 : Cond.code yX5_findArticle cX5_findArticle 2 (some (.object "Pickwave$Article")) ∈ wsL_law := kr_9 _ (List.mem_of_getElem? (i := 11) (by decide +kernel))
theorem kw_204 : Cond.classLink RX5 275 "java/lang/IndexOutOfBoundsException" ∈ wsL_law := kr_9 _ (List.mem_of_getElem? (i := 12) (by decide +kernel))
theorem kw_205 : Cond.initialized "java/lang/IndexOutOfBoundsException" ∈ wsL_law := kr_9 _ (List.mem_of_getElem? (i := 13) (by decide +kernel))
theorem kw_206 : Cond.classLink RX5 74 "Pickwave$Article" ∈ wsL_law := kr_9 _ (List.mem_of_getElem? (i := 14) (by decide +kernel))
theorem kw_207 : Cond.methodLink RX5 100 yJx4a65c_get_915e3 ∈ wsL_law := kr_9 _ (List.mem_of_getElem? (i := 15) (by decide +kernel))
theorem kw_208 : Cond.instanceMethod yJx4a65c_get_915e3 ∈ wsL_law := kr_9 _ (List.mem_of_getElem? (i := 16) (by decide +kernel))
theorem kw_209 : Cond.selects RJx4a65c yJx4a65c_get_915e3 yJx4a65c_get_915e3 ∈ wsL_law := kr_9 _ (List.mem_of_getElem? (i := 17) (by decide +kernel))
theorem kw_210 : Cond.code yJx4a65c_get_915e3 cJx4a65c_get_915e3 2 (some (.object "java/lang/Object")) ∈ wsL_law := kr_9 _ (List.mem_of_getElem? (i := 18) (by decide +kernel))
theorem kw_211 : Cond.methodLink RJx4a65c 118 yJ15_checkIndex_7cf53 ∈ wsL_law := kr_9 _ (List.mem_of_getElem? (i := 19) (by decide +kernel))
theorem kw_212 : Cond.static yJ15_checkIndex_7cf53 ∈ wsL_law := kr_9 _ (List.mem_of_getElem? (i := 20) (by decide +kernel))
theorem kw_213 : Cond.initialized RJ15 ∈ wsL_law := kr_9 _ (List.mem_of_getElem? (i := 21) (by decide +kernel))
theorem kw_214 : Cond.code yJ15_checkIndex_7cf53 cJ15_checkIndex_7cf53 2 (some .int) ∈ wsL_law := kr_9 _ (List.mem_of_getElem? (i := 22) (by decide +kernel))
theorem kw_215 : Cond.methodLink RJ15 105 yJ3_checkIndex_8e157 ∈ wsL_law := kr_9 _ (List.mem_of_getElem? (i := 23) (by decide +kernel))
theorem kw_216 : Cond.static yJ3_checkIndex_8e157 ∈ wsL_law := kr_10 _ (List.mem_of_getElem? (i := 0) (by decide +kernel))
theorem kw_217 : Cond.initialized RJ3 ∈ wsL_law := kr_10 _ (List.mem_of_getElem? (i := 1) (by decide +kernel))
theorem kw_218 : Cond.code yJ3_checkIndex_8e157 cJ3_checkIndex_8e157 3 (some .int) ∈ wsL_law := kr_10 _ (List.mem_of_getElem? (i := 2) (by decide +kernel))
theorem kw_219 : Cond.methodLink RJx4a65c 123 yJx4a65c_elementData_915e3 ∈ wsL_law := kr_10 _ (List.mem_of_getElem? (i := 3) (by decide +kernel))
theorem kw_220 : Cond.instanceMethod yJx4a65c_elementData_915e3 ∈ wsL_law := kr_10 _ (List.mem_of_getElem? (i := 4) (by decide +kernel))
theorem kw_221 : Cond.selects RJx4a65c yJx4a65c_elementData_915e3 yJx4a65c_elementData_915e3 ∈ wsL_law := kr_10 _ (List.mem_of_getElem? (i := 5) (by decide +kernel))
theorem kw_222 : Cond.code yJx4a65c_elementData_915e3 cJx4a65c_elementData_915e3 2 (some (.object "java/lang/Object")) ∈ wsL_law := kr_10 _ (List.mem_of_getElem? (i := 6) (by decide +kernel))
theorem kw_223 : Cond.methodLink RL 127 yX6_stock ∈ wsL_law := kr_10 _ (List.mem_of_getElem? (i := 7) (by decide +kernel))
theorem kw_224 : Cond.instanceMethod yX6_stock ∈ wsL_law := kr_10 _ (List.mem_of_getElem? (i := 8) (by decide +kernel))
theorem kw_225 : Cond.selects RX6 yX6_stock yX6_stock ∈ wsL_law := kr_10 _ (List.mem_of_getElem? (i := 9) (by decide +kernel))
theorem kw_226 : Cond.code yX6_stock cX6_stock 2 (some .int) ∈ wsL_law := kr_10 _ (List.mem_of_getElem? (i := 10) (by decide +kernel))
theorem kw_227 : Cond.methodLink RX6 90 yX6_isArticle ∈ wsL_law := kr_10 _ (List.mem_of_getElem? (i := 11) (by decide +kernel))
theorem kw_228 : Cond.instanceMethod yX6_isArticle ∈ wsL_law := kr_10 _ (List.mem_of_getElem? (i := 12) (by decide +kernel))
theorem kw_229 : Cond.selects RX6 yX6_isArticle yX6_isArticle ∈ wsL_law := kr_10 _ (List.mem_of_getElem? (i := 13) (by decide +kernel))
theorem kw_230 : Cond.code yX6_isArticle cX6_isArticle 2 (some .boolean) ∈ wsL_law := kr_10 _ (List.mem_of_getElem? (i := 14) (by decide +kernel))
theorem kw_231 : Cond.methodLink RL 128 yL_reserve ∈ wsL_law := kr_10 _ (List.mem_of_getElem? (i := 15) (by decide +kernel))
theorem kw_232 : Cond.static yL_reserve ∈ wsL_law := kr_10 _ (List.mem_of_getElem? (i := 16) (by decide +kernel))
theorem kw_233 : Cond.codeWith yL_reserve cL_reserve 4 (some .int) [(0, 9, 12, 21)] ∈ wsL_law := kr_10 _ (List.mem_of_getElem? (i := 17) (by decide +kernel))
theorem kw_234 : Cond.methodLink RL 23 yX5_reserve ∈ wsL_law := kr_10 _ (List.mem_of_getElem? (i := 18) (by decide +kernel))
theorem kw_235 : Cond.instanceMethod yX5_reserve ∈ wsL_law := kr_10 _ (List.mem_of_getElem? (i := 19) (by decide +kernel))
theorem kw_236 : Cond.selects RX5 yX5_reserve yX5_reserve ∈ wsL_law := kr_10 _ (List.mem_of_getElem? (i := 20) (by decide +kernel))
theorem kw_237 : Cond.code yX5_reserve cX5_reserve 2 (some .int) ∈ wsL_law := kr_10 _ (List.mem_of_getElem? (i := 21) (by decide +kernel))
theorem kw_238 : Cond.fieldLink RX5 91 "Pickwave$Article" "reserve" "I" ∈ wsL_law := kr_10 _ (List.mem_of_getElem? (i := 22) (by decide +kernel))
theorem kw_239 : Cond.methodLink RL 130 yX6_reserve ∈ wsL_law := kr_10 _ (List.mem_of_getElem? (i := 23) (by decide +kernel))
theorem kw_240 : Cond.instanceMethod yX6_reserve ∈ wsL_law := kr_11 _ (List.mem_of_getElem? (i := 0) (by decide +kernel))
theorem kw_241 : Cond.selects RX6 yX6_reserve yX6_reserve ∈ wsL_law := kr_11 _ (List.mem_of_getElem? (i := 1) (by decide +kernel))
theorem kw_242 : Cond.code yX6_reserve cX6_reserve 2 (some .int) ∈ wsL_law := kr_11 _ (List.mem_of_getElem? (i := 2) (by decide +kernel))
theorem kw_243 : Cond.methodLink RL 131 yL_free ∈ wsL_law := kr_11 _ (List.mem_of_getElem? (i := 3) (by decide +kernel))
theorem kw_244 : Cond.static yL_free ∈ wsL_law := kr_11 _ (List.mem_of_getElem? (i := 4) (by decide +kernel))
theorem kw_245 : Cond.codeWith yL_free cL_free 4 (some .int) [(0, 9, 12, 21)] ∈ wsL_law := kr_11 _ (List.mem_of_getElem? (i := 5) (by decide +kernel))
theorem kw_246 : Cond.methodLink RL 26 yX5_free ∈ wsL_law := kr_11 _ (List.mem_of_getElem? (i := 6) (by decide +kernel))
theorem kw_247 : Cond.instanceMethod yX5_free ∈ wsL_law := kr_11 _ (List.mem_of_getElem? (i := 7) (by decide +kernel))
theorem kw_248 : Cond.selects RX5 yX5_free yX5_free ∈ wsL_law := kr_11 _ (List.mem_of_getElem? (i := 8) (by decide +kernel))
theorem kw_249 : Cond.code yX5_free cX5_free 2 (some .int) ∈ wsL_law := kr_11 _ (List.mem_of_getElem? (i := 9) (by decide +kernel))
theorem kw_250 : Cond.methodLink RX5 94 yX1_freeUnits ∈ wsL_law := kr_11 _ (List.mem_of_getElem? (i := 10) (by decide +kernel))
theorem kw_251 : Cond.instanceMethod yX1_freeUnits ∈ wsL_law := kr_11 _ (List.mem_of_getElem? (i := 11) (by decide +kernel))
theorem kw_252 : Cond.selects RX1 yX1_freeUnits yX1_freeUnits ∈ wsL_law := kr_11 _ (List.mem_of_getElem? (i := 12) (by decide +kernel))
theorem kw_253 : Cond.code yX1_freeUnits cX1_freeUnits 1 (some .int) ∈ wsL_law := kr_11 _ (List.mem_of_getElem? (i := 13) (by decide +kernel))
theorem kw_254 : Cond.fieldLink RX1 23 "Pickwave$Article" "promisedUnits" "I" ∈ wsL_law := kr_11 _ (List.mem_of_getElem? (i := 14) (by decide +kernel))
theorem kw_255 : Cond.methodLink RL 133 yX6_free ∈ wsL_law := kr_11 _ (List.mem_of_getElem? (i := 15) (by decide +kernel))
theorem kw_256 : Cond.instanceMethod yX6_free ∈ wsL_law := kr_11 _ (List.mem_of_getElem? (i := 16) (by decide +kernel))
theorem kw_257 : Cond.selects RX6 yX6_free yX6_free ∈ wsL_law := kr_11 _ (List.mem_of_getElem? (i := 17) (by decide +kernel))
theorem kw_258 : Cond.code yX6_free cX6_free 2 (some .int) ∈ wsL_law := kr_11 _ (List.mem_of_getElem? (i := 18) (by decide +kernel))
theorem kw_259 : Cond.methodLink RX6 94 yX6_rest ∈ wsL_law := kr_11 _ (List.mem_of_getElem? (i := 19) (by decide +kernel))
theorem kw_260 : Cond.instanceMethod yX6_rest ∈ wsL_law := kr_11 _ (List.mem_of_getElem? (i := 20) (by decide +kernel))
theorem kw_261 : Cond.selects RX6 yX6_rest yX6_rest ∈ wsL_law := kr_11 _ (List.mem_of_getElem? (i := 21) (by decide +kernel))
theorem kw_262 : Cond.code yX6_rest cX6_rest 2 (some .int) ∈ wsL_law := kr_11 _ (List.mem_of_getElem? (i := 22) (by decide +kernel))
theorem kw_263 : Cond.methodLink RX6 79 yX6_hold ∈ wsL_law := kr_11 _ (List.mem_of_getElem? (i := 23) (by decide +kernel))
theorem kw_264 : Cond.instanceMethod yX6_hold ∈ wsL_law := kr_12 _ (List.mem_of_getElem? (i := 0) (by decide +kernel))
theorem kw_265 : Cond.selects RX6 yX6_hold yX6_hold ∈ wsL_law := kr_12 _ (List.mem_of_getElem? (i := 1) (by decide +kernel))
theorem kw_266 : Cond.code yX6_hold cX6_hold 4 (some .int) ∈ wsL_law := kr_12 _ (List.mem_of_getElem? (i := 2) (by decide +kernel))
theorem kw_267 : Cond.fieldLink RX6 73 "PickwaveModel" "orders" "I" ∈ wsL_law := kr_12 _ (List.mem_of_getElem? (i := 3) (by decide +kernel))
theorem kw_268 : Cond.methodLink RL 134 yL_promised ∈ wsL_law := kr_12 _ (List.mem_of_getElem? (i := 4) (by decide +kernel))
theorem kw_269 : Cond.static yL_promised ∈ wsL_law := kr_12 _ (List.mem_of_getElem? (i := 5) (by decide +kernel))
theorem kw_270 : Cond.codeWith yL_promised cL_promised 4 (some .int) [(0, 9, 12, 21)] ∈ wsL_law := kr_12 _ (List.mem_of_getElem? (i := 6) (by decide +kernel))
theorem kw_271 : Cond.methodLink RL 29 yX5_promised ∈ wsL_law := kr_12 _ (List.mem_of_getElem? (i := 7) (by decide +kernel))
theorem kw_272 : Cond.instanceMethod yX5_promised ∈ wsL_law := kr_12 _ (List.mem_of_getElem? (i := 8) (by decide +kernel))
theorem kw_273 : Cond.selects RX5 yX5_promised yX5_promised ∈ wsL_law := kr_12 _ (List.mem_of_getElem? (i := 9) (by decide +kernel))
theorem kw_274 : Cond.code yX5_promised cX5_promised 2 (some .int) ∈ wsL_law := kr_12 _ (List.mem_of_getElem? (i := 10) (by decide +kernel))
theorem kw_275 : Cond.fieldLink RX5 97 "Pickwave$Article" "promisedUnits" "I" ∈ wsL_law := kr_12 _ (List.mem_of_getElem? (i := 11) (by decide +kernel))
theorem kw_276 : Cond.methodLink RL 136 yX6_promised ∈ wsL_law := kr_12 _ (List.mem_of_getElem? (i := 12) (by decide +kernel))
theorem kw_277 : Cond.instanceMethod yX6_promised ∈ wsL_law := kr_12 _ (List.mem_of_getElem? (i := 13) (by decide +kernel))
theorem kw_278 : Cond.selects RX6 yX6_promised yX6_promised ∈ wsL_law := kr_12 _ (List.mem_of_getElem? (i := 14) (by decide +kernel))
theorem kw_279 : Cond.code yX6_promised cX6_promised 2 (some .int) ∈ wsL_law := kr_12 _ (List.mem_of_getElem? (i := 15) (by decide +kernel))
theorem kw_280 : Cond.methodLink RL 137 yL_promisedByScans ∈ wsL_law := kr_12 _ (List.mem_of_getElem? (i := 16) (by decide +kernel))
theorem kw_281 : Cond.static yL_promisedByScans ∈ wsL_law := kr_12 _ (List.mem_of_getElem? (i := 17) (by decide +kernel))
theorem kw_282 : Cond.codeWith yL_promisedByScans cL_promisedByScans 4 (some .int) [(0, 9, 12, 21)] ∈ wsL_law := kr_12 _ (List.mem_of_getElem? (i := 18) (by decide +kernel))
theorem kw_283 : Cond.methodLink RL 32 yX5_promisedByScans ∈ wsL_law := kr_12 _ (List.mem_of_getElem? (i := 19) (by decide +kernel))
theorem kw_284 : Cond.instanceMethod yX5_promisedByScans ∈ wsL_law := kr_12 _ (List.mem_of_getElem? (i := 20) (by decide +kernel))
theorem kw_285 : Cond.selects RX5 yX5_promisedByScans yX5_promisedByScans ∈ wsL_law := kr_12 _ (List.mem_of_getElem? (i := 21) (by decide +kernel))
theorem kw_286 : Cond.code yX5_promisedByScans cX5_promisedByScans 6 (some .int) ∈ wsL_law := kr_12 _ (List.mem_of_getElem? (i := 22) (by decide +kernel))
theorem kw_287 : Cond.classLink RX5 104 "Pickwave$Line" ∈ wsL_law := kr_12 _ (List.mem_of_getElem? (i := 23) (by decide +kernel))
theorem kw_288 : Cond.fieldLink RX5 106 "Pickwave$Line" "article" "LPickwave$Article;" ∈ wsL_law := kr_13 _ (List.mem_of_getElem? (i := 0) (by decide +kernel))
theorem kw_289 : Cond.fieldLink RX5 114 "Pickwave$Line" "amount" "I" ∈ wsL_law := kr_13 _ (List.mem_of_getElem? (i := 1) (by decide +kernel))
theorem kw_290 : Cond.methodLink RX5 110 yX5_lastScannedState ∈ wsL_law := kr_13 _ (List.mem_of_getElem? (i := 2) (by decide +kernel))
theorem kw_291 : Cond.instanceMethod yX5_lastScannedState ∈ wsL_law := kr_13 _ (List.mem_of_getElem? (i := 3) (by decide +kernel))
theorem kw_292 : Cond.selects RX5 yX5_lastScannedState yX5_lastScannedState ∈ wsL_law := kr_13 _ (List.mem_of_getElem? (i := 4) (by decide +kernel))
theorem kw_293 : Cond.code yX5_lastScannedState cX5_lastScannedState 2 (some .char) ∈ wsL_law := kr_13 _ (List.mem_of_getElem? (i := 5) (by decide +kernel))
theorem kw_294 : Cond.fieldLink RX5 298 "Pickwave$Line" "number" "I" ∈ wsL_law := kr_13 _ (List.mem_of_getElem? (i := 6) (by decide +kernel))
theorem kw_295 : Cond.methodLink RX5 307 yX4_lastSignOf ∈ wsL_law := kr_13 _ (List.mem_of_getElem? (i := 7) (by decide +kernel))
theorem kw_296 : Cond.instanceMethod yX4_lastSignOf ∈ wsL_law := kr_13 _ (List.mem_of_getElem? (i := 8) (by decide +kernel))
theorem kw_297 : Cond.selects RX4 yX4_lastSignOf yX4_lastSignOf ∈ wsL_law := kr_13 _ (List.mem_of_getElem? (i := 9) (by decide +kernel))
theorem kw_298 : Cond.code yX4_lastSignOf cX4_lastSignOf 5 (some .char) ∈ wsL_law := kr_13 _ (List.mem_of_getElem? (i := 10) (by decide +kernel))
theorem kw_299 : Cond.fieldLink RX4 19 "Pickwave$ScanLog" "count" "I" ∈ wsL_law := kr_13 _ (List.mem_of_getElem? (i := 11) (by decide +kernel))
theorem kw_300 : Cond.methodLink RX4 23 Lib.Math.min.name ∈ wsL_law := kr_13 _ (List.mem_of_getElem? (i := 12) (by decide +kernel))
theorem kw_301 : Cond.methodLink RX5 299 yX5_stateAfter ∈ wsL_law := kr_13 _ (List.mem_of_getElem? (i := 13) (by decide +kernel))
theorem kw_302 : Cond.static yX5_stateAfter ∈ wsL_law := kr_13 _ (List.mem_of_getElem? (i := 14) (by decide +kernel))
theorem kw_303 : Cond.code yX5_stateAfter cX5_stateAfter 1 (some .char) ∈ wsL_law := kr_13 _ (List.mem_of_getElem? (i := 15) (by decide +kernel))
theorem kw_304 : Cond.methodLink RL 139 yX6_promisedByScans ∈ wsL_law := kr_13 _ (List.mem_of_getElem? (i := 16) (by decide +kernel))
theorem kw_305 : Cond.instanceMethod yX6_promisedByScans ∈ wsL_law := kr_13 _ (List.mem_of_getElem? (i := 17) (by decide +kernel))
theorem kw_306 : Cond.selects RX6 yX6_promisedByScans yX6_promisedByScans ∈ wsL_law := kr_13 _ (List.mem_of_getElem? (i := 18) (by decide +kernel))
theorem kw_307 : Cond.code yX6_promisedByScans cX6_promisedByScans 2 (some .int) ∈ wsL_law := kr_13 _ (List.mem_of_getElem? (i := 19) (by decide +kernel))
theorem kw_308 : Cond.methodLink RX6 97 yX6_promised ∈ wsL_law := kr_13 _ (List.mem_of_getElem? (i := 20) (by decide +kernel))
theorem kw_309 : Cond.methodLink RL 140 yL_setBlocked ∈ wsL_law := kr_13 _ (List.mem_of_getElem? (i := 21) (by decide +kernel))
theorem kw_310 : Cond.static yL_setBlocked ∈ wsL_law := kr_13 _ (List.mem_of_getElem? (i := 22) (by decide +kernel))
theorem kw_311 : Cond.codeWith yL_setBlocked cL_setBlocked 5 (some .int) [(0, 17, 20, 21)] ∈ wsL_law := kr_13 _ (List.mem_of_getElem? (i := 23) (by decide +kernel))
theorem kw_312 : Cond.methodLink RL 35 yX5_setBlocked ∈ wsL_law := kr_14 _ (List.mem_of_getElem? (i := 0) (by decide +kernel))
theorem kw_313 : Cond.instanceMethod yX5_setBlocked ∈ wsL_law := kr_14 _ (List.mem_of_getElem? (i := 1) (by decide +kernel))
theorem kw_314 : Cond.selects RX5 yX5_setBlocked yX5_setBlocked ∈ wsL_law := kr_14 _ (List.mem_of_getElem? (i := 2) (by decide +kernel))
theorem kw_315 : Cond.code yX5_setBlocked cX5_setBlocked 5 (some .boolean) ∈ wsL_law := kr_14 _ (List.mem_of_getElem? (i := 3) (by decide +kernel))
theorem kw_316 : Cond.fieldLink RX5 121 "Pickwave$Aisle" "blocked" "Z" ∈ wsL_law := kr_14 _ (List.mem_of_getElem? (i := 4) (by decide +kernel))
theorem kw_317 : Cond.methodLink RX5 117 yX5_findAisle ∈ wsL_law := kr_14 _ (List.mem_of_getElem? (i := 5) (by decide +kernel))
theorem kw_318 : Cond.instanceMethod yX5_findAisle ∈ wsL_law := kr_14 _ (List.mem_of_getElem? (i := 6) (by decide +kernel))
theorem kw_319 : Cond.selects RX5 yX5_findAisle yX5_findAisle ∈ wsL_law := kr_14 _ (List.mem_of_getElem? (i := 7) (by decide +kernel))
theorem kw_320 : Cond.code yX5_findAisle cX5_findAisle 2 (some (.object "Pickwave$Aisle")) ∈ wsL_law := kr_14 _ (List.mem_of_getElem? (i := 8) (by decide +kernel))
theorem kw_321 : Cond.methodLink RX5 125 yX5_reopenInAisle ∈ wsL_law := kr_14 _ (List.mem_of_getElem? (i := 9) (by decide +kernel))
theorem kw_322 : Cond.instanceMethod yX5_reopenInAisle ∈ wsL_law := kr_14 _ (List.mem_of_getElem? (i := 10) (by decide +kernel))
theorem kw_323 : Cond.selects RX5 yX5_reopenInAisle yX5_reopenInAisle ∈ wsL_law := kr_14 _ (List.mem_of_getElem? (i := 11) (by decide +kernel))
theorem kw_324 : Cond.code yX5_reopenInAisle cX5_reopenInAisle 4 none ∈ wsL_law := kr_14 _ (List.mem_of_getElem? (i := 12) (by decide +kernel))
theorem kw_325 : Cond.fieldLink RX5 185 "Pickwave$Article" "aisle" "LPickwave$Aisle;" ∈ wsL_law := kr_14 _ (List.mem_of_getElem? (i := 13) (by decide +kernel))
theorem kw_326 : Cond.fieldLink RX5 173 "Pickwave$Line" "state" "C" ∈ wsL_law := kr_14 _ (List.mem_of_getElem? (i := 14) (by decide +kernel))
theorem kw_327 : Cond.methodLink RX5 179 yX5_scan ∈ wsL_law := kr_14 _ (List.mem_of_getElem? (i := 15) (by decide +kernel))
theorem kw_328 : Cond.instanceMethod yX5_scan ∈ wsL_law := kr_14 _ (List.mem_of_getElem? (i := 16) (by decide +kernel))
theorem kw_329 : Cond.selects RX5 yX5_scan yX5_scan ∈ wsL_law := kr_14 _ (List.mem_of_getElem? (i := 17) (by decide +kernel))
theorem kw_330 : Cond.code yX5_scan cX5_scan 4 none ∈ wsL_law := kr_14 _ (List.mem_of_getElem? (i := 18) (by decide +kernel))
theorem kw_331 : Cond.methodLink RX5 303 yX4_write ∈ wsL_law := kr_14 _ (List.mem_of_getElem? (i := 19) (by decide +kernel))
theorem kw_332 : Cond.instanceMethod yX4_write ∈ wsL_law := kr_14 _ (List.mem_of_getElem? (i := 20) (by decide +kernel))
theorem kw_333 : Cond.selects RX4 yX4_write yX4_write ∈ wsL_law := kr_14 _ (List.mem_of_getElem? (i := 21) (by decide +kernel))
theorem kw_334 : Cond.code yX4_write cX4_write 3 none ∈ wsL_law := kr_14 _ (List.mem_of_getElem? (i := 22) (by decide +kernel))
theorem kw_335 : Cond.methodLink RL 143 yX6_setBlocked ∈ wsL_law := kr_14 _ (List.mem_of_getElem? (i := 23) (by decide +kernel))
theorem kw_336 : Cond.instanceMethod yX6_setBlocked ∈ wsL_law := kr_15 _ (List.mem_of_getElem? (i := 0) (by decide +kernel))
theorem kw_337 : Cond.selects RX6 yX6_setBlocked yX6_setBlocked ∈ wsL_law := kr_15 _ (List.mem_of_getElem? (i := 1) (by decide +kernel))
theorem kw_338 : Cond.code yX6_setBlocked cX6_setBlocked 5 (some .boolean) ∈ wsL_law := kr_15 _ (List.mem_of_getElem? (i := 2) (by decide +kernel))
theorem kw_339 : Cond.methodLink RX6 100 yX6_isAisle ∈ wsL_law := kr_15 _ (List.mem_of_getElem? (i := 3) (by decide +kernel))
theorem kw_340 : Cond.instanceMethod yX6_isAisle ∈ wsL_law := kr_15 _ (List.mem_of_getElem? (i := 4) (by decide +kernel))
theorem kw_341 : Cond.selects RX6 yX6_isAisle yX6_isAisle ∈ wsL_law := kr_15 _ (List.mem_of_getElem? (i := 5) (by decide +kernel))
theorem kw_342 : Cond.code yX6_isAisle cX6_isAisle 2 (some .boolean) ∈ wsL_law := kr_15 _ (List.mem_of_getElem? (i := 6) (by decide +kernel))
theorem kw_343 : Cond.methodLink RX6 103 yX6_opens ∈ wsL_law := kr_15 _ (List.mem_of_getElem? (i := 7) (by decide +kernel))
theorem kw_344 : Cond.instanceMethod yX6_opens ∈ wsL_law := kr_15 _ (List.mem_of_getElem? (i := 8) (by decide +kernel))
theorem kw_345 : Cond.selects RX6 yX6_opens yX6_opens ∈ wsL_law := kr_15 _ (List.mem_of_getElem? (i := 9) (by decide +kernel))
theorem kw_346 : Cond.code yX6_opens cX6_opens 2 none ∈ wsL_law := kr_15 _ (List.mem_of_getElem? (i := 10) (by decide +kernel))
theorem kw_347 : Cond.methodLink RX6 83 yX6_notes ∈ wsL_law := kr_15 _ (List.mem_of_getElem? (i := 11) (by decide +kernel))
theorem kw_348 : Cond.instanceMethod yX6_notes ∈ wsL_law := kr_15 _ (List.mem_of_getElem? (i := 12) (by decide +kernel))
theorem kw_349 : Cond.selects RX6 yX6_notes yX6_notes ∈ wsL_law := kr_15 _ (List.mem_of_getElem? (i := 13) (by decide +kernel))
theorem kw_350 : Cond.code yX6_notes cX6_notes 3 none ∈ wsL_law := kr_15 _ (List.mem_of_getElem? (i := 14) (by decide +kernel))
theorem kw_351 : Cond.fieldLink RX6 76 "PickwaveModel" "scans" "I" ∈ wsL_law := kr_15 _ (List.mem_of_getElem? (i := 15) (by decide +kernel))
theorem kw_352 : Cond.methodLink RL 144 yL_setPickers ∈ wsL_law := kr_15 _ (List.mem_of_getElem? (i := 16) (by decide +kernel))
theorem kw_353 : Cond.static yL_setPickers ∈ wsL_law := kr_15 _ (List.mem_of_getElem? (i := 17) (by decide +kernel))
theorem kw_354 : Cond.codeWith yL_setPickers cL_setPickers 5 (some .int) [(0, 10, 13, 21), (0, 10, 17, 13)] ∈ wsL_law := kr_15 _ (List.mem_of_getElem? (i := 18) (by decide +kernel))
theorem kw_355 : Cond.methodLink RL 39 yX5_setPickers ∈ wsL_law := kr_15 _ (List.mem_of_getElem? (i := 19) (by decide +kernel))
theorem kw_356 : Cond.instanceMethod yX5_setPickers ∈ wsL_law := kr_15 _ (List.mem_of_getElem? (i := 20) (by decide +kernel))
theorem kw_357 : Cond.selects RX5 yX5_setPickers yX5_setPickers ∈ wsL_law := kr_15 _ (List.mem_of_getElem? (i := 21) (by decide +kernel))
theorem kw_358 : Cond.code yX5_setPickers cX5_setPickers 5 (some .int) ∈ wsL_law := kr_15 _ (List.mem_of_getElem? (i := 22) (by decide +kernel))
theorem kw_359 : Cond.fieldLink RX5 131 "Pickwave$Aisle" "pickers" "I" ∈ wsL_law := kr_15 _ (List.mem_of_getElem? (i := 23) (by decide +kernel))
theorem kw_360 : Cond.methodLink RL 147 yX6_setPickers ∈ wsL_law := kr_16 _ (List.mem_of_getElem? (i := 0) (by decide +kernel))
theorem kw_361 : Cond.instanceMethod yX6_setPickers ∈ wsL_law := kr_16 _ (List.mem_of_getElem? (i := 1) (by decide +kernel))
theorem kw_362 : Cond.selects RX6 yX6_setPickers yX6_setPickers ∈ wsL_law := kr_16 _ (List.mem_of_getElem? (i := 2) (by decide +kernel))
theorem kw_363 : Cond.code yX6_setPickers cX6_setPickers 4 (some .int) ∈ wsL_law := kr_16 _ (List.mem_of_getElem? (i := 3) (by decide +kernel))
theorem kw_364 : Cond.methodLink RL 148 yL_giveBack ∈ wsL_law := kr_16 _ (List.mem_of_getElem? (i := 4) (by decide +kernel))
theorem kw_365 : Cond.static yL_giveBack ∈ wsL_law := kr_16 _ (List.mem_of_getElem? (i := 5) (by decide +kernel))
theorem kw_366 : Cond.codeWith yL_giveBack cL_giveBack 6 (some .int) [(0, 12, 15, 21), (0, 12, 19, 13), (0, 12, 23, 15)] ∈ wsL_law := kr_16 _ (List.mem_of_getElem? (i := 6) (by decide +kernel))
theorem kw_367 : Cond.methodLink RL 43 yX5_giveBack ∈ wsL_law := kr_16 _ (List.mem_of_getElem? (i := 7) (by decide +kernel))
theorem kw_368 : Cond.instanceMethod yX5_giveBack ∈ wsL_law := kr_16 _ (List.mem_of_getElem? (i := 8) (by decide +kernel))
theorem kw_369 : Cond.selects RX5 yX5_giveBack yX5_giveBack ∈ wsL_law := kr_16 _ (List.mem_of_getElem? (i := 9) (by decide +kernel))
theorem kw_370 : Cond.code yX5_giveBack cX5_giveBack 6 (some .int) ∈ wsL_law := kr_16 _ (List.mem_of_getElem? (i := 10) (by decide +kernel))
theorem kw_371 : Cond.methodLink RX5 141 Lib.Math.max.name ∈ wsL_law := kr_16 _ (List.mem_of_getElem? (i := 11) (by decide +kernel))
theorem kw_372 : Cond.fieldLink RX5 149 "Pickwave" "badUnits" "I" ∈ wsL_law := kr_16 _ (List.mem_of_getElem? (i := 12) (by decide +kernel))
theorem kw_373 : Cond.methodLink RX5 138 yX1_roomLeft ∈ wsL_law := kr_16 _ (List.mem_of_getElem? (i := 13) (by decide +kernel))
theorem kw_374 : Cond.instanceMethod yX1_roomLeft ∈ wsL_law := kr_16 _ (List.mem_of_getElem? (i := 14) (by decide +kernel))
theorem kw_375 : Cond.selects RX1 yX1_roomLeft yX1_roomLeft ∈ wsL_law := kr_16 _ (List.mem_of_getElem? (i := 15) (by decide +kernel))
theorem kw_376 : Cond.code yX1_roomLeft cX1_roomLeft 1 (some .int) ∈ wsL_law := kr_16 _ (List.mem_of_getElem? (i := 16) (by decide +kernel))
theorem kw_377 : Cond.methodLink RX5 152 yX1_putAway ∈ wsL_law := kr_16 _ (List.mem_of_getElem? (i := 17) (by decide +kernel))
theorem kw_378 : Cond.instanceMethod yX1_putAway ∈ wsL_law := kr_16 _ (List.mem_of_getElem? (i := 18) (by decide +kernel))
theorem kw_379 : Cond.selects RX1 yX1_putAway yX1_putAway ∈ wsL_law := kr_16 _ (List.mem_of_getElem? (i := 19) (by decide +kernel))
theorem kw_380 : Cond.code yX1_putAway cX1_putAway 3 (some .int) ∈ wsL_law := kr_16 _ (List.mem_of_getElem? (i := 20) (by decide +kernel))
theorem kw_381 : Cond.methodLink RX1 30 Lib.Math.min.name ∈ wsL_law := kr_16 _ (List.mem_of_getElem? (i := 21) (by decide +kernel))
theorem kw_382 : Cond.methodLink RX1 26 yX1_roomLeft ∈ wsL_law := kr_16 _ (List.mem_of_getElem? (i := 22) (by decide +kernel))
theorem kw_383 : Cond.methodLink RL 151 yX6_giveBack ∈ wsL_law := kr_16 _ (List.mem_of_getElem? (i := 23) (by decide +kernel))
theorem kw_384 : Cond.instanceMethod yX6_giveBack ∈ wsL_law := kr_17 _ (List.mem_of_getElem? (i := 0) (by decide +kernel))
theorem kw_385 : Cond.selects RX6 yX6_giveBack yX6_giveBack ∈ wsL_law := kr_17 _ (List.mem_of_getElem? (i := 1) (by decide +kernel))
theorem kw_386 : Cond.code yX6_giveBack cX6_giveBack 5 (some .int) ∈ wsL_law := kr_17 _ (List.mem_of_getElem? (i := 2) (by decide +kernel))
theorem kw_387 : Cond.fieldLink RX6 107 "PickwaveModel" "bad" "I" ∈ wsL_law := kr_17 _ (List.mem_of_getElem? (i := 3) (by decide +kernel))
theorem kw_388 : Cond.methodLink RX6 110 yX6_shelves ∈ wsL_law := kr_17 _ (List.mem_of_getElem? (i := 4) (by decide +kernel))
theorem kw_389 : Cond.instanceMethod yX6_shelves ∈ wsL_law := kr_17 _ (List.mem_of_getElem? (i := 5) (by decide +kernel))
theorem kw_390 : Cond.selects RX6 yX6_shelves yX6_shelves ∈ wsL_law := kr_17 _ (List.mem_of_getElem? (i := 6) (by decide +kernel))
theorem kw_391 : Cond.code yX6_shelves cX6_shelves 5 (some .int) ∈ wsL_law := kr_17 _ (List.mem_of_getElem? (i := 7) (by decide +kernel))
theorem kw_392 : Cond.methodLink RL 152 yX5_writtenOff ∈ wsL_law := kr_17 _ (List.mem_of_getElem? (i := 8) (by decide +kernel))
theorem kw_393 : Cond.instanceMethod yX5_writtenOff ∈ wsL_law := kr_17 _ (List.mem_of_getElem? (i := 9) (by decide +kernel))
theorem kw_394 : Cond.selects RX5 yX5_writtenOff yX5_writtenOff ∈ wsL_law := kr_17 _ (List.mem_of_getElem? (i := 10) (by decide +kernel))
theorem kw_395 : Cond.code yX5_writtenOff cX5_writtenOff 1 (some .int) ∈ wsL_law := kr_17 _ (List.mem_of_getElem? (i := 11) (by decide +kernel))
theorem kw_396 : Cond.methodLink RL 155 yX6_writtenOff ∈ wsL_law := kr_17 _ (List.mem_of_getElem? (i := 12) (by decide +kernel))
theorem kw_397 : Cond.instanceMethod yX6_writtenOff ∈ wsL_law := kr_17 _ (List.mem_of_getElem? (i := 13) (by decide +kernel))
theorem kw_398 : Cond.selects RX6 yX6_writtenOff yX6_writtenOff ∈ wsL_law := kr_17 _ (List.mem_of_getElem? (i := 14) (by decide +kernel))
theorem kw_399 : Cond.code yX6_writtenOff cX6_writtenOff 1 (some .int) ∈ wsL_law := kr_17 _ (List.mem_of_getElem? (i := 15) (by decide +kernel))
theorem kw_400 : Cond.methodLink RL 156 yL_order ∈ wsL_law := kr_17 _ (List.mem_of_getElem? (i := 16) (by decide +kernel))
theorem kw_401 : Cond.static yL_order ∈ wsL_law := kr_17 _ (List.mem_of_getElem? (i := 17) (by decide +kernel))
theorem kw_402 : Cond.codeWith yL_order cL_order 6 (some .int) [(0, 12, 15, 21), (0, 12, 19, 13), (0, 12, 23, 15)] ∈ wsL_law := kr_17 _ (List.mem_of_getElem? (i := 18) (by decide +kernel))
theorem kw_403 : Cond.methodLink RL 47 yX5_order ∈ wsL_law := kr_17 _ (List.mem_of_getElem? (i := 19) (by decide +kernel))
theorem kw_404 : Cond.instanceMethod yX5_order ∈ wsL_law := kr_17 _ (List.mem_of_getElem? (i := 20) (by decide +kernel))
theorem kw_405 : Cond.selects RX5 yX5_order yX5_order ∈ wsL_law := kr_17 _ (List.mem_of_getElem? (i := 21) (by decide +kernel))
theorem kw_406 : Cond.code yX5_order cX5_order 5 (some .int) ∈ wsL_law := kr_17 _ (List.mem_of_getElem? (i := 22) (by decide +kernel))
theorem kw_407 : Cond.methodLink RX5 158 yX5_isCarrier ∈ wsL_law := kr_17 _ (List.mem_of_getElem? (i := 23) (by decide +kernel))
theorem kw_408 : Cond.instanceMethod yX5_isCarrier ∈ wsL_law := kr_18 _ (List.mem_of_getElem? (i := 0) (by decide +kernel))
theorem kw_409 : Cond.selects RX5 yX5_isCarrier yX5_isCarrier ∈ wsL_law := kr_18 _ (List.mem_of_getElem? (i := 1) (by decide +kernel))
theorem kw_410 : Cond.code yX5_isCarrier cX5_isCarrier 2 (some .boolean) ∈ wsL_law := kr_18 _ (List.mem_of_getElem? (i := 2) (by decide +kernel))
theorem kw_411 : Cond.methodLink RX5 165 yX5_letCome ∈ wsL_law := kr_18 _ (List.mem_of_getElem? (i := 3) (by decide +kernel))
theorem kw_412 : Cond.instanceMethod yX5_letCome ∈ wsL_law := kr_18 _ (List.mem_of_getElem? (i := 4) (by decide +kernel))
theorem kw_413 : Cond.selects RX5 yX5_letCome yX5_letCome ∈ wsL_law := kr_18 _ (List.mem_of_getElem? (i := 5) (by decide +kernel))
theorem kw_414 : Cond.code yX5_letCome cX5_letCome 5 (some .int) ∈ wsL_law := kr_18 _ (List.mem_of_getElem? (i := 6) (by decide +kernel))
theorem kw_415 : Cond.classLink RX5 104 RX2 ∈ wsL_law := kr_18 _ (List.mem_of_getElem? (i := 7) (by decide +kernel))
theorem kw_416 : Cond.instantiable RX2 6 ∈ wsL_law := kr_18 _ (List.mem_of_getElem? (i := 8) (by decide +kernel))
theorem kw_417 : Cond.initialized RX2 ∈ wsL_law := kr_18 _ (List.mem_of_getElem? (i := 9) (by decide +kernel))
theorem kw_418 : Cond.methodLink RX5 295 yX2_init ∈ wsL_law := kr_18 _ (List.mem_of_getElem? (i := 10) (by decide +kernel))
theorem kw_419 : Cond.instanceMethod yX2_init ∈ wsL_law := kr_18 _ (List.mem_of_getElem? (i := 11) (by decide +kernel))
theorem kw_420 : Cond.code yX2_init cX2_init 5 none ∈ wsL_law := kr_18 _ (List.mem_of_getElem? (i := 12) (by decide +kernel))
theorem kw_421 : Cond.methodLink RX2 3 objectInit ∈ wsL_law := kr_18 _ (List.mem_of_getElem? (i := 13) (by decide +kernel))
theorem kw_422 : Cond.fieldLink RX2 9 "Pickwave$Line" "number" "I" ∈ wsL_law := kr_18 _ (List.mem_of_getElem? (i := 14) (by decide +kernel))
theorem kw_423 : Cond.fieldLink RX2 15 "Pickwave$Line" "article" "LPickwave$Article;" ∈ wsL_law := kr_18 _ (List.mem_of_getElem? (i := 15) (by decide +kernel))
theorem kw_424 : Cond.fieldLink RX2 19 "Pickwave$Line" "amount" "I" ∈ wsL_law := kr_18 _ (List.mem_of_getElem? (i := 16) (by decide +kernel))
theorem kw_425 : Cond.fieldLink RX2 22 "Pickwave$Line" "carrier" "I" ∈ wsL_law := kr_18 _ (List.mem_of_getElem? (i := 17) (by decide +kernel))
theorem kw_426 : Cond.fieldLink RX2 25 "Pickwave$Line" "state" "C" ∈ wsL_law := kr_18 _ (List.mem_of_getElem? (i := 18) (by decide +kernel))
theorem kw_427 : Cond.fieldLink RX2 29 "Pickwave$Line" "lastWave" "I" ∈ wsL_law := kr_18 _ (List.mem_of_getElem? (i := 19) (by decide +kernel))
theorem kw_428 : Cond.methodLink RL 158 yX6_order ∈ wsL_law := kr_18 _ (List.mem_of_getElem? (i := 20) (by decide +kernel))
theorem kw_429 : Cond.instanceMethod yX6_order ∈ wsL_law := kr_18 _ (List.mem_of_getElem? (i := 21) (by decide +kernel))
theorem kw_430 : Cond.selects RX6 yX6_order yX6_order ∈ wsL_law := kr_18 _ (List.mem_of_getElem? (i := 22) (by decide +kernel))
theorem kw_431 : Cond.code yX6_order cX6_order 4 (some .int) ∈ wsL_law := kr_18 _ (List.mem_of_getElem? (i := 23) (by decide +kernel))
theorem kw_432 : Cond.methodLink RX6 114 yX6_adds ∈ wsL_law := kr_19 _ (List.mem_of_getElem? (i := 0) (by decide +kernel))
theorem kw_433 : Cond.instanceMethod yX6_adds ∈ wsL_law := kr_19 _ (List.mem_of_getElem? (i := 1) (by decide +kernel))
theorem kw_434 : Cond.selects RX6 yX6_adds yX6_adds ∈ wsL_law := kr_19 _ (List.mem_of_getElem? (i := 2) (by decide +kernel))
theorem kw_435 : Cond.code yX6_adds cX6_adds 4 (some .int) ∈ wsL_law := kr_19 _ (List.mem_of_getElem? (i := 3) (by decide +kernel))
theorem kw_436 : Cond.methodLink RL 159 yL_drop ∈ wsL_law := kr_19 _ (List.mem_of_getElem? (i := 4) (by decide +kernel))
theorem kw_437 : Cond.static yL_drop ∈ wsL_law := kr_19 _ (List.mem_of_getElem? (i := 5) (by decide +kernel))
theorem kw_438 : Cond.codeWith yL_drop cL_drop 4 (some .int) [(0, 9, 12, 21), (0, 9, 15, 15)] ∈ wsL_law := kr_19 _ (List.mem_of_getElem? (i := 6) (by decide +kernel))
theorem kw_439 : Cond.methodLink RL 50 yX5_drop ∈ wsL_law := kr_19 _ (List.mem_of_getElem? (i := 7) (by decide +kernel))
theorem kw_440 : Cond.instanceMethod yX5_drop ∈ wsL_law := kr_19 _ (List.mem_of_getElem? (i := 8) (by decide +kernel))
theorem kw_441 : Cond.selects RX5 yX5_drop yX5_drop ∈ wsL_law := kr_19 _ (List.mem_of_getElem? (i := 9) (by decide +kernel))
theorem kw_442 : Cond.code yX5_drop cX5_drop 3 (some .int) ∈ wsL_law := kr_19 _ (List.mem_of_getElem? (i := 10) (by decide +kernel))
theorem kw_443 : Cond.methodLink RX5 169 yX5_findLine ∈ wsL_law := kr_19 _ (List.mem_of_getElem? (i := 11) (by decide +kernel))
theorem kw_444 : Cond.instanceMethod yX5_findLine ∈ wsL_law := kr_19 _ (List.mem_of_getElem? (i := 12) (by decide +kernel))
theorem kw_445 : Cond.selects RX5 yX5_findLine yX5_findLine ∈ wsL_law := kr_19 _ (List.mem_of_getElem? (i := 13) (by decide +kernel))
theorem kw_446 : Cond.code yX5_findLine cX5_findLine 2 (some (.object "Pickwave$Line")) ∈ wsL_law := kr_19 _ (List.mem_of_getElem? (i := 14) (by decide +kernel))
theorem kw_447 : Cond.methodLink RL 161 yX6_drop ∈ wsL_law := kr_19 _ (List.mem_of_getElem? (i := 15) (by decide +kernel))
theorem kw_448 : Cond.instanceMethod yX6_drop ∈ wsL_law := kr_19 _ (List.mem_of_getElem? (i := 16) (by decide +kernel))
theorem kw_449 : Cond.selects RX6 yX6_drop yX6_drop ∈ wsL_law := kr_19 _ (List.mem_of_getElem? (i := 17) (by decide +kernel))
theorem kw_450 : Cond.code yX6_drop cX6_drop 2 (some .int) ∈ wsL_law := kr_19 _ (List.mem_of_getElem? (i := 18) (by decide +kernel))
theorem kw_451 : Cond.methodLink RX6 118 yX6_isOrder ∈ wsL_law := kr_19 _ (List.mem_of_getElem? (i := 19) (by decide +kernel))
theorem kw_452 : Cond.instanceMethod yX6_isOrder ∈ wsL_law := kr_19 _ (List.mem_of_getElem? (i := 20) (by decide +kernel))
theorem kw_453 : Cond.selects RX6 yX6_isOrder yX6_isOrder ∈ wsL_law := kr_19 _ (List.mem_of_getElem? (i := 21) (by decide +kernel))
theorem kw_454 : Cond.code yX6_isOrder cX6_isOrder 2 (some .boolean) ∈ wsL_law := kr_19 _ (List.mem_of_getElem? (i := 22) (by decide +kernel))
theorem kw_455 : Cond.methodLink RL 162 yL_state ∈ wsL_law := kr_19 _ (List.mem_of_getElem? (i := 23) (by decide +kernel))
theorem kw_456 : Cond.static yL_state ∈ wsL_law := kr_20 _ (List.mem_of_getElem? (i := 0) (by decide +kernel))
theorem kw_457 : Cond.codeWith yL_state cL_state 4 (some .int) [(0, 9, 12, 21)] ∈ wsL_law := kr_20 _ (List.mem_of_getElem? (i := 1) (by decide +kernel))
theorem kw_458 : Cond.methodLink RL 53 yX5_state ∈ wsL_law := kr_20 _ (List.mem_of_getElem? (i := 2) (by decide +kernel))
theorem kw_459 : Cond.instanceMethod yX5_state ∈ wsL_law := kr_20 _ (List.mem_of_getElem? (i := 3) (by decide +kernel))
theorem kw_460 : Cond.selects RX5 yX5_state yX5_state ∈ wsL_law := kr_20 _ (List.mem_of_getElem? (i := 4) (by decide +kernel))
theorem kw_461 : Cond.code yX5_state cX5_state 2 (some .char) ∈ wsL_law := kr_20 _ (List.mem_of_getElem? (i := 5) (by decide +kernel))
theorem kw_462 : Cond.methodLink RL 164 yX6_state ∈ wsL_law := kr_20 _ (List.mem_of_getElem? (i := 6) (by decide +kernel))
theorem kw_463 : Cond.instanceMethod yX6_state ∈ wsL_law := kr_20 _ (List.mem_of_getElem? (i := 7) (by decide +kernel))
theorem kw_464 : Cond.selects RX6 yX6_state yX6_state ∈ wsL_law := kr_20 _ (List.mem_of_getElem? (i := 8) (by decide +kernel))
theorem kw_465 : Cond.code yX6_state cX6_state 2 (some .char) ∈ wsL_law := kr_20 _ (List.mem_of_getElem? (i := 9) (by decide +kernel))
theorem kw_466 : Cond.methodLink RL 165 yL_stateByScans ∈ wsL_law := kr_20 _ (List.mem_of_getElem? (i := 10) (by decide +kernel))
theorem kw_467 : Cond.static yL_stateByScans ∈ wsL_law := kr_20 _ (List.mem_of_getElem? (i := 11) (by decide +kernel))
theorem kw_468 : Cond.codeWith yL_stateByScans cL_stateByScans 4 (some .int) [(0, 9, 12, 21)] ∈ wsL_law := kr_20 _ (List.mem_of_getElem? (i := 12) (by decide +kernel))
theorem kw_469 : Cond.methodLink RL 57 yX5_stateByScans ∈ wsL_law := kr_20 _ (List.mem_of_getElem? (i := 13) (by decide +kernel))
theorem kw_470 : Cond.instanceMethod yX5_stateByScans ∈ wsL_law := kr_20 _ (List.mem_of_getElem? (i := 14) (by decide +kernel))
theorem kw_471 : Cond.selects RX5 yX5_stateByScans yX5_stateByScans ∈ wsL_law := kr_20 _ (List.mem_of_getElem? (i := 15) (by decide +kernel))
theorem kw_472 : Cond.code yX5_stateByScans cX5_stateByScans 2 (some .char) ∈ wsL_law := kr_20 _ (List.mem_of_getElem? (i := 16) (by decide +kernel))
theorem kw_473 : Cond.methodLink RL 167 yX6_stateByScans ∈ wsL_law := kr_20 _ (List.mem_of_getElem? (i := 17) (by decide +kernel))
theorem kw_474 : Cond.instanceMethod yX6_stateByScans ∈ wsL_law := kr_20 _ (List.mem_of_getElem? (i := 18) (by decide +kernel))
theorem kw_475 : Cond.selects RX6 yX6_stateByScans yX6_stateByScans ∈ wsL_law := kr_20 _ (List.mem_of_getElem? (i := 19) (by decide +kernel))
theorem kw_476 : Cond.code yX6_stateByScans cX6_stateByScans 2 (some .char) ∈ wsL_law := kr_20 _ (List.mem_of_getElem? (i := 20) (by decide +kernel))
theorem kw_477 : Cond.methodLink RX6 121 yX6_state ∈ wsL_law := kr_20 _ (List.mem_of_getElem? (i := 21) (by decide +kernel))
theorem kw_478 : Cond.methodLink RL 168 yL_amount ∈ wsL_law := kr_20 _ (List.mem_of_getElem? (i := 22) (by decide +kernel))
theorem kw_479 : Cond.static yL_amount ∈ wsL_law := kr_20 _ (List.mem_of_getElem? (i := 23) (by decide +kernel))
theorem kw_480 : Cond.codeWith yL_amount cL_amount 4 (some .int) [(0, 9, 12, 21)] ∈ wsL_law := kr_21 _ (List.mem_of_getElem? (i := 0) (by decide +kernel))
theorem kw_481 : Cond.methodLink RL 60 yX5_amount ∈ wsL_law := kr_21 _ (List.mem_of_getElem? (i := 1) (by decide +kernel))
theorem kw_482 : Cond.instanceMethod yX5_amount ∈ wsL_law := kr_21 _ (List.mem_of_getElem? (i := 2) (by decide +kernel))
theorem kw_483 : Cond.selects RX5 yX5_amount yX5_amount ∈ wsL_law := kr_21 _ (List.mem_of_getElem? (i := 3) (by decide +kernel))
theorem kw_484 : Cond.code yX5_amount cX5_amount 2 (some .int) ∈ wsL_law := kr_21 _ (List.mem_of_getElem? (i := 4) (by decide +kernel))
theorem kw_485 : Cond.methodLink RL 170 yX6_amount ∈ wsL_law := kr_21 _ (List.mem_of_getElem? (i := 5) (by decide +kernel))
theorem kw_486 : Cond.instanceMethod yX6_amount ∈ wsL_law := kr_21 _ (List.mem_of_getElem? (i := 6) (by decide +kernel))
theorem kw_487 : Cond.selects RX6 yX6_amount yX6_amount ∈ wsL_law := kr_21 _ (List.mem_of_getElem? (i := 7) (by decide +kernel))
theorem kw_488 : Cond.code yX6_amount cX6_amount 2 (some .int) ∈ wsL_law := kr_21 _ (List.mem_of_getElem? (i := 8) (by decide +kernel))
theorem kw_489 : Cond.methodLink RL 171 yX5_orders ∈ wsL_law := kr_21 _ (List.mem_of_getElem? (i := 9) (by decide +kernel))
theorem kw_490 : Cond.instanceMethod yX5_orders ∈ wsL_law := kr_21 _ (List.mem_of_getElem? (i := 10) (by decide +kernel))
theorem kw_491 : Cond.selects RX5 yX5_orders yX5_orders ∈ wsL_law := kr_21 _ (List.mem_of_getElem? (i := 11) (by decide +kernel))
theorem kw_492 : Cond.code yX5_orders cX5_orders 1 (some .int) ∈ wsL_law := kr_21 _ (List.mem_of_getElem? (i := 12) (by decide +kernel))
theorem kw_493 : Cond.methodLink RL 174 yX6_orders ∈ wsL_law := kr_21 _ (List.mem_of_getElem? (i := 13) (by decide +kernel))
theorem kw_494 : Cond.instanceMethod yX6_orders ∈ wsL_law := kr_21 _ (List.mem_of_getElem? (i := 14) (by decide +kernel))
theorem kw_495 : Cond.selects RX6 yX6_orders yX6_orders ∈ wsL_law := kr_21 _ (List.mem_of_getElem? (i := 15) (by decide +kernel))
theorem kw_496 : Cond.code yX6_orders cX6_orders 1 (some .int) ∈ wsL_law := kr_21 _ (List.mem_of_getElem? (i := 16) (by decide +kernel))
theorem kw_497 : Cond.methodLink RL 175 yL_pick ∈ wsL_law := kr_21 _ (List.mem_of_getElem? (i := 17) (by decide +kernel))
theorem kw_498 : Cond.static yL_pick ∈ wsL_law := kr_21 _ (List.mem_of_getElem? (i := 18) (by decide +kernel))
theorem kw_499 : Cond.codeWith yL_pick cL_pick 5 (some .int) [(0, 10, 13, 21), (0, 10, 17, 13), (0, 10, 21, 66), (0, 10, 25, 15)] ∈ wsL_law := kr_21 _ (List.mem_of_getElem? (i := 19) (by decide +kernel))
theorem kw_500 : Cond.classLink RL 66 "java/lang/UnsupportedOperationException" ∈ wsL_law := kr_21 _ (List.mem_of_getElem? (i := 20) (by decide +kernel))
theorem kw_501 : Cond.methodLink RL 63 yX5_pick ∈ wsL_law := kr_21 _ (List.mem_of_getElem? (i := 21) (by decide +kernel))
theorem kw_502 : Cond.instanceMethod yX5_pick ∈ wsL_law := kr_21 _ (List.mem_of_getElem? (i := 22) (by decide +kernel))
theorem kw_503 : Cond.selects RX5 yX5_pick yX5_pick ∈ wsL_law := kr_21 _ (List.mem_of_getElem? (i := 23) (by decide +kernel))
theorem kw_504 : Cond.code yX5_pick cX5_pick 4 (some .int) ∈ wsL_law := kr_22 _ (List.mem_of_getElem? (i := 0) (by decide +kernel))
theorem kw_505 : Cond.classLink RX5 189 "java/lang/UnsupportedOperationException" ∈ wsL_law := kr_22 _ (List.mem_of_getElem? (i := 1) (by decide +kernel))
theorem kw_506 : Cond.initialized "java/lang/UnsupportedOperationException" ∈ wsL_law := kr_22 _ (List.mem_of_getElem? (i := 2) (by decide +kernel))
theorem kw_507 : Cond.methodLink RX5 196 yX5_split ∈ wsL_law := kr_22 _ (List.mem_of_getElem? (i := 3) (by decide +kernel))
theorem kw_508 : Cond.instanceMethod yX5_split ∈ wsL_law := kr_22 _ (List.mem_of_getElem? (i := 4) (by decide +kernel))
theorem kw_509 : Cond.selects RX5 yX5_split yX5_split ∈ wsL_law := kr_22 _ (List.mem_of_getElem? (i := 5) (by decide +kernel))
theorem kw_510 : Cond.code yX5_split cX5_split 5 (some .int) ∈ wsL_law := kr_22 _ (List.mem_of_getElem? (i := 6) (by decide +kernel))
theorem kw_511 : Cond.fieldLink RX5 203 "Pickwave$Line" "carrier" "I" ∈ wsL_law := kr_22 _ (List.mem_of_getElem? (i := 7) (by decide +kernel))
theorem kw_512 : Cond.methodLink RX5 311 yX5_reopenOfArticle ∈ wsL_law := kr_22 _ (List.mem_of_getElem? (i := 8) (by decide +kernel))
theorem kw_513 : Cond.instanceMethod yX5_reopenOfArticle ∈ wsL_law := kr_22 _ (List.mem_of_getElem? (i := 9) (by decide +kernel))
theorem kw_514 : Cond.selects RX5 yX5_reopenOfArticle yX5_reopenOfArticle ∈ wsL_law := kr_22 _ (List.mem_of_getElem? (i := 10) (by decide +kernel))
theorem kw_515 : Cond.code yX5_reopenOfArticle cX5_reopenOfArticle 4 none ∈ wsL_law := kr_22 _ (List.mem_of_getElem? (i := 11) (by decide +kernel))
theorem kw_516 : Cond.methodLink RL 177 yX6_pick ∈ wsL_law := kr_22 _ (List.mem_of_getElem? (i := 12) (by decide +kernel))
theorem kw_517 : Cond.instanceMethod yX6_pick ∈ wsL_law := kr_22 _ (List.mem_of_getElem? (i := 13) (by decide +kernel))
theorem kw_518 : Cond.selects RX6 yX6_pick yX6_pick ∈ wsL_law := kr_22 _ (List.mem_of_getElem? (i := 14) (by decide +kernel))
theorem kw_519 : Cond.code yX6_pick cX6_pick 7 (some .int) ∈ wsL_law := kr_22 _ (List.mem_of_getElem? (i := 15) (by decide +kernel))
theorem kw_520 : Cond.methodLink RL 178 yL_ship ∈ wsL_law := kr_22 _ (List.mem_of_getElem? (i := 16) (by decide +kernel))
theorem kw_521 : Cond.static yL_ship ∈ wsL_law := kr_22 _ (List.mem_of_getElem? (i := 17) (by decide +kernel))
theorem kw_522 : Cond.codeWith yL_ship cL_ship 4 (some .int) [(0, 9, 12, 21)] ∈ wsL_law := kr_22 _ (List.mem_of_getElem? (i := 18) (by decide +kernel))
theorem kw_523 : Cond.methodLink RL 68 yX5_ship ∈ wsL_law := kr_22 _ (List.mem_of_getElem? (i := 19) (by decide +kernel))
theorem kw_524 : Cond.instanceMethod yX5_ship ∈ wsL_law := kr_22 _ (List.mem_of_getElem? (i := 20) (by decide +kernel))
theorem kw_525 : Cond.selects RX5 yX5_ship yX5_ship ∈ wsL_law := kr_22 _ (List.mem_of_getElem? (i := 21) (by decide +kernel))
theorem kw_526 : Cond.code yX5_ship cX5_ship 5 (some .int) ∈ wsL_law := kr_22 _ (List.mem_of_getElem? (i := 22) (by decide +kernel))
theorem kw_527 : Cond.fieldLink RX5 206 "Pickwave" "shippedUnits" "J" ∈ wsL_law := kr_22 _ (List.mem_of_getElem? (i := 23) (by decide +kernel))
theorem kw_528 : Cond.methodLink RX5 200 yX5_checkCarrier ∈ wsL_law := kr_23 _ (List.mem_of_getElem? (i := 0) (by decide +kernel))
theorem kw_529 : Cond.instanceMethod yX5_checkCarrier ∈ wsL_law := kr_23 _ (List.mem_of_getElem? (i := 1) (by decide +kernel))
theorem kw_530 : Cond.selects RX5 yX5_checkCarrier yX5_checkCarrier ∈ wsL_law := kr_23 _ (List.mem_of_getElem? (i := 2) (by decide +kernel))
theorem kw_531 : Cond.code yX5_checkCarrier cX5_checkCarrier 2 none ∈ wsL_law := kr_23 _ (List.mem_of_getElem? (i := 3) (by decide +kernel))
theorem kw_532 : Cond.methodLink RL 180 yX6_ship ∈ wsL_law := kr_23 _ (List.mem_of_getElem? (i := 4) (by decide +kernel))
theorem kw_533 : Cond.instanceMethod yX6_ship ∈ wsL_law := kr_23 _ (List.mem_of_getElem? (i := 5) (by decide +kernel))
theorem kw_534 : Cond.selects RX6 yX6_ship yX6_ship ∈ wsL_law := kr_23 _ (List.mem_of_getElem? (i := 6) (by decide +kernel))
theorem kw_535 : Cond.code yX6_ship cX6_ship 4 (some .int) ∈ wsL_law := kr_23 _ (List.mem_of_getElem? (i := 7) (by decide +kernel))
theorem kw_536 : Cond.methodLink RX6 124 yX6_isCarrier ∈ wsL_law := kr_23 _ (List.mem_of_getElem? (i := 8) (by decide +kernel))
theorem kw_537 : Cond.instanceMethod yX6_isCarrier ∈ wsL_law := kr_23 _ (List.mem_of_getElem? (i := 9) (by decide +kernel))
theorem kw_538 : Cond.selects RX6 yX6_isCarrier yX6_isCarrier ∈ wsL_law := kr_23 _ (List.mem_of_getElem? (i := 10) (by decide +kernel))
theorem kw_539 : Cond.code yX6_isCarrier cX6_isCarrier 2 (some .boolean) ∈ wsL_law := kr_23 _ (List.mem_of_getElem? (i := 11) (by decide +kernel))
theorem kw_540 : Cond.methodLink RL 181 yL_setCutOff ∈ wsL_law := kr_23 _ (List.mem_of_getElem? (i := 12) (by decide +kernel))
theorem kw_541 : Cond.static yL_setCutOff ∈ wsL_law := kr_23 _ (List.mem_of_getElem? (i := 13) (by decide +kernel))
theorem kw_542 : Cond.codeWith yL_setCutOff cL_setCutOff 5 (some .int) [(0, 10, 13, 21), (0, 10, 17, 13)] ∈ wsL_law := kr_23 _ (List.mem_of_getElem? (i := 14) (by decide +kernel))
theorem kw_543 : Cond.methodLink RL 71 yX5_setCutOff ∈ wsL_law := kr_23 _ (List.mem_of_getElem? (i := 15) (by decide +kernel))
theorem kw_544 : Cond.instanceMethod yX5_setCutOff ∈ wsL_law := kr_23 _ (List.mem_of_getElem? (i := 16) (by decide +kernel))
theorem kw_545 : Cond.selects RX5 yX5_setCutOff yX5_setCutOff ∈ wsL_law := kr_23 _ (List.mem_of_getElem? (i := 17) (by decide +kernel))
theorem kw_546 : Cond.code yX5_setCutOff cX5_setCutOff 4 (some .int) ∈ wsL_law := kr_23 _ (List.mem_of_getElem? (i := 18) (by decide +kernel))
theorem kw_547 : Cond.methodLink RL 183 yX6_setCutOff ∈ wsL_law := kr_23 _ (List.mem_of_getElem? (i := 19) (by decide +kernel))
theorem kw_548 : Cond.instanceMethod yX6_setCutOff ∈ wsL_law := kr_23 _ (List.mem_of_getElem? (i := 20) (by decide +kernel))
theorem kw_549 : Cond.selects RX6 yX6_setCutOff yX6_setCutOff ∈ wsL_law := kr_23 _ (List.mem_of_getElem? (i := 21) (by decide +kernel))
theorem kw_550 : Cond.code yX6_setCutOff cX6_setCutOff 4 (some .int) ∈ wsL_law := kr_23 _ (List.mem_of_getElem? (i := 22) (by decide +kernel))
theorem kw_551 : Cond.methodLink RL 184 yL_wave ∈ wsL_law := kr_23 _ (List.mem_of_getElem? (i := 23) (by decide +kernel))
theorem kw_552 : Cond.static yL_wave ∈ wsL_law := kr_24 _ (List.mem_of_getElem? (i := 0) (by decide +kernel))
theorem kw_553 : Cond.codeWith yL_wave cL_wave 4 (some .int) [(0, 9, 12, 21), (0, 9, 15, 66), (0, 9, 18, 15)] ∈ wsL_law := kr_24 _ (List.mem_of_getElem? (i := 1) (by decide +kernel))
theorem kw_554 : Cond.methodLink RL 74 yX5_wave ∈ wsL_law := kr_24 _ (List.mem_of_getElem? (i := 2) (by decide +kernel))
theorem kw_555 : Cond.instanceMethod yX5_wave ∈ wsL_law := kr_24 _ (List.mem_of_getElem? (i := 3) (by decide +kernel))
theorem kw_556 : Cond.selects RX5 yX5_wave yX5_wave ∈ wsL_law := kr_24 _ (List.mem_of_getElem? (i := 4) (by decide +kernel))
theorem kw_557 : Cond.code yX5_wave cX5_wave 5 (some .int) ∈ wsL_law := kr_24 _ (List.mem_of_getElem? (i := 5) (by decide +kernel))
theorem kw_558 : Cond.fieldLink RX5 212 "Pickwave" "presentMinute" "I" ∈ wsL_law := kr_24 _ (List.mem_of_getElem? (i := 6) (by decide +kernel))
theorem kw_559 : Cond.fieldLink RX5 217 "Pickwave" "waveCount" "I" ∈ wsL_law := kr_24 _ (List.mem_of_getElem? (i := 7) (by decide +kernel))
theorem kw_560 : Cond.methodLink RX5 222 yX5_promiseAll ∈ wsL_law := kr_24 _ (List.mem_of_getElem? (i := 8) (by decide +kernel))
theorem kw_561 : Cond.instanceMethod yX5_promiseAll ∈ wsL_law := kr_24 _ (List.mem_of_getElem? (i := 9) (by decide +kernel))
theorem kw_562 : Cond.selects RX5 yX5_promiseAll yX5_promiseAll ∈ wsL_law := kr_24 _ (List.mem_of_getElem? (i := 10) (by decide +kernel))
theorem kw_563 : Cond.code yX5_promiseAll cX5_promiseAll 8 (some .int) ∈ wsL_law := kr_24 _ (List.mem_of_getElem? (i := 11) (by decide +kernel))
theorem kw_564 : Cond.fieldLink RX5 226 "Pickwave$Line" "lastWave" "I" ∈ wsL_law := kr_24 _ (List.mem_of_getElem? (i := 12) (by decide +kernel))
theorem kw_565 : Cond.methodLink RX5 315 yX5_canBePromised ∈ wsL_law := kr_24 _ (List.mem_of_getElem? (i := 13) (by decide +kernel))
theorem kw_566 : Cond.static yX5_canBePromised ∈ wsL_law := kr_24 _ (List.mem_of_getElem? (i := 14) (by decide +kernel))
theorem kw_567 : Cond.code yX5_canBePromised cX5_canBePromised 1 (some .boolean) ∈ wsL_law := kr_24 _ (List.mem_of_getElem? (i := 15) (by decide +kernel))
theorem kw_568 : Cond.methodLink RL 186 yX6_wave ∈ wsL_law := kr_24 _ (List.mem_of_getElem? (i := 16) (by decide +kernel))
theorem kw_569 : Cond.instanceMethod yX6_wave ∈ wsL_law := kr_24 _ (List.mem_of_getElem? (i := 17) (by decide +kernel))
theorem kw_570 : Cond.selects RX6 yX6_wave yX6_wave ∈ wsL_law := kr_24 _ (List.mem_of_getElem? (i := 18) (by decide +kernel))
theorem kw_571 : Cond.code yX6_wave cX6_wave 5 (some .int) ∈ wsL_law := kr_24 _ (List.mem_of_getElem? (i := 19) (by decide +kernel))
theorem kw_572 : Cond.fieldLink RX6 127 "PickwaveModel" "minute" "I" ∈ wsL_law := kr_24 _ (List.mem_of_getElem? (i := 20) (by decide +kernel))
theorem kw_573 : Cond.fieldLink RX6 130 "PickwaveModel" "waves" "I" ∈ wsL_law := kr_24 _ (List.mem_of_getElem? (i := 21) (by decide +kernel))
theorem kw_574 : Cond.methodLink RL 187 yL_waveOf ∈ wsL_law := kr_24 _ (List.mem_of_getElem? (i := 22) (by decide +kernel))
theorem kw_575 : Cond.static yL_waveOf ∈ wsL_law := kr_24 _ (List.mem_of_getElem? (i := 23) (by decide +kernel))
theorem kw_576 : Cond.codeWith yL_waveOf cL_waveOf 4 (some .int) [(0, 9, 12, 21), (0, 9, 15, 80)] ∈ wsL_law := kr_25 _ (List.mem_of_getElem? (i := 0) (by decide +kernel))
theorem kw_577 : Cond.classLink RL 80 "java/util/NoSuchElementException" ∈ wsL_law := kr_25 _ (List.mem_of_getElem? (i := 1) (by decide +kernel))
theorem kw_578 : Cond.methodLink RL 77 yX5_waveOf ∈ wsL_law := kr_25 _ (List.mem_of_getElem? (i := 2) (by decide +kernel))
theorem kw_579 : Cond.instanceMethod yX5_waveOf ∈ wsL_law := kr_25 _ (List.mem_of_getElem? (i := 3) (by decide +kernel))
theorem kw_580 : Cond.selects RX5 yX5_waveOf yX5_waveOf ∈ wsL_law := kr_25 _ (List.mem_of_getElem? (i := 4) (by decide +kernel))
theorem kw_581 : Cond.code yX5_waveOf cX5_waveOf 3 (some .int) ∈ wsL_law := kr_25 _ (List.mem_of_getElem? (i := 5) (by decide +kernel))
theorem kw_582 : Cond.classLink RX5 229 "java/util/NoSuchElementException" ∈ wsL_law := kr_25 _ (List.mem_of_getElem? (i := 6) (by decide +kernel))
theorem kw_583 : Cond.initialized "java/util/NoSuchElementException" ∈ wsL_law := kr_25 _ (List.mem_of_getElem? (i := 7) (by decide +kernel))
theorem kw_584 : Cond.methodLink RL 189 yX6_waveOf ∈ wsL_law := kr_25 _ (List.mem_of_getElem? (i := 8) (by decide +kernel))
theorem kw_585 : Cond.instanceMethod yX6_waveOf ∈ wsL_law := kr_25 _ (List.mem_of_getElem? (i := 9) (by decide +kernel))
theorem kw_586 : Cond.selects RX6 yX6_waveOf yX6_waveOf ∈ wsL_law := kr_25 _ (List.mem_of_getElem? (i := 10) (by decide +kernel))
theorem kw_587 : Cond.code yX6_waveOf cX6_waveOf 2 (some .int) ∈ wsL_law := kr_25 _ (List.mem_of_getElem? (i := 11) (by decide +kernel))
theorem kw_588 : Cond.methodLink RL 190 yX5_waves ∈ wsL_law := kr_25 _ (List.mem_of_getElem? (i := 12) (by decide +kernel))
theorem kw_589 : Cond.instanceMethod yX5_waves ∈ wsL_law := kr_25 _ (List.mem_of_getElem? (i := 13) (by decide +kernel))
theorem kw_590 : Cond.selects RX5 yX5_waves yX5_waves ∈ wsL_law := kr_25 _ (List.mem_of_getElem? (i := 14) (by decide +kernel))
theorem kw_591 : Cond.code yX5_waves cX5_waves 1 (some .int) ∈ wsL_law := kr_25 _ (List.mem_of_getElem? (i := 15) (by decide +kernel))
theorem kw_592 : Cond.methodLink RL 193 yX6_waves ∈ wsL_law := kr_25 _ (List.mem_of_getElem? (i := 16) (by decide +kernel))
theorem kw_593 : Cond.instanceMethod yX6_waves ∈ wsL_law := kr_25 _ (List.mem_of_getElem? (i := 17) (by decide +kernel))
theorem kw_594 : Cond.selects RX6 yX6_waves yX6_waves ∈ wsL_law := kr_25 _ (List.mem_of_getElem? (i := 18) (by decide +kernel))
theorem kw_595 : Cond.code yX6_waves cX6_waves 1 (some .int) ∈ wsL_law := kr_25 _ (List.mem_of_getElem? (i := 19) (by decide +kernel))
theorem kw_596 : Cond.methodLink RL 194 yL_minutesLeft ∈ wsL_law := kr_25 _ (List.mem_of_getElem? (i := 20) (by decide +kernel))
theorem kw_597 : Cond.static yL_minutesLeft ∈ wsL_law := kr_25 _ (List.mem_of_getElem? (i := 21) (by decide +kernel))
theorem kw_598 : Cond.codeWith yL_minutesLeft cL_minutesLeft 4 (some .int) [(0, 9, 12, 21)] ∈ wsL_law := kr_25 _ (List.mem_of_getElem? (i := 22) (by decide +kernel))
theorem kw_599 : Cond.methodLink RL 82 yX5_minutesLeft ∈ wsL_law := kr_25 _ (List.mem_of_getElem? (i := 23) (by decide +kernel))
theorem kw_600 : Cond.instanceMethod yX5_minutesLeft ∈ wsL_law := kr_26 _ (List.mem_of_getElem? (i := 0) (by decide +kernel))
theorem kw_601 : Cond.selects RX5 yX5_minutesLeft yX5_minutesLeft ∈ wsL_law := kr_26 _ (List.mem_of_getElem? (i := 1) (by decide +kernel))
theorem kw_602 : Cond.code yX5_minutesLeft cX5_minutesLeft 3 (some .int) ∈ wsL_law := kr_26 _ (List.mem_of_getElem? (i := 2) (by decide +kernel))
theorem kw_603 : Cond.methodLink RL 196 yX6_minutesLeft ∈ wsL_law := kr_26 _ (List.mem_of_getElem? (i := 3) (by decide +kernel))
theorem kw_604 : Cond.instanceMethod yX6_minutesLeft ∈ wsL_law := kr_26 _ (List.mem_of_getElem? (i := 4) (by decide +kernel))
theorem kw_605 : Cond.selects RX6 yX6_minutesLeft yX6_minutesLeft ∈ wsL_law := kr_26 _ (List.mem_of_getElem? (i := 5) (by decide +kernel))
theorem kw_606 : Cond.code yX6_minutesLeft cX6_minutesLeft 2 (some .int) ∈ wsL_law := kr_26 _ (List.mem_of_getElem? (i := 6) (by decide +kernel))
theorem kw_607 : Cond.methodLink RL 197 yL_send ∈ wsL_law := kr_26 _ (List.mem_of_getElem? (i := 7) (by decide +kernel))
theorem kw_608 : Cond.static yL_send ∈ wsL_law := kr_26 _ (List.mem_of_getElem? (i := 8) (by decide +kernel))
theorem kw_609 : Cond.codeWith yL_send cL_send 5 (some .int) [(0, 10, 13, 21), (0, 10, 17, 66), (0, 10, 21, 15), (0, 10, 25, 80)] ∈ wsL_law := kr_26 _ (List.mem_of_getElem? (i := 9) (by decide +kernel))
theorem kw_610 : Cond.methodLink RL 85 yX5_send ∈ wsL_law := kr_26 _ (List.mem_of_getElem? (i := 10) (by decide +kernel))
theorem kw_611 : Cond.instanceMethod yX5_send ∈ wsL_law := kr_26 _ (List.mem_of_getElem? (i := 11) (by decide +kernel))
theorem kw_612 : Cond.selects RX5 yX5_send yX5_send ∈ wsL_law := kr_26 _ (List.mem_of_getElem? (i := 12) (by decide +kernel))
theorem kw_613 : Cond.code yX5_send cX5_send 6 (some .int) ∈ wsL_law := kr_26 _ (List.mem_of_getElem? (i := 13) (by decide +kernel))
theorem kw_614 : Cond.fieldLink RX5 238 "Pickwave$Robot" "article" "LPickwave$Article;" ∈ wsL_law := kr_26 _ (List.mem_of_getElem? (i := 14) (by decide +kernel))
theorem kw_615 : Cond.methodLink RX5 241 Lib.Math.min.name ∈ wsL_law := kr_26 _ (List.mem_of_getElem? (i := 15) (by decide +kernel))
theorem kw_616 : Cond.fieldLink RX5 250 "Pickwave$Robot" "minutes" "I" ∈ wsL_law := kr_26 _ (List.mem_of_getElem? (i := 16) (by decide +kernel))
theorem kw_617 : Cond.fieldLink RX5 253 "Pickwave$Robot" "load" "I" ∈ wsL_law := kr_26 _ (List.mem_of_getElem? (i := 17) (by decide +kernel))
theorem kw_618 : Cond.methodLink RX5 234 yX5_findRobot ∈ wsL_law := kr_26 _ (List.mem_of_getElem? (i := 18) (by decide +kernel))
theorem kw_619 : Cond.instanceMethod yX5_findRobot ∈ wsL_law := kr_26 _ (List.mem_of_getElem? (i := 19) (by decide +kernel))
theorem kw_620 : Cond.selects RX5 yX5_findRobot yX5_findRobot ∈ wsL_law := kr_26 _ (List.mem_of_getElem? (i := 20) (by decide +kernel))
theorem kw_621 : Cond.code yX5_findRobot cX5_findRobot 2 (some (.object "Pickwave$Robot")) ∈ wsL_law := kr_26 _ (List.mem_of_getElem? (i := 21) (by decide +kernel))
theorem kw_622 : Cond.methodLink RX5 246 yX5_minutesOfAWay ∈ wsL_law := kr_26 _ (List.mem_of_getElem? (i := 22) (by decide +kernel))
theorem kw_623 : Cond.instanceMethod yX5_minutesOfAWay ∈ wsL_law := kr_26 _ (List.mem_of_getElem? (i := 23) (by decide +kernel))
theorem kw_624 : Cond.selects RX5 yX5_minutesOfAWay yX5_minutesOfAWay ∈ wsL_law := kr_27 _ (List.mem_of_getElem? (i := 0) (by decide +kernel))
theorem kw_625 : Cond.code yX5_minutesOfAWay cX5_minutesOfAWay 3 (some .int) ∈ wsL_law := kr_27 _ (List.mem_of_getElem? (i := 1) (by decide +kernel))
theorem kw_626 : Cond.methodLink RX5 319 yX5_hasRobotIn ∈ wsL_law := kr_27 _ (List.mem_of_getElem? (i := 2) (by decide +kernel))
theorem kw_627 : Cond.instanceMethod yX5_hasRobotIn ∈ wsL_law := kr_27 _ (List.mem_of_getElem? (i := 3) (by decide +kernel))
theorem kw_628 : Cond.selects RX5 yX5_hasRobotIn yX5_hasRobotIn ∈ wsL_law := kr_27 _ (List.mem_of_getElem? (i := 4) (by decide +kernel))
theorem kw_629 : Cond.code yX5_hasRobotIn cX5_hasRobotIn 4 (some .boolean) ∈ wsL_law := kr_27 _ (List.mem_of_getElem? (i := 5) (by decide +kernel))
theorem kw_630 : Cond.methodLink RL 199 yX6_send ∈ wsL_law := kr_27 _ (List.mem_of_getElem? (i := 6) (by decide +kernel))
theorem kw_631 : Cond.instanceMethod yX6_send ∈ wsL_law := kr_27 _ (List.mem_of_getElem? (i := 7) (by decide +kernel))
theorem kw_632 : Cond.selects RX6 yX6_send yX6_send ∈ wsL_law := kr_27 _ (List.mem_of_getElem? (i := 8) (by decide +kernel))
theorem kw_633 : Cond.code yX6_send cX6_send 7 (some .int) ∈ wsL_law := kr_27 _ (List.mem_of_getElem? (i := 9) (by decide +kernel))
theorem kw_634 : Cond.methodLink RX6 133 yX6_isRobot ∈ wsL_law := kr_27 _ (List.mem_of_getElem? (i := 10) (by decide +kernel))
theorem kw_635 : Cond.instanceMethod yX6_isRobot ∈ wsL_law := kr_27 _ (List.mem_of_getElem? (i := 11) (by decide +kernel))
theorem kw_636 : Cond.selects RX6 yX6_isRobot yX6_isRobot ∈ wsL_law := kr_27 _ (List.mem_of_getElem? (i := 12) (by decide +kernel))
theorem kw_637 : Cond.code yX6_isRobot cX6_isRobot 2 (some .boolean) ∈ wsL_law := kr_27 _ (List.mem_of_getElem? (i := 13) (by decide +kernel))
theorem kw_638 : Cond.methodLink RL 200 yL_carried ∈ wsL_law := kr_27 _ (List.mem_of_getElem? (i := 14) (by decide +kernel))
theorem kw_639 : Cond.static yL_carried ∈ wsL_law := kr_27 _ (List.mem_of_getElem? (i := 15) (by decide +kernel))
theorem kw_640 : Cond.codeWith yL_carried cL_carried 4 (some .int) [(0, 9, 12, 21)] ∈ wsL_law := kr_27 _ (List.mem_of_getElem? (i := 16) (by decide +kernel))
theorem kw_641 : Cond.methodLink RL 88 yX5_carried ∈ wsL_law := kr_27 _ (List.mem_of_getElem? (i := 17) (by decide +kernel))
theorem kw_642 : Cond.instanceMethod yX5_carried ∈ wsL_law := kr_27 _ (List.mem_of_getElem? (i := 18) (by decide +kernel))
theorem kw_643 : Cond.selects RX5 yX5_carried yX5_carried ∈ wsL_law := kr_27 _ (List.mem_of_getElem? (i := 19) (by decide +kernel))
theorem kw_644 : Cond.code yX5_carried cX5_carried 2 (some .int) ∈ wsL_law := kr_27 _ (List.mem_of_getElem? (i := 20) (by decide +kernel))
theorem kw_645 : Cond.methodLink RL 202 yX6_carried ∈ wsL_law := kr_27 _ (List.mem_of_getElem? (i := 21) (by decide +kernel))
theorem kw_646 : Cond.instanceMethod yX6_carried ∈ wsL_law := kr_27 _ (List.mem_of_getElem? (i := 22) (by decide +kernel))
theorem kw_647 : Cond.selects RX6 yX6_carried yX6_carried ∈ wsL_law := kr_27 _ (List.mem_of_getElem? (i := 23) (by decide +kernel))
theorem kw_648 : Cond.code yX6_carried cX6_carried 2 (some .int) ∈ wsL_law := kr_28 _ (List.mem_of_getElem? (i := 0) (by decide +kernel))
theorem kw_649 : Cond.methodLink RL 203 yL_minutesOf ∈ wsL_law := kr_28 _ (List.mem_of_getElem? (i := 1) (by decide +kernel))
theorem kw_650 : Cond.static yL_minutesOf ∈ wsL_law := kr_28 _ (List.mem_of_getElem? (i := 2) (by decide +kernel))
theorem kw_651 : Cond.codeWith yL_minutesOf cL_minutesOf 4 (some .int) [(0, 9, 12, 21)] ∈ wsL_law := kr_28 _ (List.mem_of_getElem? (i := 3) (by decide +kernel))
theorem kw_652 : Cond.methodLink RL 91 yX5_minutesOf ∈ wsL_law := kr_28 _ (List.mem_of_getElem? (i := 4) (by decide +kernel))
theorem kw_653 : Cond.instanceMethod yX5_minutesOf ∈ wsL_law := kr_28 _ (List.mem_of_getElem? (i := 5) (by decide +kernel))
theorem kw_654 : Cond.selects RX5 yX5_minutesOf yX5_minutesOf ∈ wsL_law := kr_28 _ (List.mem_of_getElem? (i := 6) (by decide +kernel))
theorem kw_655 : Cond.code yX5_minutesOf cX5_minutesOf 2 (some .int) ∈ wsL_law := kr_28 _ (List.mem_of_getElem? (i := 7) (by decide +kernel))
theorem kw_656 : Cond.methodLink RL 205 yX6_minutesOf ∈ wsL_law := kr_28 _ (List.mem_of_getElem? (i := 8) (by decide +kernel))
theorem kw_657 : Cond.instanceMethod yX6_minutesOf ∈ wsL_law := kr_28 _ (List.mem_of_getElem? (i := 9) (by decide +kernel))
theorem kw_658 : Cond.selects RX6 yX6_minutesOf yX6_minutesOf ∈ wsL_law := kr_28 _ (List.mem_of_getElem? (i := 10) (by decide +kernel))
theorem kw_659 : Cond.code yX6_minutesOf cX6_minutesOf 2 (some .int) ∈ wsL_law := kr_28 _ (List.mem_of_getElem? (i := 11) (by decide +kernel))
theorem kw_660 : Cond.methodLink RL 206 yL_aisleOf ∈ wsL_law := kr_28 _ (List.mem_of_getElem? (i := 12) (by decide +kernel))
theorem kw_661 : Cond.static yL_aisleOf ∈ wsL_law := kr_28 _ (List.mem_of_getElem? (i := 13) (by decide +kernel))
theorem kw_662 : Cond.codeWith yL_aisleOf cL_aisleOf 4 (some .int) [(0, 9, 12, 21), (0, 9, 15, 80)] ∈ wsL_law := kr_28 _ (List.mem_of_getElem? (i := 14) (by decide +kernel))
theorem kw_663 : Cond.methodLink RL 94 yX5_aisleOf ∈ wsL_law := kr_28 _ (List.mem_of_getElem? (i := 15) (by decide +kernel))
theorem kw_664 : Cond.instanceMethod yX5_aisleOf ∈ wsL_law := kr_28 _ (List.mem_of_getElem? (i := 16) (by decide +kernel))
theorem kw_665 : Cond.selects RX5 yX5_aisleOf yX5_aisleOf ∈ wsL_law := kr_28 _ (List.mem_of_getElem? (i := 17) (by decide +kernel))
theorem kw_666 : Cond.code yX5_aisleOf cX5_aisleOf 3 (some .int) ∈ wsL_law := kr_28 _ (List.mem_of_getElem? (i := 18) (by decide +kernel))
theorem kw_667 : Cond.fieldLink RX5 258 "Pickwave$Aisle" "number" "I" ∈ wsL_law := kr_28 _ (List.mem_of_getElem? (i := 19) (by decide +kernel))
theorem kw_668 : Cond.methodLink RL 208 yX6_aisleOf ∈ wsL_law := kr_28 _ (List.mem_of_getElem? (i := 20) (by decide +kernel))
theorem kw_669 : Cond.instanceMethod yX6_aisleOf ∈ wsL_law := kr_28 _ (List.mem_of_getElem? (i := 21) (by decide +kernel))
theorem kw_670 : Cond.selects RX6 yX6_aisleOf yX6_aisleOf ∈ wsL_law := kr_28 _ (List.mem_of_getElem? (i := 22) (by decide +kernel))
theorem kw_671 : Cond.code yX6_aisleOf cX6_aisleOf 2 (some .int) ∈ wsL_law := kr_28 _ (List.mem_of_getElem? (i := 23) (by decide +kernel))
theorem kw_672 : Cond.methodLink RL 209 yL_pass ∈ wsL_law := kr_29 _ (List.mem_of_getElem? (i := 0) (by decide +kernel))
theorem kw_673 : Cond.static yL_pass ∈ wsL_law := kr_29 _ (List.mem_of_getElem? (i := 1) (by decide +kernel))
theorem kw_674 : Cond.codeWith yL_pass cL_pass 4 (some .int) [(0, 9, 12, 13)] ∈ wsL_law := kr_29 _ (List.mem_of_getElem? (i := 2) (by decide +kernel))
theorem kw_675 : Cond.methodLink RL 97 yX5_pass ∈ wsL_law := kr_29 _ (List.mem_of_getElem? (i := 3) (by decide +kernel))
theorem kw_676 : Cond.instanceMethod yX5_pass ∈ wsL_law := kr_29 _ (List.mem_of_getElem? (i := 4) (by decide +kernel))
theorem kw_677 : Cond.selects RX5 yX5_pass yX5_pass ∈ wsL_law := kr_29 _ (List.mem_of_getElem? (i := 5) (by decide +kernel))
theorem kw_678 : Cond.code yX5_pass cX5_pass 5 (some .int) ∈ wsL_law := kr_29 _ (List.mem_of_getElem? (i := 6) (by decide +kernel))
theorem kw_679 : Cond.methodLink RX5 265 yX5_passMinuteOf ∈ wsL_law := kr_29 _ (List.mem_of_getElem? (i := 7) (by decide +kernel))
theorem kw_680 : Cond.static yX5_passMinuteOf ∈ wsL_law := kr_29 _ (List.mem_of_getElem? (i := 8) (by decide +kernel))
theorem kw_681 : Cond.code yX5_passMinuteOf cX5_passMinuteOf 3 (some .int) ∈ wsL_law := kr_29 _ (List.mem_of_getElem? (i := 9) (by decide +kernel))
theorem kw_682 : Cond.methodLink RL 211 yX6_pass ∈ wsL_law := kr_29 _ (List.mem_of_getElem? (i := 10) (by decide +kernel))
theorem kw_683 : Cond.instanceMethod yX6_pass ∈ wsL_law := kr_29 _ (List.mem_of_getElem? (i := 11) (by decide +kernel))
theorem kw_684 : Cond.selects RX6 yX6_pass yX6_pass ∈ wsL_law := kr_29 _ (List.mem_of_getElem? (i := 12) (by decide +kernel))
theorem kw_685 : Cond.code yX6_pass cX6_pass 5 (some .int) ∈ wsL_law := kr_29 _ (List.mem_of_getElem? (i := 13) (by decide +kernel))
theorem kw_686 : Cond.methodLink RL 212 yX5_minute ∈ wsL_law := kr_29 _ (List.mem_of_getElem? (i := 14) (by decide +kernel))
theorem kw_687 : Cond.instanceMethod yX5_minute ∈ wsL_law := kr_29 _ (List.mem_of_getElem? (i := 15) (by decide +kernel))
theorem kw_688 : Cond.selects RX5 yX5_minute yX5_minute ∈ wsL_law := kr_29 _ (List.mem_of_getElem? (i := 16) (by decide +kernel))
theorem kw_689 : Cond.code yX5_minute cX5_minute 1 (some .int) ∈ wsL_law := kr_29 _ (List.mem_of_getElem? (i := 17) (by decide +kernel))
theorem kw_690 : Cond.methodLink RL 215 yX6_minute ∈ wsL_law := kr_29 _ (List.mem_of_getElem? (i := 18) (by decide +kernel))
theorem kw_691 : Cond.instanceMethod yX6_minute ∈ wsL_law := kr_29 _ (List.mem_of_getElem? (i := 19) (by decide +kernel))
theorem kw_692 : Cond.selects RX6 yX6_minute yX6_minute ∈ wsL_law := kr_29 _ (List.mem_of_getElem? (i := 20) (by decide +kernel))
theorem kw_693 : Cond.code yX6_minute cX6_minute 1 (some .int) ∈ wsL_law := kr_29 _ (List.mem_of_getElem? (i := 21) (by decide +kernel))
theorem kw_694 : Cond.methodLink RL 216 yX5_scans ∈ wsL_law := kr_29 _ (List.mem_of_getElem? (i := 22) (by decide +kernel))
theorem kw_695 : Cond.instanceMethod yX5_scans ∈ wsL_law := kr_29 _ (List.mem_of_getElem? (i := 23) (by decide +kernel))
theorem kw_696 : Cond.selects RX5 yX5_scans yX5_scans ∈ wsL_law := kr_30 _ (List.mem_of_getElem? (i := 0) (by decide +kernel))
theorem kw_697 : Cond.code yX5_scans cX5_scans 1 (some .int) ∈ wsL_law := kr_30 _ (List.mem_of_getElem? (i := 1) (by decide +kernel))
theorem kw_698 : Cond.fieldLink RX5 269 "Pickwave$ScanLog" "count" "I" ∈ wsL_law := kr_30 _ (List.mem_of_getElem? (i := 2) (by decide +kernel))
theorem kw_699 : Cond.methodLink RL 219 yX6_scans ∈ wsL_law := kr_30 _ (List.mem_of_getElem? (i := 3) (by decide +kernel))
theorem kw_700 : Cond.instanceMethod yX6_scans ∈ wsL_law := kr_30 _ (List.mem_of_getElem? (i := 4) (by decide +kernel))
theorem kw_701 : Cond.selects RX6 yX6_scans yX6_scans ∈ wsL_law := kr_30 _ (List.mem_of_getElem? (i := 5) (by decide +kernel))
theorem kw_702 : Cond.code yX6_scans cX6_scans 1 (some .int) ∈ wsL_law := kr_30 _ (List.mem_of_getElem? (i := 6) (by decide +kernel))
theorem kw_703 : Cond.methodLink RL 220 yL_scanOrder ∈ wsL_law := kr_30 _ (List.mem_of_getElem? (i := 7) (by decide +kernel))
theorem kw_704 : Cond.static yL_scanOrder ∈ wsL_law := kr_30 _ (List.mem_of_getElem? (i := 8) (by decide +kernel))
theorem kw_705 : Cond.codeWith yL_scanOrder cL_scanOrder 4 (some .int) [(0, 9, 12, 21)] ∈ wsL_law := kr_30 _ (List.mem_of_getElem? (i := 9) (by decide +kernel))
theorem kw_706 : Cond.methodLink RL 100 yX5_scanOrder ∈ wsL_law := kr_30 _ (List.mem_of_getElem? (i := 10) (by decide +kernel))
theorem kw_707 : Cond.instanceMethod yX5_scanOrder ∈ wsL_law := kr_30 _ (List.mem_of_getElem? (i := 11) (by decide +kernel))
theorem kw_708 : Cond.selects RX5 yX5_scanOrder yX5_scanOrder ∈ wsL_law := kr_30 _ (List.mem_of_getElem? (i := 12) (by decide +kernel))
theorem kw_709 : Cond.code yX5_scanOrder cX5_scanOrder 2 (some .int) ∈ wsL_law := kr_30 _ (List.mem_of_getElem? (i := 13) (by decide +kernel))
theorem kw_710 : Cond.fieldLink RX5 280 "Pickwave$ScanLog" "numbers" "[I" ∈ wsL_law := kr_30 _ (List.mem_of_getElem? (i := 14) (by decide +kernel))
theorem kw_711 : Cond.methodLink RX5 272 yX4_has ∈ wsL_law := kr_30 _ (List.mem_of_getElem? (i := 15) (by decide +kernel))
theorem kw_712 : Cond.instanceMethod yX4_has ∈ wsL_law := kr_30 _ (List.mem_of_getElem? (i := 16) (by decide +kernel))
theorem kw_713 : Cond.selects RX4 yX4_has yX4_has ∈ wsL_law := kr_30 _ (List.mem_of_getElem? (i := 17) (by decide +kernel))
theorem kw_714 : Cond.code yX4_has cX4_has 2 (some .boolean) ∈ wsL_law := kr_30 _ (List.mem_of_getElem? (i := 18) (by decide +kernel))
theorem kw_715 : Cond.methodLink RL 222 yX6_scanOrder ∈ wsL_law := kr_30 _ (List.mem_of_getElem? (i := 19) (by decide +kernel))
theorem kw_716 : Cond.instanceMethod yX6_scanOrder ∈ wsL_law := kr_30 _ (List.mem_of_getElem? (i := 20) (by decide +kernel))
theorem kw_717 : Cond.selects RX6 yX6_scanOrder yX6_scanOrder ∈ wsL_law := kr_30 _ (List.mem_of_getElem? (i := 21) (by decide +kernel))
theorem kw_718 : Cond.code yX6_scanOrder cX6_scanOrder 2 (some .int) ∈ wsL_law := kr_30 _ (List.mem_of_getElem? (i := 22) (by decide +kernel))
theorem kw_719 : Cond.methodLink RL 223 yL_scanSign ∈ wsL_law := kr_30 _ (List.mem_of_getElem? (i := 23) (by decide +kernel))
theorem kw_720 : Cond.static yL_scanSign ∈ wsL_law := kr_31 _ (List.mem_of_getElem? (i := 0) (by decide +kernel))
theorem kw_721 : Cond.codeWith yL_scanSign cL_scanSign 4 (some .int) [(0, 9, 12, 21)] ∈ wsL_law := kr_31 _ (List.mem_of_getElem? (i := 1) (by decide +kernel))
theorem kw_722 : Cond.methodLink RL 103 yX5_scanSign ∈ wsL_law := kr_31 _ (List.mem_of_getElem? (i := 2) (by decide +kernel))
theorem kw_723 : Cond.instanceMethod yX5_scanSign ∈ wsL_law := kr_31 _ (List.mem_of_getElem? (i := 3) (by decide +kernel))
theorem kw_724 : Cond.selects RX5 yX5_scanSign yX5_scanSign ∈ wsL_law := kr_31 _ (List.mem_of_getElem? (i := 4) (by decide +kernel))
theorem kw_725 : Cond.code yX5_scanSign cX5_scanSign 2 (some .char) ∈ wsL_law := kr_31 _ (List.mem_of_getElem? (i := 5) (by decide +kernel))
theorem kw_726 : Cond.fieldLink RX5 283 "Pickwave$ScanLog" "signs" "[C" ∈ wsL_law := kr_31 _ (List.mem_of_getElem? (i := 6) (by decide +kernel))
theorem kw_727 : Cond.methodLink RL 225 yX6_scanSign ∈ wsL_law := kr_31 _ (List.mem_of_getElem? (i := 7) (by decide +kernel))
theorem kw_728 : Cond.instanceMethod yX6_scanSign ∈ wsL_law := kr_31 _ (List.mem_of_getElem? (i := 8) (by decide +kernel))
theorem kw_729 : Cond.selects RX6 yX6_scanSign yX6_scanSign ∈ wsL_law := kr_31 _ (List.mem_of_getElem? (i := 9) (by decide +kernel))
theorem kw_730 : Cond.code yX6_scanSign cX6_scanSign 2 (some .char) ∈ wsL_law := kr_31 _ (List.mem_of_getElem? (i := 10) (by decide +kernel))
theorem kw_731 : Cond.methodLink RL 226 yX5_shipped ∈ wsL_law := kr_31 _ (List.mem_of_getElem? (i := 11) (by decide +kernel))
theorem kw_732 : Cond.instanceMethod yX5_shipped ∈ wsL_law := kr_31 _ (List.mem_of_getElem? (i := 12) (by decide +kernel))
theorem kw_733 : Cond.selects RX5 yX5_shipped yX5_shipped ∈ wsL_law := kr_31 _ (List.mem_of_getElem? (i := 13) (by decide +kernel))
theorem kw_734 : Cond.code yX5_shipped cX5_shipped 1 (some .long) ∈ wsL_law := kr_31 _ (List.mem_of_getElem? (i := 14) (by decide +kernel))
theorem kw_735 : Cond.methodLink RL 230 yX6_shipped ∈ wsL_law := kr_31 _ (List.mem_of_getElem? (i := 15) (by decide +kernel))
theorem kw_736 : Cond.instanceMethod yX6_shipped ∈ wsL_law := kr_31 _ (List.mem_of_getElem? (i := 16) (by decide +kernel))
theorem kw_737 : Cond.selects RX6 yX6_shipped yX6_shipped ∈ wsL_law := kr_31 _ (List.mem_of_getElem? (i := 17) (by decide +kernel))
theorem kw_738 : Cond.code yX6_shipped cX6_shipped 4 (some .long) ∈ wsL_law := kr_31 _ (List.mem_of_getElem? (i := 18) (by decide +kernel))
theorem kw_739 : Cond.methodLink RL 231 yL_shippedShare ∈ wsL_law := kr_31 _ (List.mem_of_getElem? (i := 19) (by decide +kernel))
theorem kw_740 : Cond.static yL_shippedShare ∈ wsL_law := kr_31 _ (List.mem_of_getElem? (i := 20) (by decide +kernel))
theorem kw_741 : Cond.codeWith yL_shippedShare cL_shippedShare 3 (some .int) [(0, 8, 11, 80)] ∈ wsL_law := kr_31 _ (List.mem_of_getElem? (i := 21) (by decide +kernel))
theorem kw_742 : Cond.methodLink RL 106 yX5_shippedShare ∈ wsL_law := kr_31 _ (List.mem_of_getElem? (i := 22) (by decide +kernel))
theorem kw_743 : Cond.instanceMethod yX5_shippedShare ∈ wsL_law := kr_31 _ (List.mem_of_getElem? (i := 23) (by decide +kernel))
theorem kw_744 : Cond.selects RX5 yX5_shippedShare yX5_shippedShare ∈ wsL_law := kr_32 _ (List.mem_of_getElem? (i := 0) (by decide +kernel))
theorem kw_745 : Cond.code yX5_shippedShare cX5_shippedShare 4 (some .float) ∈ wsL_law := kr_32 _ (List.mem_of_getElem? (i := 1) (by decide +kernel))
theorem kw_746 : Cond.methodLink RL 234 yX6_shippedShare ∈ wsL_law := kr_32 _ (List.mem_of_getElem? (i := 2) (by decide +kernel))
theorem kw_747 : Cond.instanceMethod yX6_shippedShare ∈ wsL_law := kr_32 _ (List.mem_of_getElem? (i := 3) (by decide +kernel))
theorem kw_748 : Cond.selects RX6 yX6_shippedShare yX6_shippedShare ∈ wsL_law := kr_32 _ (List.mem_of_getElem? (i := 4) (by decide +kernel))
theorem kw_749 : Cond.code yX6_shippedShare cX6_shippedShare 3 (some .float) ∈ wsL_law := kr_32 _ (List.mem_of_getElem? (i := 5) (by decide +kernel))
def k_texts : List (Nat × String) := [(52, "there is no such aisle"), (61, "the room or the stock is out of its bounds"), (63, "the reserve is out of its bounds"), (71, "there are 6 articles"), (129, "the number of pickers is not between 0 and 9"), (134, "a number is not between 0 and 20"), (136, "both numbers are 0"), (147, "the reserve would be greater than 9999"), (156, "the amount is not between 1 and 20"), (161, "there is no such carrier"), (163, "there are 12 orders"), (177, "the order is neither open nor promised"), (183, "the amount is not between 0 and that of the order"), (191, "the aisle is blocked"), (194, "the order is not promised"), (210, "the minute is not between 0 and 1439"), (215, "the cut-off is over"), (220, "there are 20 waves"), (231, "the order was never promised"), (239, "the robot is on its way"), (244, "there is no reserve, or no room"), (256, "the robot is idle"), (261, "the number of minutes is not between 1 and 60"), (263, "the minute would be greater than 1439"), (277, "there is no such scan"), (287, "there is no order"), (289, "there is no such article"), (291, "there is no such order"), (293, "there is no such robot")]
def k_exs : List String := ["java/lang/IllegalArgumentException", "java/lang/IllegalStateException", "java/lang/IndexOutOfBoundsException", "java/lang/UnsupportedOperationException", "java/util/NoSuchElementException"]
theorem kxl_IAE : ∀ w ∈ (vx_atS RX5 54 "java/lang/IllegalArgumentException" ["java/lang/RuntimeException", "java/lang/Exception"]).filter goodWord, w ∈ wsL_law := fun _ h => List.mem_append_left _ (List.mem_append_left _ (List.mem_append_left _ (List.mem_append_left _ (List.mem_append_right _ h))))
theorem kxg_IAE : ∀ w ∈ Cond.classLink RX5 50 "java/lang/IllegalArgumentException" :: Cond.initialized "java/lang/IllegalArgumentException" :: vx_atS RX5 54 "java/lang/IllegalArgumentException" ["java/lang/RuntimeException", "java/lang/Exception"], vx_ot w = true := by decide +kernel
theorem kxb_IAE : ∀ w ∈ (vx_atS RX5 54 "java/lang/IllegalArgumentException" ["java/lang/RuntimeException", "java/lang/Exception"]).filter (fun w => !goodWord w), w ∈ [Cond.declares ⟨"java/lang/RuntimeException", "<init>", "(Ljava/lang/String;)V"⟩, Cond.declares ⟨"java/lang/Exception", "<init>", "(Ljava/lang/String;)V"⟩, Cond.declares ⟨"java/lang/Throwable", "<init>", "(Ljava/lang/String;)V"⟩, Cond.castable "java/lang/IllegalArgumentException" "java/lang/IllegalArgumentException"] := by decide +kernel
theorem kxl_ISE : ∀ w ∈ (vx_atS RX5 73 "java/lang/IllegalStateException" ["java/lang/RuntimeException", "java/lang/Exception"]).filter goodWord, w ∈ wsL_law := fun _ h => List.mem_append_left _ (List.mem_append_left _ (List.mem_append_left _ (List.mem_append_right _ h)))
theorem kxg_ISE : ∀ w ∈ Cond.classLink RX5 69 "java/lang/IllegalStateException" :: Cond.initialized "java/lang/IllegalStateException" :: vx_atS RX5 73 "java/lang/IllegalStateException" ["java/lang/RuntimeException", "java/lang/Exception"], vx_ot w = true := by decide +kernel
theorem kxb_ISE : ∀ w ∈ (vx_atS RX5 73 "java/lang/IllegalStateException" ["java/lang/RuntimeException", "java/lang/Exception"]).filter (fun w => !goodWord w), w ∈ [Cond.declares ⟨"java/lang/RuntimeException", "<init>", "(Ljava/lang/String;)V"⟩, Cond.declares ⟨"java/lang/Exception", "<init>", "(Ljava/lang/String;)V"⟩, Cond.declares ⟨"java/lang/Throwable", "<init>", "(Ljava/lang/String;)V"⟩, Cond.castable "java/lang/IllegalStateException" "java/lang/IllegalStateException"] := by decide +kernel
theorem kxl_IOOBE : ∀ w ∈ (vx_atS RX5 279 "java/lang/IndexOutOfBoundsException" ["java/lang/RuntimeException", "java/lang/Exception"]).filter goodWord, w ∈ wsL_law := fun _ h => List.mem_append_left _ (List.mem_append_left _ (List.mem_append_right _ h))
theorem kxg_IOOBE : ∀ w ∈ Cond.classLink RX5 275 "java/lang/IndexOutOfBoundsException" :: Cond.initialized "java/lang/IndexOutOfBoundsException" :: vx_atS RX5 279 "java/lang/IndexOutOfBoundsException" ["java/lang/RuntimeException", "java/lang/Exception"], vx_ot w = true := by decide +kernel
theorem kxb_IOOBE : ∀ w ∈ (vx_atS RX5 279 "java/lang/IndexOutOfBoundsException" ["java/lang/RuntimeException", "java/lang/Exception"]).filter (fun w => !goodWord w), w ∈ [Cond.declares ⟨"java/lang/RuntimeException", "<init>", "(Ljava/lang/String;)V"⟩, Cond.declares ⟨"java/lang/Exception", "<init>", "(Ljava/lang/String;)V"⟩, Cond.declares ⟨"java/lang/Throwable", "<init>", "(Ljava/lang/String;)V"⟩, Cond.castable "java/lang/IndexOutOfBoundsException" "java/lang/IndexOutOfBoundsException"] := by decide +kernel
theorem kxl_UOE : ∀ w ∈ (vx_atS RX5 193 "java/lang/UnsupportedOperationException" ["java/lang/RuntimeException", "java/lang/Exception"]).filter goodWord, w ∈ wsL_law := fun _ h => List.mem_append_left _ (List.mem_append_right _ h)
theorem kxg_UOE : ∀ w ∈ Cond.classLink RX5 189 "java/lang/UnsupportedOperationException" :: Cond.initialized "java/lang/UnsupportedOperationException" :: vx_atS RX5 193 "java/lang/UnsupportedOperationException" ["java/lang/RuntimeException", "java/lang/Exception"], vx_ot w = true := by decide +kernel
theorem kxb_UOE : ∀ w ∈ (vx_atS RX5 193 "java/lang/UnsupportedOperationException" ["java/lang/RuntimeException", "java/lang/Exception"]).filter (fun w => !goodWord w), w ∈ [Cond.declares ⟨"java/lang/RuntimeException", "<init>", "(Ljava/lang/String;)V"⟩, Cond.declares ⟨"java/lang/Exception", "<init>", "(Ljava/lang/String;)V"⟩, Cond.declares ⟨"java/lang/Throwable", "<init>", "(Ljava/lang/String;)V"⟩, Cond.castable "java/lang/UnsupportedOperationException" "java/lang/UnsupportedOperationException"] := by decide +kernel
theorem kxl_NSEE : ∀ w ∈ (vx_atS RX5 233 "java/util/NoSuchElementException" ["java/lang/RuntimeException", "java/lang/Exception"]).filter goodWord, w ∈ wsL_law := fun _ h => List.mem_append_right _ h
theorem kxg_NSEE : ∀ w ∈ Cond.classLink RX5 229 "java/util/NoSuchElementException" :: Cond.initialized "java/util/NoSuchElementException" :: vx_atS RX5 233 "java/util/NoSuchElementException" ["java/lang/RuntimeException", "java/lang/Exception"], vx_ot w = true := by decide +kernel
theorem kxb_NSEE : ∀ w ∈ (vx_atS RX5 233 "java/util/NoSuchElementException" ["java/lang/RuntimeException", "java/lang/Exception"]).filter (fun w => !goodWord w), w ∈ [Cond.declares ⟨"java/lang/RuntimeException", "<init>", "(Ljava/lang/String;)V"⟩, Cond.declares ⟨"java/lang/Exception", "<init>", "(Ljava/lang/String;)V"⟩, Cond.declares ⟨"java/lang/Throwable", "<init>", "(Ljava/lang/String;)V"⟩, Cond.castable "java/util/NoSuchElementException" "java/util/NoSuchElementException"] := by decide +kernel
end
section
/-! The pool: the addresses, the kind of each, whole fields by (field, address), references by (field, address), longs, and arrays: lengths, rows of ints, rows of references.
kinds: 0 Aisle, 1 Article, 2 Line, 3 Robot, 4 ScanLog, 5 Pickwave, 7 ArrayList; 8 char[], 9 int[], 10 boolean[], 11 Aisle[], 12 Robot[], 13 Object[]; a field's number is 10 * kind + its slot -/
abbrev wPS : Type := List Nat × (Nat → Nat) × (Nat → Nat → Int32) × (Nat → Nat → Option Nat) × (Nat → Int64) × (Nat → Nat) × (Nat → Nat → Int32) × (Nat → Nat → Option Nat)
abbrev pL (S : wPS) : List Nat := S.1
abbrev pK (S : wPS) : Nat → Nat := S.2.1
abbrev pF (S : wPS) : Nat → Nat → Int32 := S.2.2.1
abbrev pG (S : wPS) : Nat → Nat → Option Nat := S.2.2.2.1
abbrev pJ (S : wPS) : Nat → Int64 := S.2.2.2.2.1
abbrev pN (S : wPS) : Nat → Nat := S.2.2.2.2.2.1
abbrev pX (S : wPS) : Nat → Nat → Int32 := S.2.2.2.2.2.2.1
abbrev pY (S : wPS) : Nat → Nat → Option Nat := S.2.2.2.2.2.2.2
def setF (S : wPS) (k a : Nat) (v : Int32) : wPS := (pL S, pK S, va_up (pF S) k (va_up (pF S k) a v), pG S, pJ S, pN S, pX S, pY S)
def setG (S : wPS) (k a : Nat) (v : Option Nat) : wPS := (pL S, pK S, pF S, va_up (pG S) k (va_up (pG S k) a v), pJ S, pN S, pX S, pY S)
def setJ (S : wPS) (a : Nat) (v : Int64) : wPS := (pL S, pK S, pF S, pG S, va_up (pJ S) a v, pN S, pX S, pY S)
def setX (S : wPS) (a : Nat) (f : Nat → Int32) : wPS := (pL S, pK S, pF S, pG S, pJ S, pN S, va_up (pX S) a f, pY S)
def setY (S : wPS) (a : Nat) (f : Nat → Option Nat) : wPS := (pL S, pK S, pF S, pG S, pJ S, pN S, pX S, va_up (pY S) a f)
def newO (S : wPS) (a kd : Nat) : wPS := (pL S ++ [a], va_up (pK S) a kd, fun j => va_up (pF S j) a 0, fun j => va_up (pG S j) a none, va_up (pJ S) a 0, pN S, pX S, pY S)
def newA (S : wPS) (a kd n : Nat) : wPS := (pL S ++ [a], va_up (pK S) a kd, pF S, pG S, pJ S, va_up (pN S) a n, va_up (pX S) a (fun _ => 0), va_up (pY S) a (fun _ => none))
abbrev kG : Type := (Nat → ClassId) × (Nat → Nat → Nat) × (Nat → ClassId)
abbrev kD (g : kG) : va_G := (g.1, g.2.1)
abbrev kT (g : kG) : List (ClassId × FieldType) := [(g.2.2 0, .char), (g.2.2 1, .int), (g.2.2 2, .boolean), (g.2.2 3, .object RX0), (g.2.2 4, .object RX3), (g.2.2 5, .object "java/lang/Object"), (g.2.2 6, .long), (g.2.2 7, .double)]
def kF (g : kG) (S : wPS) : Nat → va_E := fun a =>
  if pK S a = 0 then .inr (1, [.int (pF S 0 a), .int (pF S 1 a), .int (pF S 2 a)])
  else if pK S a = 1 then .inr (2, [va_rf (pG S 10 a), .int (pF S 11 a), .int (pF S 12 a), .int (pF S 13 a), .int (pF S 14 a)])
  else if pK S a = 2 then .inr (3, [.int (pF S 20 a), va_rf (pG S 21 a), .int (pF S 22 a), .int (pF S 23 a), .int (pF S 24 a), .int (pF S 25 a)])
  else if pK S a = 3 then .inr (4, [va_rf (pG S 30 a), .int (pF S 31 a), .int (pF S 32 a)])
  else if pK S a = 4 then .inr (5, [va_rf (pG S 40 a), va_rf (pG S 41 a), .int (pF S 42 a)])
  else if pK S a = 5 then .inr (6, [va_rf (pG S 50 a), va_rf (pG S 51 a), va_rf (pG S 52 a), va_rf (pG S 53 a), va_rf (pG S 54 a), va_rf (pG S 55 a), .int (pF S 56 a), .int (pF S 57 a), .int (pF S 58 a), .long (pJ S a)])
  else if pK S a = 7 then .inr (0, [.int (pF S 70 a), va_rf (pG S 71 a), .int (pF S 72 a)])
  else if pK S a = 8 then .inl (g.2.2 0, pN S a, .inl (pX S a))
  else if pK S a = 9 then .inl (g.2.2 1, pN S a, .inl (pX S a))
  else if pK S a = 10 then .inl (g.2.2 2, pN S a, .inl (pX S a))
  else if pK S a = 11 then .inl (g.2.2 3, pN S a, .inr (.inr (.inr (.inr (pY S a)))))
  else if pK S a = 12 then .inl (g.2.2 4, pN S a, .inr (.inr (.inr (.inr (pY S a)))))
  else .inl (g.2.2 5, pN S a, .inr (.inr (.inr (.inr (pY S a)))))
def kW (g : kG) (S : wPS) : va_W := [] ++ va_pl (pL S) (kF g S)
/-- a thing of kind k in the pool -/
def Ob (S : wPS) (k a : Nat) : Prop := a ∈ pL S ∧ pK S a = k
theorem kF_congr {g : kG} {S T : wPS} {b : Nat} (hK : pK T b = pK S b) (hF : ∀ j, pF T j b = pF S j b) (hG : ∀ j, pG T j b = pG S j b) (hJ : pJ T b = pJ S b) (hN : pN T b = pN S b) (hX : pX T b = pX S b) (hY : pY T b = pY S b) : kF g T b = kF g S b := by
  unfold kF
  rw [hK, hJ, hN, hX, hY]
  simp only [hF, hG]
theorem va_up_at {α : Type} (f : Nat → α) {k j : Nat} (v : α) (h : j = k) : va_up f k v j = v := by rw [h]; exact va_up_self f k v
theorem uF_ne {S : wPS} {k a b : Nat} {v : Int32} (hb : b ≠ a) (j : Nat) : pF (setF S k a v) j b = pF S j b := by
  show va_up (pF S) k (va_up (pF S k) a v) j b = pF S j b
  by_cases hj : j = k
  · rw [va_up_at _ _ hj, va_up_ne _ _ hb, hj]
  · rw [va_up_ne _ _ hj]
theorem uG_ne {S : wPS} {k a b : Nat} {v : Option Nat} (hb : b ≠ a) (j : Nat) : pG (setG S k a v) j b = pG S j b := by
  show va_up (pG S) k (va_up (pG S k) a v) j b = pG S j b
  by_cases hj : j = k
  · rw [va_up_at _ _ hj, va_up_ne _ _ hb, hj]
  · rw [va_up_ne _ _ hj]
theorem uF_at {S : wPS} {k a : Nat} {v : Int32} : pF (setF S k a v) k a = v := by
  show va_up (pF S) k (va_up (pF S k) a v) k a = v
  rw [va_up_self, va_up_self]
theorem uG_at {S : wPS} {k a : Nat} {v : Option Nat} : pG (setG S k a v) k a = v := by
  show va_up (pG S) k (va_up (pG S k) a v) k a = v
  rw [va_up_self, va_up_self]
theorem uF_of {S : wPS} {k a j b : Nat} {v : Int32} (h : j ≠ k ∨ b ≠ a) : pF (setF S k a v) j b = pF S j b := by
  by_cases hb : b = a
  · rcases h with h | h
    · show va_up (pF S) k (va_up (pF S k) a v) j b = pF S j b
      rw [va_up_ne _ _ h]
    · exact absurd hb h
  · exact uF_ne hb j
theorem uG_of {S : wPS} {k a j b : Nat} {v : Option Nat} (h : j ≠ k ∨ b ≠ a) : pG (setG S k a v) j b = pG S j b := by
  by_cases hb : b = a
  · rcases h with h | h
    · show va_up (pG S) k (va_up (pG S k) a v) j b = pG S j b
      rw [va_up_ne _ _ h]
    · exact absurd hb h
  · exact uG_ne hb j
theorem kF_F {g : kG} {S : wPS} {k a b : Nat} {v : Int32} (hb : b ≠ a) : kF g (setF S k a v) b = kF g S b := kF_congr rfl (uF_ne hb) (fun _ => rfl) rfl rfl rfl rfl
theorem kF_G {g : kG} {S : wPS} {k a b : Nat} {v : Option Nat} (hb : b ≠ a) : kF g (setG S k a v) b = kF g S b := kF_congr rfl (fun _ => rfl) (uG_ne hb) rfl rfl rfl rfl
theorem kF_J {g : kG} {S : wPS} {a b : Nat} {v : Int64} (hb : b ≠ a) : kF g (setJ S a v) b = kF g S b := kF_congr rfl (fun _ => rfl) (fun _ => rfl) (va_up_ne _ _ hb) rfl rfl rfl
theorem kF_X {g : kG} {S : wPS} {a b : Nat} {v : Nat → Int32} (hb : b ≠ a) : kF g (setX S a v) b = kF g S b := kF_congr rfl (fun _ => rfl) (fun _ => rfl) rfl rfl (va_up_ne _ _ hb) rfl
theorem kF_Y {g : kG} {S : wPS} {a b : Nat} {v : Nat → Option Nat} (hb : b ≠ a) : kF g (setY S a v) b = kF g S b := kF_congr rfl (fun _ => rfl) (fun _ => rfl) rfl rfl rfl (va_up_ne _ _ hb)
theorem kF_O {g : kG} {S : wPS} {a b kd : Nat} (hb : b ≠ a) : kF g (newO S a kd) b = kF g S b := kF_congr (va_up_ne _ _ hb) (fun _ => va_up_ne _ _ hb) (fun _ => va_up_ne _ _ hb) (va_up_ne _ _ hb) rfl rfl rfl
theorem kF_A {g : kG} {S : wPS} {a b kd n : Nat} (hb : b ≠ a) : kF g (newA S a kd n) b = kF g S b := kF_congr (va_up_ne _ _ hb) (fun _ => rfl) (fun _ => rfl) rfl (va_up_ne _ _ hb) (va_up_ne _ _ hb) (va_up_ne _ _ hb)
/-- a write at a, seen in the world -/
theorem kW_set {g : kG} {S T : wPS} {A : Nat → Prop} {a k : Nat} {x : va_E} (hD : va_D A (kW g S)) (hL : a ∈ pL S) (hk : (kW g S)[k]? = some (a, kF g S a)) (h1 : pL T = pL S) (ha : kF g T a = x) (hb : ∀ b, b ≠ a → kF g T b = kF g S b) : (kW g S).set k (a, x) = kW g T := by
  unfold kW at hD hk ⊢
  rw [va_pl_set hD hL hk, h1]
  refine congrArg (fun l => [] ++ l) (va_pl_congr fun b => ?_)
  by_cases e : b = a
  · rw [e, va_up_self, ha]
  · rw [va_up_ne _ _ e, hb b e]
theorem kW_push {g : kG} {S T : wPS} {a : Nat} {x : va_E} (hL : a ∉ pL S) (h1 : pL T = pL S ++ [a]) (ha : kF g T a = x) (hb : ∀ b, b ≠ a → kF g T b = kF g S b) : kW g S ++ [(a, x)] = kW g T := by
  unfold kW
  rw [List.append_assoc, va_pl_push hL, h1]
  refine congrArg (fun l => [] ++ l) (va_pl_congr fun b => ?_)
  by_cases e : b = a
  · rw [e, va_up_self, ha]
  · rw [va_up_ne _ _ e, hb b e]
theorem kW_get {g : kG} {S : wPS} {a : Nat} (hL : a ∈ pL S) : ∃ k : Nat, (kW g S)[k]? = some (a, kF g S a) := va_pl_get (X := []) (f := kF g S) hL
/-! The base of this proof: the pool's world, what a start gives, contracts that return or throw, calls, ends. -/
def kEx (U : State) : Prop := va_Nw (.declares ⟨"java/lang/RuntimeException", "<init>", "(Ljava/lang/String;)V"⟩) U ∧ va_Nw (.declares ⟨"java/lang/Exception", "<init>", "(Ljava/lang/String;)V"⟩) U ∧ va_Nw (.declares ⟨"java/lang/Throwable", "<init>", "(Ljava/lang/String;)V"⟩) U ∧ ∀ E ∈ k_exs, va_Nw (.castable E E) U
theorem kEx.warm {s U : State} (hW : s.WarmedH U.vm) (h : kEx s) : kEx U := ⟨h.1.warmD hW, h.2.1.warmD hW, h.2.2.1.warmD hW, fun E hE => (h.2.2.2 E hE).warmC hW⟩
theorem kEx.same {u U : State} (hv : U.vm = u.vm) (h : kEx u) : kEx U := ⟨va_tabs rfl hv.symm h.1, va_tabs rfl hv.symm h.2.1, va_tabs rfl hv.symm h.2.2.1, fun E hE => va_tabs rfl hv.symm (h.2.2.2 E hE)⟩
/-- what the start gives that no class of ours changes: words of the tables that are no good words -/
def kEv (g : kG) (U : State) : Prop := (∀ q ∈ k_texts, ∃ sa : Nat, vk_R RX5 q.1 q.2 sa U) ∧ va_AO RX0 U ∧ va_AO RX3 U ∧ va_AO "java/lang/Object" U ∧ va_Mi "[Ljava/lang/Object;" (g.2.2 9) U ∧ va_Dc U ∧ va_Nw (.castable RX1 "java/lang/Object") U ∧ va_Nw (.castable RX2 "java/lang/Object") U ∧ va_Nw (.methodLinkNest RX5 28 yX3_init RX5) U ∧ kEx U
theorem kEv.warm {g : kG} {s U : State} (hW : s.WarmedH U.vm) (h : kEv g s) : kEv g U := by
  obtain ⟨h1, h2, h3, h4, h5, h6, h7, h8, h9, h10⟩ := h
  exact ⟨fun q hq => (h1 q hq).elim fun sa k => ⟨sa, k.warm hW⟩, h2.moved hW.alike, h3.moved hW.alike, h4.moved hW.alike, h5.moved hW.alike, h6.moved hW.alike, h7.warmC hW, h8.warmC hW, h9.warmM hW, h10.warm hW⟩
theorem kEv.same {g : kG} {u U : State} (hv : U.vm = u.vm) (h : kEv g u) : kEv g U := by
  have ha : u.vm.Alike U.vm := by rw [hv]; exact Vm.Alike.refl _
  obtain ⟨h1, h2, h3, h4, h5, h6, h7, h8, h9, h10⟩ := h
  exact ⟨fun q hq => (h1 q hq).elim fun sa k => ⟨sa, k.same hv⟩, h2.moved ha, h3.moved ha, h4.moved ha, h5.moved ha, h6.moved ha, va_tabs rfl hv.symm h7, va_tabs rfl hv.symm h8, va_tabs rfl hv.symm h9, h10.same hv⟩
/-- .. and what the heap holds that none of ours writes: the empty row of lists, two statics of Throwable -/
def kEn (g : kG) (e0 : Nat) (A : Nat → Prop) (U : State) (H : Heap) : Prop :=
  va_Z RJx4a65c "DEFAULTCAPACITY_EMPTY_ELEMENTDATA" "[Ljava/lang/Object;" (.ref e0) A U H ∧ va_T (.object "java/lang/Object") e0 0 (fun _ => .null) A U H ∧ vx_Zq Bundle.tN "UNASSIGNED_STACK" Bundle.steD A U H ∧ vx_Zq Bundle.tN "SUPPRESSED_SENTINEL" Bundle.listD A U H ∧ kEv g U
theorem kEn.moved {g : kG} {e0 : Nat} {A B : Nat → Prop} {u U : State} {H H1 : Heap} (hW : u.WarmedH U.vm) (hq : ∀ a : Nat, a < H.size → ¬ A a → H1[a]? = H[a]?) (hAB : ∀ q, B q → A q) (h : kEn g e0 A u H) : kEn g e0 B U H1 := by
  obtain ⟨h1, h2, h3, h4, h5⟩ := h
  exact ⟨((h1.moved hW.alike).kept hq).narrow hAB, ((h2.moved hW.alike).kept hq).narrow hAB, ((h3.moved hW.alike).kept hq).narrow hAB, ((h4.moved hW.alike).kept hq).narrow hAB, h5.warm hW⟩
theorem kEn.same {g : kG} {e0 : Nat} {A : Nat → Prop} {u U : State} {H : Heap} (hv : U.vm = u.vm) (h : kEn g e0 A u H) : kEn g e0 A U H := by
  have ha : u.vm.Alike U.vm := by rw [hv]; exact Vm.Alike.refl _
  obtain ⟨h1, h2, h3, h4, h5⟩ := h
  exact ⟨h1.moved ha, h2.moved ha, h3.moved ha, h4.moved ha, h5.same hv⟩
def kA (L : List Nat) (sz : Nat) : Nat → Prop := fun q => q ∈ L ∨ sz ≤ q
def kPre (g : kG) (e0 : Nat) (S : wPS) (sz : Nat) (U : State) : Prop := U.heap.size = sz ∧ va_P (kD g) vwCl (kW g S) U.heap ∧ va_K (kD g) vwCl (kT g) U ∧ va_D (kA (pL S) sz) (kW g S) ∧ kEn g e0 (kA (pL S) sz) U U.heap
def kQ (g : kG) (S : wPS) (sz : Nat) (post : Option Value → wPS → Prop) : Array Value → State → Outcome → State → Prop := fun _ st oc t => (∃ (v : Option Value) (S1 : wPS), oc = .returned v ∧ post v S1 ∧ va_P (kD g) vwCl (kW g S1) t.heap ∧ va_D (kA (pL S) sz) (kW g S1)) ∧ va_F (kA (pL S) sz) st t
def kX (g : kG) (S : wPS) (sz : Nat) (Ex : String → Prop) : String → State → State → Prop := fun E st t => Ex E ∧ va_P (kD g) vwCl (kW g S) t.heap ∧ va_F (kA (pL S) sz) st t
/-- the contract of a method of the class: from the pool S it returns with 'post answer S1', or throws one of Ex with the pool as it was -/
def kM (l : Launch) (g : kG) (e0 : Nat) (y : MethodName) (cY : ByteArray) (mY : Nat) (rY : Option FieldType) (fr lo mc ms : Nat) (As : List Value) (S : wPS) (sz : Nat) (post : Option Value → wPS → Prop) (Ex : String → Prop) : Prop :=
  vx_Met l y (.code y cY mY rY :: wsL_law) ({ frames := fr, cells := mc, slots := ms, locals := lo }) (va_Pc As (kPre g e0 S sz)) (kQ g S sz post) (kX g S sz Ex) mc ms (kA (pL S) sz)
def pI (po : Int32 → wPS → Prop) : Option Value → wPS → Prop := fun v T => ∃ r : Int32, v = some (.int r) ∧ po r T
def pR (po : Nat → wPS → Prop) : Option Value → wPS → Prop := fun v T => ∃ b : Nat, v = some (.ref b) ∧ po b T
def pU (po : wPS → Prop) : Option Value → wPS → Prop := fun v T => v = none ∧ po T
def pLo (po : Int64 → wPS → Prop) : Option Value → wPS → Prop := fun v T => ∃ r : Int64, v = some (.long r) ∧ po r T
def pFl (po : UInt32 → wPS → Prop) : Option Value → wPS → Prop := fun v T => ∃ r : UInt32, v = some (.float r) ∧ po r T
/-- the contract of a constructor: it returns -/
def kC (l : Launch) (g : kG) (e0 : Nat) (y : MethodName) (cY : ByteArray) (mY : Nat) (fr lo mc ms : Nat) (As : List Value) (S : wPS) (sz : Nat) (post : wPS → Prop) : Prop :=
  Met l y (.code y cY mY none :: wsL_law) ({ frames := fr, cells := mc, slots := ms, locals := lo }) (va_Pc As (kPre g e0 S sz)) (kQ g S sz (pU post)) mc ms (kA (pL S) sz)
theorem kD_sub {g : kG} {S : wPS} {A : Nat → Prop} {sz : Nat} (hD : va_D A (kW g S)) : va_D (kA (pL S) sz) (kW g S) := by
  refine ⟨hD.1, fun k q hk => Or.inl ?_⟩
  have h := List.mem_of_getElem? hk
  simp only [kW, va_pl, List.nil_append, List.mem_map] at h
  obtain ⟨a, ha, he⟩ := h
  rw [← he]
  exact ha
theorem kD_in {g : kG} {S : wPS} {A : Nat → Prop} (hD : va_D A (kW g S)) {a : Nat} (h : a ∈ (pL S)) : A a := by
  obtain ⟨k, hk⟩ := kW_get (g := g) h
  exact hD.2 k _ hk
theorem kP_lt {g : kG} {S : wPS} {H : Heap} (hP : va_P (kD g) vwCl (kW g S) H) {a : Nat} (h : a ∈ (pL S)) : a < H.size := va_pl_lt (X := []) hP h
theorem wsL_law_good : ∀ w ∈ wsL_law, (w.onTables && w.keeps) = true ∨ ∃ ty, w = .arrayClass ty := fun w h => good_of_word (List.all_eq_true.mp (show wsL_law.all goodWord = true by decide +kernel) w h)
theorem kGood {y : MethodName} {cY : ByteArray} {mY : Nat} {rY : Option FieldType} (h : Cond.code y cY mY rY ∈ wsL_law) : GoodIn wsL_law (.code y cY mY rY :: wsL_law) := fun w hw => (List.mem_cons.mp hw).elim (fun e => by rw [e]; exact ⟨h, wsL_law_good _ h⟩) (fun h => ⟨h, wsL_law_good _ h⟩)
section KB
variable {p : Program} {l : Launch} {e : Env} {R : Room} {s : State} {m : MethodId} {args : Array Value} {below : List Frame} {meth : Method} {c : Code} {H : Heap} {locs : List Loc} {cells slots : Nat} {Q : State → Prop} {pc : Nat} {ls : Array Slot} {st0 rest : List Value} {cc : ByteArray} {nL : Nat} {own : String} {g : kG} {S : wPS} {A : Nat → Prop} {e0 : Nat}
/-- what stands at the entry of a method's body -/
def kB (p : Program) (l : Launch) (s : State) (m : MethodId) (args : Array Value) (meth : Method) (c : Code) (ls : Array Slot) (own : String) (cc : ByteArray) (nL : Nat) (rY : Option FieldType) (g : kG) (e0 : Nat) (S : wPS) (A : Nat → Prop) (lv : List (Nat × Value)) (sz : Nat) : Prop :=
  CallFix p m c cc nL s args wsL_law own ∧ meth.sig.returnType = rY ∧ meth.locks = false ∧ (∀ x ∈ c.exceptionTable.toList, False) ∧ va_P (kD g) vwCl (kW g S) s.heap ∧ va_K (kD g) vwCl (kT g) s ∧ va_D A (kW g S) ∧ kEn g e0 A s s.heap ∧ va_S A s.heap s.heap [] ∧ (∀ q : Nat, s.heap.size ≤ q → A q) ∧ lv_has ls nL lv ∧ s.heap.size = sz
theorem kM.of {y : MethodName} {cY : ByteArray} {mY : Nat} {rY : Option FieldType} {fr lo mc ms : Nat} {As : List Value} {sz : Nat} {post : Option Value → wPS → Prop} {Ex : String → Prop} (hy : plainName y.cls = true) (hlen : (lg_sl As).length ≤ mY)
    (body : ∀ (p : Program) (e : Env) (s : State) (m : MethodId) (below : List Frame) (meth : Method) (c : Code) (ls : Array Slot), kB p l s m As.toArray meth c ls y.cls cY mY rY g e0 S (kA (pL S) sz) (lv_args 0 As) sz → (y.name = "<init>" → meth.name = "<init>") →
      W p l e ({ frames := fr, cells := mc, slots := ms, locals := lo }) s m As.toArray below meth c s.heap [] 0 0 (vx_MQ below (kQ g S sz post) (kX g S sz Ex) As.toArray s mc ms (kA (pL S) sz)) (F0 m 0 ls [])) : kM l g e0 y cY mY rY fr lo mc ms As S sz post Ex := by
  refine vx_ofW (cc := cY) (maxL := mY) (ret := rY) hy rfl ?_
  intro p e s m args below meth c s₁ B hml hte hv
  obtain ⟨rfl, hsz, hP, hK, hD, hE⟩ := hv
  have hts := atoms_spec (ws := .code y cY mY rY :: wsL_law) B.pre
  have hl := lv_entry As hlen
  rw [lg_entry_eq]
  generalize (lg_sl As ++ List.replicate (mY - (lg_sl As).length) Slot.unset).toArray = ls at hl ⊢
  exact body p e s m below meth c ls ⟨⟨B.exec, B.bytes, hml, findClass_of_methodNamed B.named, fun w h => hts w (List.mem_cons_of_mem _ h)⟩, B.returns, B.notSynchronized, hte, hP, hK, hD, hE, va_S.rf, fun q h => Or.inr (by rw [← hsz]; exact h), hl, hsz⟩ (fun h => by rw [← h]; exact (name_of_methodNamed B.named B.method).1)
theorem kC.of {y : MethodName} {cY : ByteArray} {mY : Nat} {fr lo mc ms : Nat} {As : List Value} {sz : Nat} {post : wPS → Prop} (hy : plainName y.cls = true) (hlen : (lg_sl As).length ≤ mY) (hin : y.name = "<init>")
    (body : ∀ (p : Program) (e : Env) (s : State) (m : MethodId) (below : List Frame) (meth : Method) (c : Code) (ls : Array Slot), kB p l s m As.toArray meth c ls y.cls cY mY none g e0 S (kA (pL S) sz) (lv_args 0 As) sz → meth.name = "<init>" →
      W p l e ({ frames := fr, cells := mc, slots := ms, locals := lo }) s m As.toArray below meth c s.heap [] 0 0 (MQ below (kQ g S sz (pU post)) As.toArray s mc ms (kA (pL S) sz)) (F0 m 0 ls [])) : kC l g e0 y cY mY fr lo mc ms As S sz post := by
  refine Met.ofW (cc := cY) (maxL := mY) (ret := none) hy rfl ?_
  intro p e s m args below meth c s₁ B hml hv
  obtain ⟨rfl, hsz, hP, hK, hD, hE⟩ := hv
  have hts := atoms_spec (ws := .code y cY mY none :: wsL_law) B.pre
  have hte : ∀ x ∈ c.exceptionTable.toList, False := by
    obtain ⟨meth9, c9, h1, h2, -, -, -, -, h7, -⟩ := Cond.code_spec B.named (hts _ List.mem_cons_self)
    cases Option.some.inj (h1.symm.trans B.method)
    cases Option.some.inj (h2.symm.trans (Stand.of_body B).code)
    intro x hx
    rw [Array.isEmpty_iff.mp h7] at hx
    cases hx
  have hl := lv_entry As hlen
  rw [lg_entry_eq]
  generalize (lg_sl As ++ List.replicate (mY - (lg_sl As).length) Slot.unset).toArray = ls at hl ⊢
  exact body p e s m below meth c ls ⟨⟨B.exec, B.bytes, hml, findClass_of_methodNamed B.named, fun w h => hts w (List.mem_cons_of_mem _ h)⟩, B.returns, B.notSynchronized, hte, hP, hK, hD, hE, va_S.rf, fun q h => Or.inr (by rw [← hsz]; exact h), hl, hsz⟩ ((name_of_methodNamed B.named B.method).1.trans hin)
/-- what a call needs of the world here -/
theorem kPre.at (hE : kEn g e0 A s s.heap) (hK : va_K (kD g) vwCl (kT g) s) (hP : va_P (kD g) vwCl (kW g S) H) (hD : va_D A (kW g S)) (hS : va_S A s.heap H locs) (hA : ∀ q : Nat, s.heap.size ≤ q → A q) {U : State} (hU : U.heap = H) (hW : s.WarmedH U.vm) : kPre g e0 S H.size U := by
  refine ⟨by rw [hU], by rw [hU]; exact hP, hK.moved hW.alike, kD_sub hD, ?_⟩
  rw [hU]
  exact kEn.moved hW hS.2.1 (fun q hq => hq.elim (fun h => kD_in hD h) (fun h => hA q (Nat.le_trans hS.1 h))) hE
theorem kPre.blind {As : List Value} {sz : Nat} : FrameBlind (va_Pc As (kPre g e0 S sz)) := fun a U gf mk q => by
  obtain ⟨h0, h1, h2, h3, h4, h5⟩ := q
  exact ⟨h0, h1, h2, va_K.moved (u := U) (U := U.calling gf mk a) (Vm.Alike.refl U.vm) h3, h4, kEn.same (u := U) (U := U.calling gf mk a) rfl h5⟩
/-- behind a call: it returned, or it threw -/
theorem kcall {mc ms : Nat} {sz : Nat} {a : Array Value} {post : Option Value → wPS → Prop} {Ex : String → Prop}
    (hr : vx_Run p l e R s m args below meth c H locs cells slots mc ms (F0 m pc ls st0) rest (kQ g S sz post a) (kX g S sz Ex) (kA (pL S) sz)) (hsz : H.size = sz) (hD : va_D A (kW g S)) (hS : va_S A s.heap H locs) (hA : ∀ q : Nat, s.heap.size ≤ q → A q)
    (kx : ∀ (E : String) (ce : Cell) (q9 : Addr) (H1 : Heap) (locs1 : List Loc), Ex E → va_P (kD g) vwCl (kW g S) H1 → H.size ≤ H1.size → (∀ q : Nat, q < H.size → ¬ kA (pL S) H.size q → H1[q]? = H[q]?) → va_S A s.heap H1 locs1 → H1[q9]? = some ce → ce.vm = .none → s.vm.findClass E = some ce.cls → vx_W p l e R s m args below meth c H1 locs1 (cells + mc) (slots + ms) Q (F0 m pc ls rest) q9)
    (kk : ∀ (v : Option Value) (S1 : wPS) (H1 : Heap) (locs1 : List Loc), post v S1 → va_P (kD g) vwCl (kW g S1) H1 → va_D A (kW g S1) → H.size ≤ H1.size → (∀ q : Nat, q < H.size → ¬ kA (pL S) H.size q → H1[q]? = H[q]?) → va_S A s.heap H1 locs1 → W p l e R s m args below meth c H1 locs1 (cells + mc) (slots + ms) Q (F0 m (pc + 3) ls (v.toList ++ rest))) :
    W p l e R s m args below meth c H locs cells slots Q (F0 m pc ls st0) := by
  subst hsz
  have hsub : ∀ q, kA (pL S) H.size q → A q := fun q hq => hq.elim (fun h => kD_in hD h) (fun h => hA q (Nat.le_trans hS.1 h))
  intro T hT X
  rcases hr T hT X with ⟨v, st₀, t, T', L, h0, X', hL, e1, e2, ⟨⟨v1, S1, hv, hp, hP1, hD1⟩, hF⟩, st⟩ | ⟨q, st₀, t, T', L, E, ce, h0, X', hL, e1, e2, ⟨hex, hP1, hF⟩, hce, hcv, hcl, st⟩
  · cases hv
    obtain ⟨k1, k2, k3⟩ := vx_keep h0 e1 hS (fun q _ h => hsub q h) hsub hL hF
    obtain ⟨t2, a1, b1⟩ := kk v S1 T'.heap (locs ++ L) hp (by rw [e1]; exact hP1) (hD1.weaken fun _ _ _ h => hsub _ h) k1 k2 k3 T' rfl X'
    exact ⟨t2, st t2 a1, b1⟩
  · obtain ⟨k1, k2, k3⟩ := vx_keep h0 e1 hS (fun q _ h => hsub q h) hsub hL hF
    obtain ⟨t2, a1, b1⟩ := kx E ce q T'.heap (locs ++ L) hex (by rw [e1]; exact hP1) k1 k2 k3 (by rw [e1]; exact hce) hcv hcl T' rfl X'
    exact ⟨t2, st.trans a1, b1⟩
theorem kcallI {mc ms sz : Nat} {a : Array Value} {po : Int32 → wPS → Prop} {Ex : String → Prop}
    (hr : vx_Run p l e R s m args below meth c H locs cells slots mc ms (F0 m pc ls st0) rest (kQ g S sz (pI po) a) (kX g S sz Ex) (kA (pL S) sz)) (hsz : H.size = sz) (hD : va_D A (kW g S)) (hS : va_S A s.heap H locs) (hA : ∀ q : Nat, s.heap.size ≤ q → A q)
    (kx : ∀ (E : String) (ce : Cell) (q9 : Addr) (H1 : Heap) (locs1 : List Loc), Ex E → va_P (kD g) vwCl (kW g S) H1 → va_S A s.heap H1 locs1 → H1[q9]? = some ce → ce.vm = .none → s.vm.findClass E = some ce.cls → vx_W p l e R s m args below meth c H1 locs1 (cells + mc) (slots + ms) Q (F0 m pc ls rest) q9)
    (kk : ∀ (r : Int32) (S1 : wPS) (H1 : Heap) (locs1 : List Loc), po r S1 → va_P (kD g) vwCl (kW g S1) H1 → va_D A (kW g S1) → va_S A s.heap H1 locs1 → W p l e R s m args below meth c H1 locs1 (cells + mc) (slots + ms) Q (F0 m (pc + 3) ls (.int r :: rest))) :
    W p l e R s m args below meth c H locs cells slots Q (F0 m pc ls st0) :=
  kcall hr hsz hD hS hA (fun E ce q9 H1 locs1 h1 h2 _ _ h5 h6 h7 h8 => kx E ce q9 H1 locs1 h1 h2 h5 h6 h7 h8) (fun v S1 H1 locs1 hp h2 h3 _ _ h6 => by
    obtain ⟨r, rfl, hp⟩ := hp
    exact kk r S1 H1 locs1 hp h2 h3 h6)
theorem kcallR {mc ms sz : Nat} {a : Array Value} {po : Nat → wPS → Prop} {Ex : String → Prop}
    (hr : vx_Run p l e R s m args below meth c H locs cells slots mc ms (F0 m pc ls st0) rest (kQ g S sz (pR po) a) (kX g S sz Ex) (kA (pL S) sz)) (hsz : H.size = sz) (hD : va_D A (kW g S)) (hS : va_S A s.heap H locs) (hA : ∀ q : Nat, s.heap.size ≤ q → A q)
    (kx : ∀ (E : String) (ce : Cell) (q9 : Addr) (H1 : Heap) (locs1 : List Loc), Ex E → va_P (kD g) vwCl (kW g S) H1 → va_S A s.heap H1 locs1 → H1[q9]? = some ce → ce.vm = .none → s.vm.findClass E = some ce.cls → vx_W p l e R s m args below meth c H1 locs1 (cells + mc) (slots + ms) Q (F0 m pc ls rest) q9)
    (kk : ∀ (b : Nat) (S1 : wPS) (H1 : Heap) (locs1 : List Loc), po b S1 → va_P (kD g) vwCl (kW g S1) H1 → va_D A (kW g S1) → va_S A s.heap H1 locs1 → W p l e R s m args below meth c H1 locs1 (cells + mc) (slots + ms) Q (F0 m (pc + 3) ls (.ref b :: rest))) :
    W p l e R s m args below meth c H locs cells slots Q (F0 m pc ls st0) :=
  kcall hr hsz hD hS hA (fun E ce q9 H1 locs1 h1 h2 _ _ h5 h6 h7 h8 => kx E ce q9 H1 locs1 h1 h2 h5 h6 h7 h8) (fun v S1 H1 locs1 hp h2 h3 _ _ h6 => by
    obtain ⟨b, rfl, hp⟩ := hp
    exact kk b S1 H1 locs1 hp h2 h3 h6)
theorem kcallU {mc ms sz : Nat} {a : Array Value} {po : wPS → Prop} {Ex : String → Prop}
    (hr : vx_Run p l e R s m args below meth c H locs cells slots mc ms (F0 m pc ls st0) rest (kQ g S sz (pU po) a) (kX g S sz Ex) (kA (pL S) sz)) (hsz : H.size = sz) (hD : va_D A (kW g S)) (hS : va_S A s.heap H locs) (hA : ∀ q : Nat, s.heap.size ≤ q → A q)
    (kx : ∀ (E : String) (ce : Cell) (q9 : Addr) (H1 : Heap) (locs1 : List Loc), Ex E → va_P (kD g) vwCl (kW g S) H1 → va_S A s.heap H1 locs1 → H1[q9]? = some ce → ce.vm = .none → s.vm.findClass E = some ce.cls → vx_W p l e R s m args below meth c H1 locs1 (cells + mc) (slots + ms) Q (F0 m pc ls rest) q9)
    (kk : ∀ (S1 : wPS) (H1 : Heap) (locs1 : List Loc), po S1 → va_P (kD g) vwCl (kW g S1) H1 → va_D A (kW g S1) → va_S A s.heap H1 locs1 → W p l e R s m args below meth c H1 locs1 (cells + mc) (slots + ms) Q (F0 m (pc + 3) ls (rest))) :
    W p l e R s m args below meth c H locs cells slots Q (F0 m pc ls st0) :=
  kcall hr hsz hD hS hA (fun E ce q9 H1 locs1 h1 h2 _ _ h5 h6 h7 h8 => kx E ce q9 H1 locs1 h1 h2 h5 h6 h7 h8) (fun v S1 H1 locs1 hp h2 h3 _ _ h6 => by
    obtain ⟨rfl, hp⟩ := hp
    exact kk S1 H1 locs1 hp h2 h3 h6)
theorem kcallL {mc ms sz : Nat} {a : Array Value} {po : Int64 → wPS → Prop} {Ex : String → Prop}
    (hr : vx_Run p l e R s m args below meth c H locs cells slots mc ms (F0 m pc ls st0) rest (kQ g S sz (pLo po) a) (kX g S sz Ex) (kA (pL S) sz)) (hsz : H.size = sz) (hD : va_D A (kW g S)) (hS : va_S A s.heap H locs) (hA : ∀ q : Nat, s.heap.size ≤ q → A q)
    (kx : ∀ (E : String) (ce : Cell) (q9 : Addr) (H1 : Heap) (locs1 : List Loc), Ex E → va_P (kD g) vwCl (kW g S) H1 → va_S A s.heap H1 locs1 → H1[q9]? = some ce → ce.vm = .none → s.vm.findClass E = some ce.cls → vx_W p l e R s m args below meth c H1 locs1 (cells + mc) (slots + ms) Q (F0 m pc ls rest) q9)
    (kk : ∀ (r : Int64) (S1 : wPS) (H1 : Heap) (locs1 : List Loc), po r S1 → va_P (kD g) vwCl (kW g S1) H1 → va_D A (kW g S1) → va_S A s.heap H1 locs1 → W p l e R s m args below meth c H1 locs1 (cells + mc) (slots + ms) Q (F0 m (pc + 3) ls (.long r :: rest))) :
    W p l e R s m args below meth c H locs cells slots Q (F0 m pc ls st0) :=
  kcall hr hsz hD hS hA (fun E ce q9 H1 locs1 h1 h2 _ _ h5 h6 h7 h8 => kx E ce q9 H1 locs1 h1 h2 h5 h6 h7 h8) (fun v S1 H1 locs1 hp h2 h3 _ _ h6 => by
    obtain ⟨r, rfl, hp⟩ := hp
    exact kk r S1 H1 locs1 hp h2 h3 h6)
theorem kcallF {mc ms sz : Nat} {a : Array Value} {po : UInt32 → wPS → Prop} {Ex : String → Prop}
    (hr : vx_Run p l e R s m args below meth c H locs cells slots mc ms (F0 m pc ls st0) rest (kQ g S sz (pFl po) a) (kX g S sz Ex) (kA (pL S) sz)) (hsz : H.size = sz) (hD : va_D A (kW g S)) (hS : va_S A s.heap H locs) (hA : ∀ q : Nat, s.heap.size ≤ q → A q)
    (kx : ∀ (E : String) (ce : Cell) (q9 : Addr) (H1 : Heap) (locs1 : List Loc), Ex E → va_P (kD g) vwCl (kW g S) H1 → va_S A s.heap H1 locs1 → H1[q9]? = some ce → ce.vm = .none → s.vm.findClass E = some ce.cls → vx_W p l e R s m args below meth c H1 locs1 (cells + mc) (slots + ms) Q (F0 m pc ls rest) q9)
    (kk : ∀ (r : UInt32) (S1 : wPS) (H1 : Heap) (locs1 : List Loc), po r S1 → va_P (kD g) vwCl (kW g S1) H1 → va_D A (kW g S1) → va_S A s.heap H1 locs1 → W p l e R s m args below meth c H1 locs1 (cells + mc) (slots + ms) Q (F0 m (pc + 3) ls (.float r :: rest))) :
    W p l e R s m args below meth c H locs cells slots Q (F0 m pc ls st0) :=
  kcall hr hsz hD hS hA (fun E ce q9 H1 locs1 h1 h2 _ _ h5 h6 h7 h8 => kx E ce q9 H1 locs1 h1 h2 h5 h6 h7 h8) (fun v S1 H1 locs1 hp h2 h3 _ _ h6 => by
    obtain ⟨r, rfl, hp⟩ := hp
    exact kk r S1 H1 locs1 hp h2 h3 h6)
section Calls
variable {y : MethodName} {cY : ByteArray} {mY : Nat} {rY : Option FieldType} {fr lo mc ms : Nat} {As : List Value} {post : Option Value → wPS → Prop} {Ex : String → Prop} {b : Nat} {C : String} {index n : Nat}
/-- invokevirtual: the run -/
theorem kV (F : CallFix p m c cc nL s args wsL_law own) (hE : kEn g e0 A s s.heap) (hK : va_K (kD g) vwCl (kT g) s) (hP : va_P (kD g) vwCl (kW g S) H) (hD : va_D A (kW g S)) (hS : va_S A s.heap H locs) (hA : ∀ q : Nat, s.heap.size ≤ q → A q)
    (hM : kM l g e0 y cY mY rY fr lo mc ms (.ref b :: As) S H.size post Ex) (hr : ∃ cell : Cell, H[b]? = some cell ∧ cell.vm.isStatics = false ∧ s.vm.findClass C = some cell.cls)
    (w1 : Cond.methodLink own index y ∈ wsL_law) (w2 : Cond.instanceMethod y ∈ wsL_law) (w3 : Cond.selects C y y ∈ wsL_law) (w4 : Cond.initialized C ∈ wsL_law) (w5 : Cond.code y cY mY rY ∈ wsL_law)
    (hd : y.cls = C ∧ y.cls ≠ "java/lang/invoke/MethodHandle" ∧ y.cls ≠ "java/lang/invoke/VarHandle" ∧ (parseMethodDescriptor y.desc).map (fun d => d.parameters.length) = some n)
    (hR : fr + 1 ≤ R.frames ∧ 8 + (mY + 11) + lo ≤ R.locals) (hn : As.length = n) (hls : ls.size = nL) (hst : st0 = As.reverse ++ .ref b :: rest) (hcat : (rest.map fun v => v.category).sum ≤ 8) (hdg : decode cc pc = .ok (.invokevirtual index, 3)) (hf : cells + mc ≤ R.cells ∧ slots + ms ≤ R.slots) :
    vx_Run p l e R s m args below meth c H locs cells slots mc ms (F0 m pc ls st0) rest (kQ g S H.size post (Value.ref b :: As).toArray) (kX g S H.size Ex) (kA (pL S) H.size) :=
  vx_runV (As := As) (rest := rest) F hM (cwV n F.2.2.2.2 (by
    intro w hw
    unfold wsV at hw
    rcases List.mem_append.mp hw with h | h
    · have : w ∈ wsL_law := by
        simp only [List.mem_cons, List.not_mem_nil, or_false] at h
        rcases h with h | h | h | h <;> rw [h] <;> assumption
      exact ⟨this, wsL_law_good _ this⟩
    · exact kGood w5 w h) rfl rfl rfl hd hR) ⟨kPre.blind, hr, fun U hU hW => ⟨rfl, kPre.at hE hK hP hD hS hA hU hW⟩⟩ rfl hn hls hst (lv_room hcat) hdg hf
/-- invokestatic: the run -/
theorem kSt (F : CallFix p m c cc nL s args wsL_law own) (hE : kEn g e0 A s s.heap) (hK : va_K (kD g) vwCl (kT g) s) (hP : va_P (kD g) vwCl (kW g S) H) (hD : va_D A (kW g S)) (hS : va_S A s.heap H locs) (hA : ∀ q : Nat, s.heap.size ≤ q → A q)
    (hM : kM l g e0 y cY mY rY fr lo mc ms As S H.size post Ex)
    (w1 : Cond.methodLink own index y ∈ wsL_law) (w2 : Cond.static y ∈ wsL_law) (w4 : Cond.initialized y.cls ∈ wsL_law) (w5 : Cond.code y cY mY rY ∈ wsL_law)
    (hd : y.cls ≠ "java/lang/invoke/MethodHandle" ∧ y.cls ≠ "java/lang/invoke/VarHandle" ∧ (parseMethodDescriptor y.desc).map (fun d => d.parameters.length) = some n)
    (hR : fr + 1 ≤ R.frames ∧ 8 + (mY + 11) + lo ≤ R.locals) (hn : As.length = n) (hls : ls.size = nL) (hst : st0 = As.reverse ++ rest) (hcat : (rest.map fun v => v.category).sum ≤ 8) (hdg : decode cc pc = .ok (.invokestatic index, 3)) (hf : cells + mc ≤ R.cells ∧ slots + ms ≤ R.slots) :
    vx_Run p l e R s m args below meth c H locs cells slots mc ms (F0 m pc ls st0) rest (kQ g S H.size post As.toArray) (kX g S H.size Ex) (kA (pL S) H.size) :=
  vx_runS (As := As) (rest := rest) F hM ⟨callB_of n F.2.2.2.2 (kGood w5) rfl rfl rfl (F.2.2.2.2 _ w4) (F.2.2.2.2 _ w1) hd hR, F.2.2.2.2 _ w2⟩ ⟨kPre.blind, fun U hU hW => ⟨rfl, kPre.at hE hK hP hD hS hA hU hW⟩⟩ rfl hn hls hst (lv_room hcat) hdg hf
/-- invokespecial <init>: the run -/
theorem kIn {postC : wPS → Prop} (F : CallFix p m c cc nL s args wsL_law own) (hE : kEn g e0 A s s.heap) (hK : va_K (kD g) vwCl (kT g) s) (hP : va_P (kD g) vwCl (kW g S) H) (hD : va_D A (kW g S)) (hS : va_S A s.heap H locs) (hA : ∀ q : Nat, s.heap.size ≤ q → A q)
    (hM : kC l g e0 y cY mY fr lo mc ms (.ref b :: As) S H.size postC)
    (w1 : Cond.methodLink own index y ∈ wsL_law) (w2 : Cond.instanceMethod y ∈ wsL_law) (w4 : Cond.initialized y.cls ∈ wsL_law) (w5 : Cond.code y cY mY none ∈ wsL_law) (hy1 : y.name = "<init>")
    (hd : y.cls ≠ "java/lang/invoke/MethodHandle" ∧ y.cls ≠ "java/lang/invoke/VarHandle" ∧ (parseMethodDescriptor y.desc).map (fun d => d.parameters.length) = some n)
    (hR : fr + 1 ≤ R.frames ∧ 8 + (mY + 11) + lo ≤ R.locals) (hn : As.length = n) (hls : ls.size = nL) (hst : st0 = As.reverse ++ .ref b :: rest) (hcat : (rest.map fun v => v.category).sum ≤ 8) (hdg : decode cc pc = .ok (.invokespecial index, 3)) (hf : cells + mc ≤ R.cells ∧ slots + ms ≤ R.slots) :
    vx_Run p l e R s m args below meth c H locs cells slots mc ms (F0 m pc ls st0) rest (kQ g S H.size (pU postC) (Value.ref b :: As).toArray) (kX g S H.size (fun _ => False)) (kA (pL S) H.size) :=
  fun T hT X => Or.inl (va_runI (As := As) (rest := rest) F hM ⟨callB_of n F.2.2.2.2 (kGood w5) rfl rfl rfl (F.2.2.2.2 _ w4) (F.2.2.2.2 _ w1) hd hR, hy1, F.2.2.2.2 _ w2⟩ ⟨kPre.blind, fun U hU hW => ⟨rfl, kPre.at hE hK hP hD hS hA hU hW⟩⟩ rfl hn hls hst (lv_room hcat) hdg hf T hT X)
/-- .. of a private constructor of a nest mate -/
theorem kInN {host : String} {postC : wPS → Prop} (F : CallFix p m c cc nL s args wsL_law own) (hE : kEn g e0 A s s.heap) (hK : va_K (kD g) vwCl (kT g) s) (hP : va_P (kD g) vwCl (kW g S) H) (hD : va_D A (kW g S)) (hS : va_S A s.heap H locs) (hA : ∀ q : Nat, s.heap.size ≤ q → A q)
    (hM : kC l g e0 y cY mY fr lo mc ms (.ref b :: As) S H.size postC)
    (w1 : va_Nw (.methodLinkNest own index y host) s) (w2 : Cond.instanceMethod y ∈ wsL_law) (w4 : Cond.initialized y.cls ∈ wsL_law) (w5 : Cond.code y cY mY none ∈ wsL_law) (hy1 : y.name = "<init>")
    (hd : y.cls ≠ "java/lang/invoke/MethodHandle" ∧ y.cls ≠ "java/lang/invoke/VarHandle" ∧ (parseMethodDescriptor y.desc).map (fun d => d.parameters.length) = some n)
    (hR : fr + 1 ≤ R.frames ∧ 8 + (mY + 11) + lo ≤ R.locals) (hn : As.length = n) (hls : ls.size = nL) (hst : st0 = As.reverse ++ .ref b :: rest) (hcat : (rest.map fun v => v.category).sum ≤ 8) (hdg : decode cc pc = .ok (.invokespecial index, 3)) (hf : cells + mc ≤ R.cells ∧ slots + ms ≤ R.slots) :
    vx_Run p l e R s m args below meth c H locs cells slots mc ms (F0 m pc ls st0) rest (kQ g S H.size (pU postC) (Value.ref b :: As).toArray) (kX g S H.size (fun _ => False)) (kA (pL S) H.size) :=
  fun T hT X => Or.inl (va_runIN (As := As) (rest := rest) F hM ⟨va_cnB n F.2.2.2.2 (kGood w5) rfl rfl rfl w1 (F.2.2.2.2 _ w4) hd hR, hy1, F.2.2.2.2 _ w2⟩ ⟨kPre.blind, fun U hU hW => ⟨rfl, kPre.at hE hK hP hD hS hA hU hW⟩⟩ rfl hn hls hst (lv_room hcat) hdg hf T hT X)
end Calls
/-- an exception goes through: the pool is as it was at the start -/
theorem kthru {S0 : wPS} {sz0 mc0 ms0 : Nat} {post0 : Option Value → wPS → Prop} {Ex0 : String → Prop} {E : String} {ce : Cell} {q9 : Addr} (hte : ∀ x ∈ c.exceptionTable.toList, False) (hlk : meth.locks = false) (hex : Ex0 E) (hP : va_P (kD g) vwCl (kW g S0) H) (hS : va_S (kA (pL S0) sz0) s.heap H locs) (hce : H[q9]? = some ce) (hcv : ce.vm = .none) (hcl : s.vm.findClass E = some ce.cls) (hc : cells ≤ mc0) (hs : slots ≤ ms0) :
    vx_W p l e R s m args below meth c H locs cells slots (vx_MQ below (kQ g S0 sz0 post0) (kX g S0 sz0 Ex0) args s mc0 ms0 (kA (pL S0) sz0)) (F0 m pc ls rest) q9 :=
  vx_out (fun x hx => (hte x hx).elim) hlk hce hcv hcl (fun t ht _ => ⟨hex, by rw [ht]; exact hP, hS.F ht⟩) hS.2.2 hc hs
section Ends
variable {S0 : wPS} {sz0 mc0 ms0 : Nat} {post0 : Option Value → wPS → Prop} {Ex0 : String → Prop}
theorem kEndI {v : Int32} (F : CallFix p m c cc nL s args wsL_law own) {ty : FieldType} (hr : meth.sig.returnType = some ty) (hn : narrow ty (.int v) = .int v) (hlk : meth.locks = false) (hP : va_P (kD g) vwCl (kW g S) H) (hD : va_D (kA (pL S0) sz0) (kW g S)) (hS : va_S (kA (pL S0) sz0) s.heap H locs) (hc : cells ≤ mc0) (hs : slots ≤ ms0) (hdg : decode cc pc = .ok (.ireturn, 1)) (hp : post0 (some (.int v)) S) :
    W p l e R s m args below meth c H locs cells slots (vx_MQ below (kQ g S0 sz0 post0) (kX g S0 sz0 Ex0) args s mc0 ms0 (kA (pL S0) sz0)) (F0 m pc ls [.int v]) :=
  W.widen hc hs (vx_ret (W.zret F.1 F.2.1 hr hn (fun t ht _ => ⟨⟨_, S, rfl, hp, by rw [ht]; exact hP, hD⟩, hS.F ht⟩) hS.2.2 hdg hlk))
theorem kEndV (F : CallFix p m c cc nL s args wsL_law own) (hr : meth.sig.returnType = none) (hlk : meth.locks = false) (hP : va_P (kD g) vwCl (kW g S) H) (hD : va_D (kA (pL S0) sz0) (kW g S)) (hS : va_S (kA (pL S0) sz0) s.heap H locs) (hc : cells ≤ mc0) (hs : slots ≤ ms0) (hdg : decode cc pc = .ok (.return_, 1)) (hp : post0 none S) :
    W p l e R s m args below meth c H locs cells slots (vx_MQ below (kQ g S0 sz0 post0) (kX g S0 sz0 Ex0) args s mc0 ms0 (kA (pL S0) sz0)) (F0 m pc ls []) :=
  W.widen hc hs (vx_ret (W.vret F.1 F.2.1 hr (fun t ht _ => ⟨⟨_, S, rfl, hp, by rw [ht]; exact hP, hD⟩, hS.F ht⟩) hS.2.2 hdg hlk))
theorem kEndR {v : Value} {rt : FieldType} (F : CallFix p m c cc nL s args wsL_law own) (hr : meth.sig.returnType = some rt) (hrt : (∃ n, rt = .object n) ∨ ∃ t, rt = .array t) (hv : v = .null ∨ ∃ a, v = .ref a) (hlk : meth.locks = false) (hP : va_P (kD g) vwCl (kW g S) H) (hD : va_D (kA (pL S0) sz0) (kW g S)) (hS : va_S (kA (pL S0) sz0) s.heap H locs) (hc : cells ≤ mc0) (hs : slots ≤ ms0) (hdg : decode cc pc = .ok (.areturn, 1)) (hp : post0 (some v) S) :
    W p l e R s m args below meth c H locs cells slots (vx_MQ below (kQ g S0 sz0 post0) (kX g S0 sz0 Ex0) args s mc0 ms0 (kA (pL S0) sz0)) (F0 m pc ls [v]) :=
  W.widen hc hs (vx_ret (W.aret F.1 F.2.1 hr hrt hv (fun t ht _ => ⟨⟨_, S, rfl, hp, by rw [ht]; exact hP, hD⟩, hS.F ht⟩) hS.2.2 hdg hlk))
theorem kEndL {v : Int64} (F : CallFix p m c cc nL s args wsL_law own) (hr : meth.sig.returnType = some .long) (hlk : meth.locks = false) (hP : va_P (kD g) vwCl (kW g S) H) (hD : va_D (kA (pL S0) sz0) (kW g S)) (hS : va_S (kA (pL S0) sz0) s.heap H locs) (hc : cells ≤ mc0) (hs : slots ≤ ms0) (hdg : decode cc pc = .ok (.lreturn, 1)) (hp : post0 (some (.long v)) S) :
    W p l e R s m args below meth c H locs cells slots (vx_MQ below (kQ g S0 sz0 post0) (kX g S0 sz0 Ex0) args s mc0 ms0 (kA (pL S0) sz0)) (F0 m pc ls [.long v]) :=
  W.widen hc hs (vx_ret (W.lret F.1 F.2.1 hr (fun t ht _ => ⟨⟨_, S, rfl, hp, by rw [ht]; exact hP, hD⟩, hS.F ht⟩) hS.2.2 hdg hlk))
theorem kEndF {v : UInt32} (F : CallFix p m c cc nL s args wsL_law own) (hr : meth.sig.returnType = some .float) (hlk : meth.locks = false) (hP : va_P (kD g) vwCl (kW g S) H) (hD : va_D (kA (pL S0) sz0) (kW g S)) (hS : va_S (kA (pL S0) sz0) s.heap H locs) (hc : cells ≤ mc0) (hs : slots ≤ ms0) (hdg : decode cc pc = .ok (.freturn, 1)) (hp : post0 (some (.float v)) S) :
    W p l e R s m args below meth c H locs cells slots (vx_MQ below (kQ g S0 sz0 post0) (kX g S0 sz0 Ex0) args s mc0 ms0 (kA (pL S0) sz0)) (F0 m pc ls [.float v]) :=
  W.widen hc hs (vx_ret (W.fret F.1 F.2.1 hr (fun t ht _ => ⟨⟨_, S, rfl, hp, by rw [ht]; exact hP, hD⟩, hS.F ht⟩) hS.2.2 hdg hlk))
theorem kEndC {post1 : wPS → Prop} (F : CallFix p m c cc nL s args wsL_law own) (hr : meth.sig.returnType = none) (hlk : meth.locks = false) (hP : va_P (kD g) vwCl (kW g S) H) (hD : va_D (kA (pL S0) sz0) (kW g S)) (hS : va_S (kA (pL S0) sz0) s.heap H locs) (hc : cells ≤ mc0) (hs : slots ≤ ms0) (hdg : decode cc pc = .ok (.return_, 1)) (hp : post1 S) :
    W p l e R s m args below meth c H locs cells slots (MQ below (kQ g S0 sz0 (pU post1)) args s mc0 ms0 (kA (pL S0) sz0)) (F0 m pc ls []) :=
  W.widen hc hs (W.vret F.1 F.2.1 hr (fun t ht _ => ⟨⟨_, S, rfl, ⟨rfl, hp⟩, by rw [ht]; exact hP, hD⟩, hS.F ht⟩) hS.2.2 hdg hlk)
end Ends
end KB
section KT
variable {p : Program} {l : Launch} {e : Env} {R : Room} {s : State} {m : MethodId} {args : Array Value} {below : List Frame} {meth : Method} {c : Code} {H : Heap} {locs : List Loc} {cells slots : Nat} {pc : Nat} {ls : Array Slot} {rest : List Value} {cc : ByteArray} {nL : Nat} {g : kG} {S : wPS} {e0 : Nat}
variable {S0 : wPS} {sz0 mc0 ms0 : Nat} {post0 : Option Value → wPS → Prop} {Ex0 : String → Prop}
/-- throw new java/lang/IllegalArgumentException(text) -/
theorem kth_IAE (hl0 : l.stackTraces = false) (F : CallFix p m c cc nL s args wsL_law RX5) (hE : kEn g e0 (kA (pL S0) sz0) s s.heap) (hlk : meth.locks = false) (hte : ∀ x ∈ c.exceptionTable.toList, False) (hP : va_P (kD g) vwCl (kW g S0) H) (hS : va_S (kA (pL S0) sz0) s.heap H locs) (hls : ls.size = nL) {is : Nat} {tx : String} (htx : (is, tx) ∈ k_texts)
    (d0 : decode cc pc = .ok (.new 50, 3)) (d3 : decode cc (pc + 3) = .ok (.dup, 1)) (d4 : decode cc (pc + 4) = .ok (.ldc is, 2)) (d6 : decode cc (pc + 6) = .ok (.invokespecial 54, 3)) (d9 : decode cc (pc + 9) = .ok (.athrow, 1))
    (hR : 6 ≤ R.frames ∧ (rest.map fun v => v.category).sum + 82 ≤ R.locals ∧ cells + 1 ≤ R.cells ∧ slots + 6 ≤ R.slots) (hc : cells + 1 ≤ mc0) (hs : slots + 6 ≤ ms0) (hex : Ex0 "java/lang/IllegalArgumentException") :
    W p l e R s m args below meth c H locs cells slots (vx_MQ below (kQ g S0 sz0 post0) (kX g S0 sz0 Ex0) args s mc0 ms0 (kA (pL S0) sz0)) (F0 m pc ls rest) := by
  obtain ⟨hx, hb, hml, hown, hts⟩ := F
  obtain ⟨-, -, hU, hN, hV⟩ := hE
  obtain ⟨sa, hR1⟩ := hV.1 _ htx
  obtain ⟨b1, b2, b3, b4⟩ := hV.2.2.2.2.2.2.2.2.2
  have hat : ∀ w ∈ vx_atS RX5 54 "java/lang/IllegalArgumentException" ["java/lang/RuntimeException", "java/lang/Exception"], w.before args s = true := vx_hat (fun w h => hts w (kxl_IAE w h)) kxb_IAE (vx_c (va_any rfl b1) (vx_c (va_any rfl b2) (vx_c (va_any rfl b3) (vx_c (va_any rfl (b4 _ (List.mem_of_getElem? (i := 0) rfl))) vx_n))))
  exact vx_throwS (names := ["java/lang/RuntimeException", "java/lang/Exception"]) hx hb hl0 hown (by decide) (by decide) (hts _ kw_95) (hts _ kw_96) hR1 hat kxg_IAE hU hN hS (hls.trans hml.symm) d0 d3 d4 d6 d9 (fun x h => (hte x h).elim) (by have h := hR.1; simp; omega) (by have h := hR.2.1; simp only [List.length_cons, List.length_nil]; omega) hR.2.2.1 hR.2.2.2 hlk (fun t _ hz hk => ⟨hex, hP.kept (fun k q hq => hk q.1 ((hP k q hq).lt)), ⟨Nat.le_trans hS.1 hz, fun q h1 h2 => (hk q (Nat.lt_of_lt_of_le h1 hS.1)).trans (hS.2.1 q h1 h2)⟩⟩) hS.2.2 hc hs
/-- throw new java/lang/IllegalArgumentException(text) -/
theorem kth_IAEW (hl0 : l.stackTraces = false) (F : CallFix p m c cc nL s args wsL_law RX5) (hE : kEn g e0 (kA (pL S0) sz0) s s.heap) (hlk : meth.locks = false) (hte : ∀ x ∈ c.exceptionTable.toList, False) (hP : va_P (kD g) vwCl (kW g S0) H) (hS : va_S (kA (pL S0) sz0) s.heap H locs) (hls : ls.size = nL) {is : Nat} {tx : String} (htx : (is, tx) ∈ k_texts)
    (d0 : decode cc pc = .ok (.new 50, 3)) (d3 : decode cc (pc + 3) = .ok (.dup, 1)) (d4 : decode cc (pc + 4) = .ok (.ldc_w is, 3)) (d6 : decode cc (pc + 7) = .ok (.invokespecial 54, 3)) (d9 : decode cc (pc + 10) = .ok (.athrow, 1))
    (hR : 6 ≤ R.frames ∧ (rest.map fun v => v.category).sum + 82 ≤ R.locals ∧ cells + 1 ≤ R.cells ∧ slots + 6 ≤ R.slots) (hc : cells + 1 ≤ mc0) (hs : slots + 6 ≤ ms0) (hex : Ex0 "java/lang/IllegalArgumentException") :
    W p l e R s m args below meth c H locs cells slots (vx_MQ below (kQ g S0 sz0 post0) (kX g S0 sz0 Ex0) args s mc0 ms0 (kA (pL S0) sz0)) (F0 m pc ls rest) := by
  obtain ⟨hx, hb, hml, hown, hts⟩ := F
  obtain ⟨-, -, hU, hN, hV⟩ := hE
  obtain ⟨sa, hR1⟩ := hV.1 _ htx
  obtain ⟨b1, b2, b3, b4⟩ := hV.2.2.2.2.2.2.2.2.2
  have hat : ∀ w ∈ vx_atS RX5 54 "java/lang/IllegalArgumentException" ["java/lang/RuntimeException", "java/lang/Exception"], w.before args s = true := vx_hat (fun w h => hts w (kxl_IAE w h)) kxb_IAE (vx_c (va_any rfl b1) (vx_c (va_any rfl b2) (vx_c (va_any rfl b3) (vx_c (va_any rfl (b4 _ (List.mem_of_getElem? (i := 0) rfl))) vx_n))))
  exact vx_throwSW (names := ["java/lang/RuntimeException", "java/lang/Exception"]) hx hb hl0 hown (by decide) (by decide) (hts _ kw_95) (hts _ kw_96) hR1 hat kxg_IAE hU hN hS (hls.trans hml.symm) d0 d3 d4 d6 d9 (fun x h => (hte x h).elim) (by have h := hR.1; simp; omega) (by have h := hR.2.1; simp only [List.length_cons, List.length_nil]; omega) hR.2.2.1 hR.2.2.2 hlk (fun t _ hz hk => ⟨hex, hP.kept (fun k q hq => hk q.1 ((hP k q hq).lt)), ⟨Nat.le_trans hS.1 hz, fun q h1 h2 => (hk q (Nat.lt_of_lt_of_le h1 hS.1)).trans (hS.2.1 q h1 h2)⟩⟩) hS.2.2 hc hs
/-- throw new java/lang/IllegalStateException(text) -/
theorem kth_ISE (hl0 : l.stackTraces = false) (F : CallFix p m c cc nL s args wsL_law RX5) (hE : kEn g e0 (kA (pL S0) sz0) s s.heap) (hlk : meth.locks = false) (hte : ∀ x ∈ c.exceptionTable.toList, False) (hP : va_P (kD g) vwCl (kW g S0) H) (hS : va_S (kA (pL S0) sz0) s.heap H locs) (hls : ls.size = nL) {is : Nat} {tx : String} (htx : (is, tx) ∈ k_texts)
    (d0 : decode cc pc = .ok (.new 69, 3)) (d3 : decode cc (pc + 3) = .ok (.dup, 1)) (d4 : decode cc (pc + 4) = .ok (.ldc is, 2)) (d6 : decode cc (pc + 6) = .ok (.invokespecial 73, 3)) (d9 : decode cc (pc + 9) = .ok (.athrow, 1))
    (hR : 6 ≤ R.frames ∧ (rest.map fun v => v.category).sum + 82 ≤ R.locals ∧ cells + 1 ≤ R.cells ∧ slots + 6 ≤ R.slots) (hc : cells + 1 ≤ mc0) (hs : slots + 6 ≤ ms0) (hex : Ex0 "java/lang/IllegalStateException") :
    W p l e R s m args below meth c H locs cells slots (vx_MQ below (kQ g S0 sz0 post0) (kX g S0 sz0 Ex0) args s mc0 ms0 (kA (pL S0) sz0)) (F0 m pc ls rest) := by
  obtain ⟨hx, hb, hml, hown, hts⟩ := F
  obtain ⟨-, -, hU, hN, hV⟩ := hE
  obtain ⟨sa, hR1⟩ := hV.1 _ htx
  obtain ⟨b1, b2, b3, b4⟩ := hV.2.2.2.2.2.2.2.2.2
  have hat : ∀ w ∈ vx_atS RX5 73 "java/lang/IllegalStateException" ["java/lang/RuntimeException", "java/lang/Exception"], w.before args s = true := vx_hat (fun w h => hts w (kxl_ISE w h)) kxb_ISE (vx_c (va_any rfl b1) (vx_c (va_any rfl b2) (vx_c (va_any rfl b3) (vx_c (va_any rfl (b4 _ (List.mem_of_getElem? (i := 1) rfl))) vx_n))))
  exact vx_throwS (names := ["java/lang/RuntimeException", "java/lang/Exception"]) hx hb hl0 hown (by decide) (by decide) (hts _ kw_97) (hts _ kw_98) hR1 hat kxg_ISE hU hN hS (hls.trans hml.symm) d0 d3 d4 d6 d9 (fun x h => (hte x h).elim) (by have h := hR.1; simp; omega) (by have h := hR.2.1; simp only [List.length_cons, List.length_nil]; omega) hR.2.2.1 hR.2.2.2 hlk (fun t _ hz hk => ⟨hex, hP.kept (fun k q hq => hk q.1 ((hP k q hq).lt)), ⟨Nat.le_trans hS.1 hz, fun q h1 h2 => (hk q (Nat.lt_of_lt_of_le h1 hS.1)).trans (hS.2.1 q h1 h2)⟩⟩) hS.2.2 hc hs
/-- throw new java/lang/IllegalStateException(text) -/
theorem kth_ISEW (hl0 : l.stackTraces = false) (F : CallFix p m c cc nL s args wsL_law RX5) (hE : kEn g e0 (kA (pL S0) sz0) s s.heap) (hlk : meth.locks = false) (hte : ∀ x ∈ c.exceptionTable.toList, False) (hP : va_P (kD g) vwCl (kW g S0) H) (hS : va_S (kA (pL S0) sz0) s.heap H locs) (hls : ls.size = nL) {is : Nat} {tx : String} (htx : (is, tx) ∈ k_texts)
    (d0 : decode cc pc = .ok (.new 69, 3)) (d3 : decode cc (pc + 3) = .ok (.dup, 1)) (d4 : decode cc (pc + 4) = .ok (.ldc_w is, 3)) (d6 : decode cc (pc + 7) = .ok (.invokespecial 73, 3)) (d9 : decode cc (pc + 10) = .ok (.athrow, 1))
    (hR : 6 ≤ R.frames ∧ (rest.map fun v => v.category).sum + 82 ≤ R.locals ∧ cells + 1 ≤ R.cells ∧ slots + 6 ≤ R.slots) (hc : cells + 1 ≤ mc0) (hs : slots + 6 ≤ ms0) (hex : Ex0 "java/lang/IllegalStateException") :
    W p l e R s m args below meth c H locs cells slots (vx_MQ below (kQ g S0 sz0 post0) (kX g S0 sz0 Ex0) args s mc0 ms0 (kA (pL S0) sz0)) (F0 m pc ls rest) := by
  obtain ⟨hx, hb, hml, hown, hts⟩ := F
  obtain ⟨-, -, hU, hN, hV⟩ := hE
  obtain ⟨sa, hR1⟩ := hV.1 _ htx
  obtain ⟨b1, b2, b3, b4⟩ := hV.2.2.2.2.2.2.2.2.2
  have hat : ∀ w ∈ vx_atS RX5 73 "java/lang/IllegalStateException" ["java/lang/RuntimeException", "java/lang/Exception"], w.before args s = true := vx_hat (fun w h => hts w (kxl_ISE w h)) kxb_ISE (vx_c (va_any rfl b1) (vx_c (va_any rfl b2) (vx_c (va_any rfl b3) (vx_c (va_any rfl (b4 _ (List.mem_of_getElem? (i := 1) rfl))) vx_n))))
  exact vx_throwSW (names := ["java/lang/RuntimeException", "java/lang/Exception"]) hx hb hl0 hown (by decide) (by decide) (hts _ kw_97) (hts _ kw_98) hR1 hat kxg_ISE hU hN hS (hls.trans hml.symm) d0 d3 d4 d6 d9 (fun x h => (hte x h).elim) (by have h := hR.1; simp; omega) (by have h := hR.2.1; simp only [List.length_cons, List.length_nil]; omega) hR.2.2.1 hR.2.2.2 hlk (fun t _ hz hk => ⟨hex, hP.kept (fun k q hq => hk q.1 ((hP k q hq).lt)), ⟨Nat.le_trans hS.1 hz, fun q h1 h2 => (hk q (Nat.lt_of_lt_of_le h1 hS.1)).trans (hS.2.1 q h1 h2)⟩⟩) hS.2.2 hc hs
/-- throw new java/lang/IndexOutOfBoundsException(text) -/
theorem kth_IOOBE (hl0 : l.stackTraces = false) (F : CallFix p m c cc nL s args wsL_law RX5) (hE : kEn g e0 (kA (pL S0) sz0) s s.heap) (hlk : meth.locks = false) (hte : ∀ x ∈ c.exceptionTable.toList, False) (hP : va_P (kD g) vwCl (kW g S0) H) (hS : va_S (kA (pL S0) sz0) s.heap H locs) (hls : ls.size = nL) {is : Nat} {tx : String} (htx : (is, tx) ∈ k_texts)
    (d0 : decode cc pc = .ok (.new 275, 3)) (d3 : decode cc (pc + 3) = .ok (.dup, 1)) (d4 : decode cc (pc + 4) = .ok (.ldc is, 2)) (d6 : decode cc (pc + 6) = .ok (.invokespecial 279, 3)) (d9 : decode cc (pc + 9) = .ok (.athrow, 1))
    (hR : 6 ≤ R.frames ∧ (rest.map fun v => v.category).sum + 82 ≤ R.locals ∧ cells + 1 ≤ R.cells ∧ slots + 6 ≤ R.slots) (hc : cells + 1 ≤ mc0) (hs : slots + 6 ≤ ms0) (hex : Ex0 "java/lang/IndexOutOfBoundsException") :
    W p l e R s m args below meth c H locs cells slots (vx_MQ below (kQ g S0 sz0 post0) (kX g S0 sz0 Ex0) args s mc0 ms0 (kA (pL S0) sz0)) (F0 m pc ls rest) := by
  obtain ⟨hx, hb, hml, hown, hts⟩ := F
  obtain ⟨-, -, hU, hN, hV⟩ := hE
  obtain ⟨sa, hR1⟩ := hV.1 _ htx
  obtain ⟨b1, b2, b3, b4⟩ := hV.2.2.2.2.2.2.2.2.2
  have hat : ∀ w ∈ vx_atS RX5 279 "java/lang/IndexOutOfBoundsException" ["java/lang/RuntimeException", "java/lang/Exception"], w.before args s = true := vx_hat (fun w h => hts w (kxl_IOOBE w h)) kxb_IOOBE (vx_c (va_any rfl b1) (vx_c (va_any rfl b2) (vx_c (va_any rfl b3) (vx_c (va_any rfl (b4 _ (List.mem_of_getElem? (i := 2) rfl))) vx_n))))
  exact vx_throwS (names := ["java/lang/RuntimeException", "java/lang/Exception"]) hx hb hl0 hown (by decide) (by decide) (hts _ kw_204) (hts _ kw_205) hR1 hat kxg_IOOBE hU hN hS (hls.trans hml.symm) d0 d3 d4 d6 d9 (fun x h => (hte x h).elim) (by have h := hR.1; simp; omega) (by have h := hR.2.1; simp only [List.length_cons, List.length_nil]; omega) hR.2.2.1 hR.2.2.2 hlk (fun t _ hz hk => ⟨hex, hP.kept (fun k q hq => hk q.1 ((hP k q hq).lt)), ⟨Nat.le_trans hS.1 hz, fun q h1 h2 => (hk q (Nat.lt_of_lt_of_le h1 hS.1)).trans (hS.2.1 q h1 h2)⟩⟩) hS.2.2 hc hs
/-- throw new java/lang/IndexOutOfBoundsException(text) -/
theorem kth_IOOBEW (hl0 : l.stackTraces = false) (F : CallFix p m c cc nL s args wsL_law RX5) (hE : kEn g e0 (kA (pL S0) sz0) s s.heap) (hlk : meth.locks = false) (hte : ∀ x ∈ c.exceptionTable.toList, False) (hP : va_P (kD g) vwCl (kW g S0) H) (hS : va_S (kA (pL S0) sz0) s.heap H locs) (hls : ls.size = nL) {is : Nat} {tx : String} (htx : (is, tx) ∈ k_texts)
    (d0 : decode cc pc = .ok (.new 275, 3)) (d3 : decode cc (pc + 3) = .ok (.dup, 1)) (d4 : decode cc (pc + 4) = .ok (.ldc_w is, 3)) (d6 : decode cc (pc + 7) = .ok (.invokespecial 279, 3)) (d9 : decode cc (pc + 10) = .ok (.athrow, 1))
    (hR : 6 ≤ R.frames ∧ (rest.map fun v => v.category).sum + 82 ≤ R.locals ∧ cells + 1 ≤ R.cells ∧ slots + 6 ≤ R.slots) (hc : cells + 1 ≤ mc0) (hs : slots + 6 ≤ ms0) (hex : Ex0 "java/lang/IndexOutOfBoundsException") :
    W p l e R s m args below meth c H locs cells slots (vx_MQ below (kQ g S0 sz0 post0) (kX g S0 sz0 Ex0) args s mc0 ms0 (kA (pL S0) sz0)) (F0 m pc ls rest) := by
  obtain ⟨hx, hb, hml, hown, hts⟩ := F
  obtain ⟨-, -, hU, hN, hV⟩ := hE
  obtain ⟨sa, hR1⟩ := hV.1 _ htx
  obtain ⟨b1, b2, b3, b4⟩ := hV.2.2.2.2.2.2.2.2.2
  have hat : ∀ w ∈ vx_atS RX5 279 "java/lang/IndexOutOfBoundsException" ["java/lang/RuntimeException", "java/lang/Exception"], w.before args s = true := vx_hat (fun w h => hts w (kxl_IOOBE w h)) kxb_IOOBE (vx_c (va_any rfl b1) (vx_c (va_any rfl b2) (vx_c (va_any rfl b3) (vx_c (va_any rfl (b4 _ (List.mem_of_getElem? (i := 2) rfl))) vx_n))))
  exact vx_throwSW (names := ["java/lang/RuntimeException", "java/lang/Exception"]) hx hb hl0 hown (by decide) (by decide) (hts _ kw_204) (hts _ kw_205) hR1 hat kxg_IOOBE hU hN hS (hls.trans hml.symm) d0 d3 d4 d6 d9 (fun x h => (hte x h).elim) (by have h := hR.1; simp; omega) (by have h := hR.2.1; simp only [List.length_cons, List.length_nil]; omega) hR.2.2.1 hR.2.2.2 hlk (fun t _ hz hk => ⟨hex, hP.kept (fun k q hq => hk q.1 ((hP k q hq).lt)), ⟨Nat.le_trans hS.1 hz, fun q h1 h2 => (hk q (Nat.lt_of_lt_of_le h1 hS.1)).trans (hS.2.1 q h1 h2)⟩⟩) hS.2.2 hc hs
/-- throw new java/lang/UnsupportedOperationException(text) -/
theorem kth_UOE (hl0 : l.stackTraces = false) (F : CallFix p m c cc nL s args wsL_law RX5) (hE : kEn g e0 (kA (pL S0) sz0) s s.heap) (hlk : meth.locks = false) (hte : ∀ x ∈ c.exceptionTable.toList, False) (hP : va_P (kD g) vwCl (kW g S0) H) (hS : va_S (kA (pL S0) sz0) s.heap H locs) (hls : ls.size = nL) {is : Nat} {tx : String} (htx : (is, tx) ∈ k_texts)
    (d0 : decode cc pc = .ok (.new 189, 3)) (d3 : decode cc (pc + 3) = .ok (.dup, 1)) (d4 : decode cc (pc + 4) = .ok (.ldc is, 2)) (d6 : decode cc (pc + 6) = .ok (.invokespecial 193, 3)) (d9 : decode cc (pc + 9) = .ok (.athrow, 1))
    (hR : 6 ≤ R.frames ∧ (rest.map fun v => v.category).sum + 82 ≤ R.locals ∧ cells + 1 ≤ R.cells ∧ slots + 6 ≤ R.slots) (hc : cells + 1 ≤ mc0) (hs : slots + 6 ≤ ms0) (hex : Ex0 "java/lang/UnsupportedOperationException") :
    W p l e R s m args below meth c H locs cells slots (vx_MQ below (kQ g S0 sz0 post0) (kX g S0 sz0 Ex0) args s mc0 ms0 (kA (pL S0) sz0)) (F0 m pc ls rest) := by
  obtain ⟨hx, hb, hml, hown, hts⟩ := F
  obtain ⟨-, -, hU, hN, hV⟩ := hE
  obtain ⟨sa, hR1⟩ := hV.1 _ htx
  obtain ⟨b1, b2, b3, b4⟩ := hV.2.2.2.2.2.2.2.2.2
  have hat : ∀ w ∈ vx_atS RX5 193 "java/lang/UnsupportedOperationException" ["java/lang/RuntimeException", "java/lang/Exception"], w.before args s = true := vx_hat (fun w h => hts w (kxl_UOE w h)) kxb_UOE (vx_c (va_any rfl b1) (vx_c (va_any rfl b2) (vx_c (va_any rfl b3) (vx_c (va_any rfl (b4 _ (List.mem_of_getElem? (i := 3) rfl))) vx_n))))
  exact vx_throwS (names := ["java/lang/RuntimeException", "java/lang/Exception"]) hx hb hl0 hown (by decide) (by decide) (hts _ kw_505) (hts _ kw_506) hR1 hat kxg_UOE hU hN hS (hls.trans hml.symm) d0 d3 d4 d6 d9 (fun x h => (hte x h).elim) (by have h := hR.1; simp; omega) (by have h := hR.2.1; simp only [List.length_cons, List.length_nil]; omega) hR.2.2.1 hR.2.2.2 hlk (fun t _ hz hk => ⟨hex, hP.kept (fun k q hq => hk q.1 ((hP k q hq).lt)), ⟨Nat.le_trans hS.1 hz, fun q h1 h2 => (hk q (Nat.lt_of_lt_of_le h1 hS.1)).trans (hS.2.1 q h1 h2)⟩⟩) hS.2.2 hc hs
/-- throw new java/lang/UnsupportedOperationException(text) -/
theorem kth_UOEW (hl0 : l.stackTraces = false) (F : CallFix p m c cc nL s args wsL_law RX5) (hE : kEn g e0 (kA (pL S0) sz0) s s.heap) (hlk : meth.locks = false) (hte : ∀ x ∈ c.exceptionTable.toList, False) (hP : va_P (kD g) vwCl (kW g S0) H) (hS : va_S (kA (pL S0) sz0) s.heap H locs) (hls : ls.size = nL) {is : Nat} {tx : String} (htx : (is, tx) ∈ k_texts)
    (d0 : decode cc pc = .ok (.new 189, 3)) (d3 : decode cc (pc + 3) = .ok (.dup, 1)) (d4 : decode cc (pc + 4) = .ok (.ldc_w is, 3)) (d6 : decode cc (pc + 7) = .ok (.invokespecial 193, 3)) (d9 : decode cc (pc + 10) = .ok (.athrow, 1))
    (hR : 6 ≤ R.frames ∧ (rest.map fun v => v.category).sum + 82 ≤ R.locals ∧ cells + 1 ≤ R.cells ∧ slots + 6 ≤ R.slots) (hc : cells + 1 ≤ mc0) (hs : slots + 6 ≤ ms0) (hex : Ex0 "java/lang/UnsupportedOperationException") :
    W p l e R s m args below meth c H locs cells slots (vx_MQ below (kQ g S0 sz0 post0) (kX g S0 sz0 Ex0) args s mc0 ms0 (kA (pL S0) sz0)) (F0 m pc ls rest) := by
  obtain ⟨hx, hb, hml, hown, hts⟩ := F
  obtain ⟨-, -, hU, hN, hV⟩ := hE
  obtain ⟨sa, hR1⟩ := hV.1 _ htx
  obtain ⟨b1, b2, b3, b4⟩ := hV.2.2.2.2.2.2.2.2.2
  have hat : ∀ w ∈ vx_atS RX5 193 "java/lang/UnsupportedOperationException" ["java/lang/RuntimeException", "java/lang/Exception"], w.before args s = true := vx_hat (fun w h => hts w (kxl_UOE w h)) kxb_UOE (vx_c (va_any rfl b1) (vx_c (va_any rfl b2) (vx_c (va_any rfl b3) (vx_c (va_any rfl (b4 _ (List.mem_of_getElem? (i := 3) rfl))) vx_n))))
  exact vx_throwSW (names := ["java/lang/RuntimeException", "java/lang/Exception"]) hx hb hl0 hown (by decide) (by decide) (hts _ kw_505) (hts _ kw_506) hR1 hat kxg_UOE hU hN hS (hls.trans hml.symm) d0 d3 d4 d6 d9 (fun x h => (hte x h).elim) (by have h := hR.1; simp; omega) (by have h := hR.2.1; simp only [List.length_cons, List.length_nil]; omega) hR.2.2.1 hR.2.2.2 hlk (fun t _ hz hk => ⟨hex, hP.kept (fun k q hq => hk q.1 ((hP k q hq).lt)), ⟨Nat.le_trans hS.1 hz, fun q h1 h2 => (hk q (Nat.lt_of_lt_of_le h1 hS.1)).trans (hS.2.1 q h1 h2)⟩⟩) hS.2.2 hc hs
/-- throw new java/util/NoSuchElementException(text) -/
theorem kth_NSEE (hl0 : l.stackTraces = false) (F : CallFix p m c cc nL s args wsL_law RX5) (hE : kEn g e0 (kA (pL S0) sz0) s s.heap) (hlk : meth.locks = false) (hte : ∀ x ∈ c.exceptionTable.toList, False) (hP : va_P (kD g) vwCl (kW g S0) H) (hS : va_S (kA (pL S0) sz0) s.heap H locs) (hls : ls.size = nL) {is : Nat} {tx : String} (htx : (is, tx) ∈ k_texts)
    (d0 : decode cc pc = .ok (.new 229, 3)) (d3 : decode cc (pc + 3) = .ok (.dup, 1)) (d4 : decode cc (pc + 4) = .ok (.ldc is, 2)) (d6 : decode cc (pc + 6) = .ok (.invokespecial 233, 3)) (d9 : decode cc (pc + 9) = .ok (.athrow, 1))
    (hR : 6 ≤ R.frames ∧ (rest.map fun v => v.category).sum + 82 ≤ R.locals ∧ cells + 1 ≤ R.cells ∧ slots + 6 ≤ R.slots) (hc : cells + 1 ≤ mc0) (hs : slots + 6 ≤ ms0) (hex : Ex0 "java/util/NoSuchElementException") :
    W p l e R s m args below meth c H locs cells slots (vx_MQ below (kQ g S0 sz0 post0) (kX g S0 sz0 Ex0) args s mc0 ms0 (kA (pL S0) sz0)) (F0 m pc ls rest) := by
  obtain ⟨hx, hb, hml, hown, hts⟩ := F
  obtain ⟨-, -, hU, hN, hV⟩ := hE
  obtain ⟨sa, hR1⟩ := hV.1 _ htx
  obtain ⟨b1, b2, b3, b4⟩ := hV.2.2.2.2.2.2.2.2.2
  have hat : ∀ w ∈ vx_atS RX5 233 "java/util/NoSuchElementException" ["java/lang/RuntimeException", "java/lang/Exception"], w.before args s = true := vx_hat (fun w h => hts w (kxl_NSEE w h)) kxb_NSEE (vx_c (va_any rfl b1) (vx_c (va_any rfl b2) (vx_c (va_any rfl b3) (vx_c (va_any rfl (b4 _ (List.mem_of_getElem? (i := 4) rfl))) vx_n))))
  exact vx_throwS (names := ["java/lang/RuntimeException", "java/lang/Exception"]) hx hb hl0 hown (by decide) (by decide) (hts _ kw_582) (hts _ kw_583) hR1 hat kxg_NSEE hU hN hS (hls.trans hml.symm) d0 d3 d4 d6 d9 (fun x h => (hte x h).elim) (by have h := hR.1; simp; omega) (by have h := hR.2.1; simp only [List.length_cons, List.length_nil]; omega) hR.2.2.1 hR.2.2.2 hlk (fun t _ hz hk => ⟨hex, hP.kept (fun k q hq => hk q.1 ((hP k q hq).lt)), ⟨Nat.le_trans hS.1 hz, fun q h1 h2 => (hk q (Nat.lt_of_lt_of_le h1 hS.1)).trans (hS.2.1 q h1 h2)⟩⟩) hS.2.2 hc hs
/-- throw new java/util/NoSuchElementException(text) -/
theorem kth_NSEEW (hl0 : l.stackTraces = false) (F : CallFix p m c cc nL s args wsL_law RX5) (hE : kEn g e0 (kA (pL S0) sz0) s s.heap) (hlk : meth.locks = false) (hte : ∀ x ∈ c.exceptionTable.toList, False) (hP : va_P (kD g) vwCl (kW g S0) H) (hS : va_S (kA (pL S0) sz0) s.heap H locs) (hls : ls.size = nL) {is : Nat} {tx : String} (htx : (is, tx) ∈ k_texts)
    (d0 : decode cc pc = .ok (.new 229, 3)) (d3 : decode cc (pc + 3) = .ok (.dup, 1)) (d4 : decode cc (pc + 4) = .ok (.ldc_w is, 3)) (d6 : decode cc (pc + 7) = .ok (.invokespecial 233, 3)) (d9 : decode cc (pc + 10) = .ok (.athrow, 1))
    (hR : 6 ≤ R.frames ∧ (rest.map fun v => v.category).sum + 82 ≤ R.locals ∧ cells + 1 ≤ R.cells ∧ slots + 6 ≤ R.slots) (hc : cells + 1 ≤ mc0) (hs : slots + 6 ≤ ms0) (hex : Ex0 "java/util/NoSuchElementException") :
    W p l e R s m args below meth c H locs cells slots (vx_MQ below (kQ g S0 sz0 post0) (kX g S0 sz0 Ex0) args s mc0 ms0 (kA (pL S0) sz0)) (F0 m pc ls rest) := by
  obtain ⟨hx, hb, hml, hown, hts⟩ := F
  obtain ⟨-, -, hU, hN, hV⟩ := hE
  obtain ⟨sa, hR1⟩ := hV.1 _ htx
  obtain ⟨b1, b2, b3, b4⟩ := hV.2.2.2.2.2.2.2.2.2
  have hat : ∀ w ∈ vx_atS RX5 233 "java/util/NoSuchElementException" ["java/lang/RuntimeException", "java/lang/Exception"], w.before args s = true := vx_hat (fun w h => hts w (kxl_NSEE w h)) kxb_NSEE (vx_c (va_any rfl b1) (vx_c (va_any rfl b2) (vx_c (va_any rfl b3) (vx_c (va_any rfl (b4 _ (List.mem_of_getElem? (i := 4) rfl))) vx_n))))
  exact vx_throwSW (names := ["java/lang/RuntimeException", "java/lang/Exception"]) hx hb hl0 hown (by decide) (by decide) (hts _ kw_582) (hts _ kw_583) hR1 hat kxg_NSEE hU hN hS (hls.trans hml.symm) d0 d3 d4 d6 d9 (fun x h => (hte x h).elim) (by have h := hR.1; simp; omega) (by have h := hR.2.1; simp only [List.length_cons, List.length_nil]; omega) hR.2.2.1 hR.2.2.2 hlk (fun t _ hz hk => ⟨hex, hP.kept (fun k q hq => hk q.1 ((hP k q hq).lt)), ⟨Nat.le_trans hS.1 hz, fun q h1 h2 => (hk q (Nat.lt_of_lt_of_le h1 hS.1)).trans (hS.2.1 q h1 h2)⟩⟩) hS.2.2 hc hs
end KT
end
section
section KR
variable {p : Program} {l : Launch} {e : Env} {R : Room} {s : State} {m : MethodId} {args : Array Value} {below : List Frame} {meth : Method} {c : Code} {H : Heap} {locs : List Loc} {cells slots : Nat} {Q : State → Prop} {pc : Nat} {ls : Array Slot} {rest : List Value} {cc : ByteArray} {nL : Nat} {own : String} {g : kG} {S : wPS} {A : Nat → Prop} {H0 : Heap} {a index : Nat}
theorem kat_Aisle (h : pK S a = 0) : kF g S a = .inr (1, [.int (pF S 0 a), .int (pF S 1 a), .int (pF S 2 a)]) := by unfold kF; rw [h]; rfl
theorem kge_Aisle (ob : Ob S 0 a) : ∃ k : Nat, (kW g S)[k]? = some (a, kF g S a) ∧ (kW g S)[k]? = some (a, .inr (1, [.int (pF S 0 a), .int (pF S 1 a), .int (pF S 2 a)])) := by
  obtain ⟨k, hk⟩ := kW_get (g := g) ob.1
  exact ⟨k, hk, hk.trans (congrArg (fun x => some (a, x)) (kat_Aisle ob.2))⟩
theorem rg_Aisle_number (F : CallFix p m c cc nL s args wsL_law own) (hK : va_K (kD g) vwCl (kT g) s) (hP : va_P (kD g) vwCl (kW g S) H) (ob : Ob S 0 a) (hlk : Cond.fieldLink own index "Pickwave$Aisle" "number" "I" ∈ wsL_law) (hdg : decode cc pc = .ok (.getfield index, 3)) (kk : W p l e R s m args below meth c H locs cells slots Q (F0 m (pc + 3) ls (.int (pF S 0 a) :: rest))) : W p l e R s m args below meth c H locs cells slots Q (F0 m pc ls (.ref a :: rest)) := by
  obtain ⟨k, -, h2⟩ := kge_Aisle (g := g) ob
  exact va_get (D := kD g) (ci := 1) (C := RX0) (T := TX0) (N := 3) F.1 F.2.1 F.2.2.2.2 inlX0 F.2.2.2.1 hK hP k h2 rfl 0 (by decide) (F.2.2.2.2 _ hlk) (fun _ h => h) rfl hdg kk
theorem rp_Aisle_number {v : Int32} (F : CallFix p m c cc nL s args wsL_law own) (hK : va_K (kD g) vwCl (kT g) s) (hP : va_P (kD g) vwCl (kW g S) H) (hD : va_D A (kW g S)) (hS : va_S A H0 H locs) (ob : Ob S 0 a) (hlk : Cond.fieldLink own index "Pickwave$Aisle" "number" "I" ∈ wsL_law) (hin : meth.name = "<init>") (hown0 : own = "Pickwave$Aisle") (hdg : decode cc pc = .ok (.putfield index, 3)) (kk : ∀ (H1 : Heap) (locs1 : List Loc), va_P (kD g) vwCl (kW g (setF S 0 a v)) H1 → va_D A (kW g (setF S 0 a v)) → va_S A H0 H1 locs1 → W p l e R s m args below meth c H1 locs1 cells slots Q (F0 m (pc + 3) ls rest)) : W p l e R s m args below meth c H locs cells slots Q (F0 m pc ls (.int v :: .ref a :: rest)) := by
  obtain ⟨k, h1, h2⟩ := kge_Aisle (g := g) ob
  have e : (kW g S).set k (a, .inr (1, [.int v, .int (pF S 1 a), .int (pF S 2 a)])) = kW g (setF S 0 a v) := kW_set hD ob.1 h1 rfl (by rw [show kF g (setF S 0 a v) a = .inr (1, [.int (pF (setF S 0 a v) 0 a), .int (pF S 1 a), .int (pF S 2 a)]) from kat_Aisle (S := setF S 0 a v) ob.2]; rw [uF_at]) (fun b hb => kF_F hb)
  exact va_putF (D := kD g) (ci := 1) (v := .int v) (ty := tyX0 0) (C := RX0) (T := TX0) (N := 3) F.1 F.2.1 F.2.2.2.2 inlX0 tyX0 tyX0_ok nmX0 F.2.2.2.1 hK hP hD hS k h2 rfl 0 (by decide) (F.2.2.2.2 _ hlk) (fun _ h => h) rfl hin hown0.symm (by decide +kernel) rfl rfl (Nat.le_of_ble_eq_true rfl) hdg (fun H1 locs1 a1 a2 a3 => kk H1 locs1 (Eq.mp (congrArg (fun w => va_P (kD g) vwCl w H1) e) a1) (Eq.mp (congrArg (fun w => va_D A w) e) a2) a3)
theorem rg_Aisle_blocked (F : CallFix p m c cc nL s args wsL_law own) (hK : va_K (kD g) vwCl (kT g) s) (hP : va_P (kD g) vwCl (kW g S) H) (ob : Ob S 0 a) (hlk : Cond.fieldLink own index "Pickwave$Aisle" "blocked" "Z" ∈ wsL_law) (hdg : decode cc pc = .ok (.getfield index, 3)) (kk : W p l e R s m args below meth c H locs cells slots Q (F0 m (pc + 3) ls (.int (pF S 1 a) :: rest))) : W p l e R s m args below meth c H locs cells slots Q (F0 m pc ls (.ref a :: rest)) := by
  obtain ⟨k, -, h2⟩ := kge_Aisle (g := g) ob
  exact va_get (D := kD g) (ci := 1) (C := RX0) (T := TX0) (N := 3) F.1 F.2.1 F.2.2.2.2 inlX0 F.2.2.2.1 hK hP k h2 rfl 1 (by decide) (F.2.2.2.2 _ hlk) (fun _ h => h) rfl hdg kk
theorem rp_Aisle_blocked {v : Int32} (F : CallFix p m c cc nL s args wsL_law own) (hK : va_K (kD g) vwCl (kT g) s) (hP : va_P (kD g) vwCl (kW g S) H) (hD : va_D A (kW g S)) (hS : va_S A H0 H locs) (ob : Ob S 0 a) (hlk : Cond.fieldLink own index "Pickwave$Aisle" "blocked" "Z" ∈ wsL_law) (hn : narrow .boolean (.int v) = .int v) (hft : fits .boolean (.int v) = true) (hdg : decode cc pc = .ok (.putfield index, 3)) (kk : ∀ (H1 : Heap) (locs1 : List Loc), va_P (kD g) vwCl (kW g (setF S 1 a v)) H1 → va_D A (kW g (setF S 1 a v)) → va_S A H0 H1 locs1 → W p l e R s m args below meth c H1 locs1 cells slots Q (F0 m (pc + 3) ls rest)) : W p l e R s m args below meth c H locs cells slots Q (F0 m pc ls (.int v :: .ref a :: rest)) := by
  obtain ⟨k, h1, h2⟩ := kge_Aisle (g := g) ob
  have e : (kW g S).set k (a, .inr (1, [.int (pF S 0 a), .int v, .int (pF S 2 a)])) = kW g (setF S 1 a v) := kW_set hD ob.1 h1 rfl (by rw [show kF g (setF S 1 a v) a = .inr (1, [.int (pF S 0 a), .int (pF (setF S 1 a v) 1 a), .int (pF S 2 a)]) from kat_Aisle (S := setF S 1 a v) ob.2]; rw [uF_at]) (fun b hb => kF_F hb)
  exact va_put (D := kD g) (ci := 1) (v := .int v) (ty := tyX0 1) (C := RX0) (T := TX0) (N := 3) F.1 F.2.1 F.2.2.2.2 inlX0 tyX0 tyX0_ok nmX0 F.2.2.2.1 hK hP hD hS k h2 rfl 1 (by decide) (F.2.2.2.2 _ hlk) (fun _ h => h) rfl (by decide +kernel) hn hft (Nat.le_of_ble_eq_true rfl) hdg (fun H1 locs1 a1 a2 a3 => kk H1 locs1 (Eq.mp (congrArg (fun w => va_P (kD g) vwCl w H1) e) a1) (Eq.mp (congrArg (fun w => va_D A w) e) a2) a3)
theorem rg_Aisle_pickers (F : CallFix p m c cc nL s args wsL_law own) (hK : va_K (kD g) vwCl (kT g) s) (hP : va_P (kD g) vwCl (kW g S) H) (ob : Ob S 0 a) (hlk : Cond.fieldLink own index "Pickwave$Aisle" "pickers" "I" ∈ wsL_law) (hdg : decode cc pc = .ok (.getfield index, 3)) (kk : W p l e R s m args below meth c H locs cells slots Q (F0 m (pc + 3) ls (.int (pF S 2 a) :: rest))) : W p l e R s m args below meth c H locs cells slots Q (F0 m pc ls (.ref a :: rest)) := by
  obtain ⟨k, -, h2⟩ := kge_Aisle (g := g) ob
  exact va_get (D := kD g) (ci := 1) (C := RX0) (T := TX0) (N := 3) F.1 F.2.1 F.2.2.2.2 inlX0 F.2.2.2.1 hK hP k h2 rfl 2 (by decide) (F.2.2.2.2 _ hlk) (fun _ h => h) rfl hdg kk
theorem rp_Aisle_pickers {v : Int32} (F : CallFix p m c cc nL s args wsL_law own) (hK : va_K (kD g) vwCl (kT g) s) (hP : va_P (kD g) vwCl (kW g S) H) (hD : va_D A (kW g S)) (hS : va_S A H0 H locs) (ob : Ob S 0 a) (hlk : Cond.fieldLink own index "Pickwave$Aisle" "pickers" "I" ∈ wsL_law) (hdg : decode cc pc = .ok (.putfield index, 3)) (kk : ∀ (H1 : Heap) (locs1 : List Loc), va_P (kD g) vwCl (kW g (setF S 2 a v)) H1 → va_D A (kW g (setF S 2 a v)) → va_S A H0 H1 locs1 → W p l e R s m args below meth c H1 locs1 cells slots Q (F0 m (pc + 3) ls rest)) : W p l e R s m args below meth c H locs cells slots Q (F0 m pc ls (.int v :: .ref a :: rest)) := by
  obtain ⟨k, h1, h2⟩ := kge_Aisle (g := g) ob
  have e : (kW g S).set k (a, .inr (1, [.int (pF S 0 a), .int (pF S 1 a), .int v])) = kW g (setF S 2 a v) := kW_set hD ob.1 h1 rfl (by rw [show kF g (setF S 2 a v) a = .inr (1, [.int (pF S 0 a), .int (pF S 1 a), .int (pF (setF S 2 a v) 2 a)]) from kat_Aisle (S := setF S 2 a v) ob.2]; rw [uF_at]) (fun b hb => kF_F hb)
  exact va_put (D := kD g) (ci := 1) (v := .int v) (ty := tyX0 2) (C := RX0) (T := TX0) (N := 3) F.1 F.2.1 F.2.2.2.2 inlX0 tyX0 tyX0_ok nmX0 F.2.2.2.1 hK hP hD hS k h2 rfl 2 (by decide) (F.2.2.2.2 _ hlk) (fun _ h => h) rfl (by decide +kernel) rfl rfl (Nat.le_of_ble_eq_true rfl) hdg (fun H1 locs1 a1 a2 a3 => kk H1 locs1 (Eq.mp (congrArg (fun w => va_P (kD g) vwCl w H1) e) a1) (Eq.mp (congrArg (fun w => va_D A w) e) a2) a3)
theorem rn_Aisle (F : CallFix p m c cc nL s args wsL_law own) (hK : va_K (kD g) vwCl (kT g) s) (hP : va_P (kD g) vwCl (kW g S) H) (hD : va_D A (kW g S)) (hS : va_S A H0 H locs) (hA : ∀ q : Nat, H0.size ≤ q → A q) (w1 : Cond.classLink own index RX0 ∈ wsL_law) (w2 : Cond.instantiable RX0 3 ∈ wsL_law) (w3 : Cond.initialized RX0 ∈ wsL_law) (hc : cells + 1 ≤ R.cells) (hs : slots + 3 ≤ R.slots) (hdg : decode cc pc = .ok (.new index, 3)) (kk : ∀ (q : Nat) (H1 : Heap), q ∉ pL S → va_P (kD g) vwCl (kW g (newO S q 0)) H1 → va_D A (kW g (newO S q 0)) → va_S A H0 H1 locs → W p l e R s m args below meth c H1 locs (cells + 1) (slots + 3) Q (F0 m (pc + 3) ls (.ref q :: rest))) : W p l e R s m args below meth c H locs cells slots Q (F0 m pc ls rest) := by
  refine va_new (D := kD g) (ci := 1) (fs := [.int 0, .int 0, .int 0]) (C := RX0) (T := TX0) (N := 3) F.1 F.2.1 F.2.2.2.2 inlX0 tyX0 tyX0_ok F.2.2.2.1 (F.2.2.2.2 _ w1) (F.2.2.2.2 _ w2) (F.2.2.2.2 _ w3) hK hP hD hS hA rfl (fun j hj => by rcases (show j = 0 ∨ j = 1 ∨ j = 2 by omega) with rfl | rfl | rfl <;> rfl) hc hs hdg (fun q H1 a1 a2 a3 => ?_)
  have hq : q ∉ pL S := va_pl_fresh2 (X := []) a2
  have e : kW g S ++ [(q, .inr (1, [.int 0, .int 0, .int 0]))] = kW g (newO S q 0) := kW_push hq rfl (by rw [show kF g (newO S q 0) q = .inr (1, [.int (va_up (pF S 0) q 0 q), .int (va_up (pF S 1) q 0 q), .int (va_up (pF S 2) q 0 q)]) from kat_Aisle (S := newO S q 0) (va_up_self _ _ _)]; simp only [va_up_self]; try rfl) (fun b hb => kF_O hb)
  exact kk q H1 hq (Eq.mp (congrArg (fun w => va_P (kD g) vwCl w H1) e) a1) (Eq.mp (congrArg (fun w => va_D A w) e) a2) a3
theorem rr_Aisle (hK : va_K (kD g) vwCl (kT g) s) (hP : va_P (kD g) vwCl (kW g S) H) (ob : Ob S 0 a) : ∃ cell : Cell, H[a]? = some cell ∧ cell.vm.isStatics = false ∧ s.vm.findClass RX0 = some cell.cls := by
  obtain ⟨k, -, h2⟩ := kge_Aisle (g := g) ob
  exact va_recv (D := kD g) hK hP (ci := 1) (q0 := k) (q := (RX0, TX0, 3)) rfl h2
theorem kat_Article (h : pK S a = 1) : kF g S a = .inr (2, [va_rf (pG S 10 a), .int (pF S 11 a), .int (pF S 12 a), .int (pF S 13 a), .int (pF S 14 a)]) := by unfold kF; rw [h]; rfl
theorem kge_Article (ob : Ob S 1 a) : ∃ k : Nat, (kW g S)[k]? = some (a, kF g S a) ∧ (kW g S)[k]? = some (a, .inr (2, [va_rf (pG S 10 a), .int (pF S 11 a), .int (pF S 12 a), .int (pF S 13 a), .int (pF S 14 a)])) := by
  obtain ⟨k, hk⟩ := kW_get (g := g) ob.1
  exact ⟨k, hk, hk.trans (congrArg (fun x => some (a, x)) (kat_Article ob.2))⟩
theorem rg_Article_aisle (F : CallFix p m c cc nL s args wsL_law own) (hK : va_K (kD g) vwCl (kT g) s) (hP : va_P (kD g) vwCl (kW g S) H) (ob : Ob S 1 a) (hlk : Cond.fieldLink own index "Pickwave$Article" "aisle" "LPickwave$Aisle;" ∈ wsL_law) (hdg : decode cc pc = .ok (.getfield index, 3)) (kk : W p l e R s m args below meth c H locs cells slots Q (F0 m (pc + 3) ls (va_rf (pG S 10 a) :: rest))) : W p l e R s m args below meth c H locs cells slots Q (F0 m pc ls (.ref a :: rest)) := by
  obtain ⟨k, -, h2⟩ := kge_Article (g := g) ob
  exact va_get (D := kD g) (ci := 2) (C := RX1) (T := TX1) (N := 5) F.1 F.2.1 F.2.2.2.2 inlX1 F.2.2.2.1 hK hP k h2 rfl 0 (by decide) (F.2.2.2.2 _ hlk) (fun _ h => h) rfl hdg kk
theorem rs_Article_aisle {b : Nat} (F : CallFix p m c cc nL s args wsL_law own) (hK : va_K (kD g) vwCl (kT g) s) (hP : va_P (kD g) vwCl (kW g S) H) (ob : Ob S 1 a) (hv : pG S 10 a = some b) (hlk : Cond.fieldLink own index "Pickwave$Article" "aisle" "LPickwave$Aisle;" ∈ wsL_law) (hdg : decode cc pc = .ok (.getfield index, 3)) (kk : W p l e R s m args below meth c H locs cells slots Q (F0 m (pc + 3) ls (.ref b :: rest))) : W p l e R s m args below meth c H locs cells slots Q (F0 m pc ls (.ref a :: rest)) := by
  obtain ⟨k, -, h2⟩ := kge_Article (g := g) ob
  exact va_get (D := kD g) (ci := 2) (C := RX1) (T := TX1) (N := 5) F.1 F.2.1 F.2.2.2.2 inlX1 F.2.2.2.1 hK hP k h2 rfl 0 (by decide) (F.2.2.2.2 _ hlk) (fun _ h => h) rfl hdg (by rw [hv]; exact kk)
theorem rz_Article_aisle (F : CallFix p m c cc nL s args wsL_law own) (hK : va_K (kD g) vwCl (kT g) s) (hP : va_P (kD g) vwCl (kW g S) H) (ob : Ob S 1 a) (hv : pG S 10 a = none) (hlk : Cond.fieldLink own index "Pickwave$Article" "aisle" "LPickwave$Aisle;" ∈ wsL_law) (hdg : decode cc pc = .ok (.getfield index, 3)) (kk : W p l e R s m args below meth c H locs cells slots Q (F0 m (pc + 3) ls (.null :: rest))) : W p l e R s m args below meth c H locs cells slots Q (F0 m pc ls (.ref a :: rest)) := by
  obtain ⟨k, -, h2⟩ := kge_Article (g := g) ob
  exact va_get (D := kD g) (ci := 2) (C := RX1) (T := TX1) (N := 5) F.1 F.2.1 F.2.2.2.2 inlX1 F.2.2.2.1 hK hP k h2 rfl 0 (by decide) (F.2.2.2.2 _ hlk) (fun _ h => h) rfl hdg (by rw [hv]; exact kk)
theorem rps_Article_aisle {b : Nat} (F : CallFix p m c cc nL s args wsL_law own) (hK : va_K (kD g) vwCl (kT g) s) (hP : va_P (kD g) vwCl (kW g S) H) (hD : va_D A (kW g S)) (hS : va_S A H0 H locs) (ob : Ob S 1 a) (hlk : Cond.fieldLink own index "Pickwave$Article" "aisle" "LPickwave$Aisle;" ∈ wsL_law) (hin : meth.name = "<init>") (hown0 : own = "Pickwave$Article") (hdg : decode cc pc = .ok (.putfield index, 3)) (kk : ∀ (H1 : Heap) (locs1 : List Loc), va_P (kD g) vwCl (kW g (setG S 10 a (some b))) H1 → va_D A (kW g (setG S 10 a (some b))) → va_S A H0 H1 locs1 → W p l e R s m args below meth c H1 locs1 cells slots Q (F0 m (pc + 3) ls rest)) : W p l e R s m args below meth c H locs cells slots Q (F0 m pc ls (.ref b :: .ref a :: rest)) := by
  obtain ⟨k, h1, h2⟩ := kge_Article (g := g) ob
  have e : (kW g S).set k (a, .inr (2, [.ref b, .int (pF S 11 a), .int (pF S 12 a), .int (pF S 13 a), .int (pF S 14 a)])) = kW g (setG S 10 a (some b)) := kW_set hD ob.1 h1 rfl (by rw [show kF g (setG S 10 a (some b)) a = .inr (2, [va_rf (pG (setG S 10 a (some b)) 10 a), .int (pF S 11 a), .int (pF S 12 a), .int (pF S 13 a), .int (pF S 14 a)]) from kat_Article (S := setG S 10 a (some b)) ob.2]; rw [uG_at]; rfl) (fun b hb => kF_G hb)
  exact va_putF (D := kD g) (ci := 2) (v := .ref b) (ty := tyX1 0) (C := RX1) (T := TX1) (N := 5) F.1 F.2.1 F.2.2.2.2 inlX1 tyX1 tyX1_ok nmX1 F.2.2.2.1 hK hP hD hS k h2 rfl 0 (by decide) (F.2.2.2.2 _ hlk) (fun _ h => h) rfl hin hown0.symm (by decide +kernel) rfl rfl (Nat.le_of_ble_eq_true rfl) hdg (fun H1 locs1 a1 a2 a3 => kk H1 locs1 (Eq.mp (congrArg (fun w => va_P (kD g) vwCl w H1) e) a1) (Eq.mp (congrArg (fun w => va_D A w) e) a2) a3)
theorem rpn_Article_aisle (F : CallFix p m c cc nL s args wsL_law own) (hK : va_K (kD g) vwCl (kT g) s) (hP : va_P (kD g) vwCl (kW g S) H) (hD : va_D A (kW g S)) (hS : va_S A H0 H locs) (ob : Ob S 1 a) (hlk : Cond.fieldLink own index "Pickwave$Article" "aisle" "LPickwave$Aisle;" ∈ wsL_law) (hin : meth.name = "<init>") (hown0 : own = "Pickwave$Article") (hdg : decode cc pc = .ok (.putfield index, 3)) (kk : ∀ (H1 : Heap) (locs1 : List Loc), va_P (kD g) vwCl (kW g (setG S 10 a none)) H1 → va_D A (kW g (setG S 10 a none)) → va_S A H0 H1 locs1 → W p l e R s m args below meth c H1 locs1 cells slots Q (F0 m (pc + 3) ls rest)) : W p l e R s m args below meth c H locs cells slots Q (F0 m pc ls (.null :: .ref a :: rest)) := by
  obtain ⟨k, h1, h2⟩ := kge_Article (g := g) ob
  have e : (kW g S).set k (a, .inr (2, [.null, .int (pF S 11 a), .int (pF S 12 a), .int (pF S 13 a), .int (pF S 14 a)])) = kW g (setG S 10 a none) := kW_set hD ob.1 h1 rfl (by rw [show kF g (setG S 10 a none) a = .inr (2, [va_rf (pG (setG S 10 a none) 10 a), .int (pF S 11 a), .int (pF S 12 a), .int (pF S 13 a), .int (pF S 14 a)]) from kat_Article (S := setG S 10 a none) ob.2]; rw [uG_at]; rfl) (fun b hb => kF_G hb)
  exact va_putF (D := kD g) (ci := 2) (v := .null) (ty := tyX1 0) (C := RX1) (T := TX1) (N := 5) F.1 F.2.1 F.2.2.2.2 inlX1 tyX1 tyX1_ok nmX1 F.2.2.2.1 hK hP hD hS k h2 rfl 0 (by decide) (F.2.2.2.2 _ hlk) (fun _ h => h) rfl hin hown0.symm (by decide +kernel) rfl rfl (Nat.le_of_ble_eq_true rfl) hdg (fun H1 locs1 a1 a2 a3 => kk H1 locs1 (Eq.mp (congrArg (fun w => va_P (kD g) vwCl w H1) e) a1) (Eq.mp (congrArg (fun w => va_D A w) e) a2) a3)
theorem rg_Article_room (F : CallFix p m c cc nL s args wsL_law own) (hK : va_K (kD g) vwCl (kT g) s) (hP : va_P (kD g) vwCl (kW g S) H) (ob : Ob S 1 a) (hlk : Cond.fieldLink own index "Pickwave$Article" "room" "I" ∈ wsL_law) (hdg : decode cc pc = .ok (.getfield index, 3)) (kk : W p l e R s m args below meth c H locs cells slots Q (F0 m (pc + 3) ls (.int (pF S 11 a) :: rest))) : W p l e R s m args below meth c H locs cells slots Q (F0 m pc ls (.ref a :: rest)) := by
  obtain ⟨k, -, h2⟩ := kge_Article (g := g) ob
  exact va_get (D := kD g) (ci := 2) (C := RX1) (T := TX1) (N := 5) F.1 F.2.1 F.2.2.2.2 inlX1 F.2.2.2.1 hK hP k h2 rfl 1 (by decide) (F.2.2.2.2 _ hlk) (fun _ h => h) rfl hdg kk
theorem rp_Article_room {v : Int32} (F : CallFix p m c cc nL s args wsL_law own) (hK : va_K (kD g) vwCl (kT g) s) (hP : va_P (kD g) vwCl (kW g S) H) (hD : va_D A (kW g S)) (hS : va_S A H0 H locs) (ob : Ob S 1 a) (hlk : Cond.fieldLink own index "Pickwave$Article" "room" "I" ∈ wsL_law) (hin : meth.name = "<init>") (hown0 : own = "Pickwave$Article") (hdg : decode cc pc = .ok (.putfield index, 3)) (kk : ∀ (H1 : Heap) (locs1 : List Loc), va_P (kD g) vwCl (kW g (setF S 11 a v)) H1 → va_D A (kW g (setF S 11 a v)) → va_S A H0 H1 locs1 → W p l e R s m args below meth c H1 locs1 cells slots Q (F0 m (pc + 3) ls rest)) : W p l e R s m args below meth c H locs cells slots Q (F0 m pc ls (.int v :: .ref a :: rest)) := by
  obtain ⟨k, h1, h2⟩ := kge_Article (g := g) ob
  have e : (kW g S).set k (a, .inr (2, [va_rf (pG S 10 a), .int v, .int (pF S 12 a), .int (pF S 13 a), .int (pF S 14 a)])) = kW g (setF S 11 a v) := kW_set hD ob.1 h1 rfl (by rw [show kF g (setF S 11 a v) a = .inr (2, [va_rf (pG S 10 a), .int (pF (setF S 11 a v) 11 a), .int (pF S 12 a), .int (pF S 13 a), .int (pF S 14 a)]) from kat_Article (S := setF S 11 a v) ob.2]; rw [uF_at]) (fun b hb => kF_F hb)
  exact va_putF (D := kD g) (ci := 2) (v := .int v) (ty := tyX1 1) (C := RX1) (T := TX1) (N := 5) F.1 F.2.1 F.2.2.2.2 inlX1 tyX1 tyX1_ok nmX1 F.2.2.2.1 hK hP hD hS k h2 rfl 1 (by decide) (F.2.2.2.2 _ hlk) (fun _ h => h) rfl hin hown0.symm (by decide +kernel) rfl rfl (Nat.le_of_ble_eq_true rfl) hdg (fun H1 locs1 a1 a2 a3 => kk H1 locs1 (Eq.mp (congrArg (fun w => va_P (kD g) vwCl w H1) e) a1) (Eq.mp (congrArg (fun w => va_D A w) e) a2) a3)
theorem rg_Article_stock (F : CallFix p m c cc nL s args wsL_law own) (hK : va_K (kD g) vwCl (kT g) s) (hP : va_P (kD g) vwCl (kW g S) H) (ob : Ob S 1 a) (hlk : Cond.fieldLink own index "Pickwave$Article" "stock" "I" ∈ wsL_law) (hdg : decode cc pc = .ok (.getfield index, 3)) (kk : W p l e R s m args below meth c H locs cells slots Q (F0 m (pc + 3) ls (.int (pF S 12 a) :: rest))) : W p l e R s m args below meth c H locs cells slots Q (F0 m pc ls (.ref a :: rest)) := by
  obtain ⟨k, -, h2⟩ := kge_Article (g := g) ob
  exact va_get (D := kD g) (ci := 2) (C := RX1) (T := TX1) (N := 5) F.1 F.2.1 F.2.2.2.2 inlX1 F.2.2.2.1 hK hP k h2 rfl 2 (by decide) (F.2.2.2.2 _ hlk) (fun _ h => h) rfl hdg kk
theorem rp_Article_stock {v : Int32} (F : CallFix p m c cc nL s args wsL_law own) (hK : va_K (kD g) vwCl (kT g) s) (hP : va_P (kD g) vwCl (kW g S) H) (hD : va_D A (kW g S)) (hS : va_S A H0 H locs) (ob : Ob S 1 a) (hlk : Cond.fieldLink own index "Pickwave$Article" "stock" "I" ∈ wsL_law) (hdg : decode cc pc = .ok (.putfield index, 3)) (kk : ∀ (H1 : Heap) (locs1 : List Loc), va_P (kD g) vwCl (kW g (setF S 12 a v)) H1 → va_D A (kW g (setF S 12 a v)) → va_S A H0 H1 locs1 → W p l e R s m args below meth c H1 locs1 cells slots Q (F0 m (pc + 3) ls rest)) : W p l e R s m args below meth c H locs cells slots Q (F0 m pc ls (.int v :: .ref a :: rest)) := by
  obtain ⟨k, h1, h2⟩ := kge_Article (g := g) ob
  have e : (kW g S).set k (a, .inr (2, [va_rf (pG S 10 a), .int (pF S 11 a), .int v, .int (pF S 13 a), .int (pF S 14 a)])) = kW g (setF S 12 a v) := kW_set hD ob.1 h1 rfl (by rw [show kF g (setF S 12 a v) a = .inr (2, [va_rf (pG S 10 a), .int (pF S 11 a), .int (pF (setF S 12 a v) 12 a), .int (pF S 13 a), .int (pF S 14 a)]) from kat_Article (S := setF S 12 a v) ob.2]; rw [uF_at]) (fun b hb => kF_F hb)
  exact va_put (D := kD g) (ci := 2) (v := .int v) (ty := tyX1 2) (C := RX1) (T := TX1) (N := 5) F.1 F.2.1 F.2.2.2.2 inlX1 tyX1 tyX1_ok nmX1 F.2.2.2.1 hK hP hD hS k h2 rfl 2 (by decide) (F.2.2.2.2 _ hlk) (fun _ h => h) rfl (by decide +kernel) rfl rfl (Nat.le_of_ble_eq_true rfl) hdg (fun H1 locs1 a1 a2 a3 => kk H1 locs1 (Eq.mp (congrArg (fun w => va_P (kD g) vwCl w H1) e) a1) (Eq.mp (congrArg (fun w => va_D A w) e) a2) a3)
theorem rg_Article_reserve (F : CallFix p m c cc nL s args wsL_law own) (hK : va_K (kD g) vwCl (kT g) s) (hP : va_P (kD g) vwCl (kW g S) H) (ob : Ob S 1 a) (hlk : Cond.fieldLink own index "Pickwave$Article" "reserve" "I" ∈ wsL_law) (hdg : decode cc pc = .ok (.getfield index, 3)) (kk : W p l e R s m args below meth c H locs cells slots Q (F0 m (pc + 3) ls (.int (pF S 13 a) :: rest))) : W p l e R s m args below meth c H locs cells slots Q (F0 m pc ls (.ref a :: rest)) := by
  obtain ⟨k, -, h2⟩ := kge_Article (g := g) ob
  exact va_get (D := kD g) (ci := 2) (C := RX1) (T := TX1) (N := 5) F.1 F.2.1 F.2.2.2.2 inlX1 F.2.2.2.1 hK hP k h2 rfl 3 (by decide) (F.2.2.2.2 _ hlk) (fun _ h => h) rfl hdg kk
theorem rp_Article_reserve {v : Int32} (F : CallFix p m c cc nL s args wsL_law own) (hK : va_K (kD g) vwCl (kT g) s) (hP : va_P (kD g) vwCl (kW g S) H) (hD : va_D A (kW g S)) (hS : va_S A H0 H locs) (ob : Ob S 1 a) (hlk : Cond.fieldLink own index "Pickwave$Article" "reserve" "I" ∈ wsL_law) (hdg : decode cc pc = .ok (.putfield index, 3)) (kk : ∀ (H1 : Heap) (locs1 : List Loc), va_P (kD g) vwCl (kW g (setF S 13 a v)) H1 → va_D A (kW g (setF S 13 a v)) → va_S A H0 H1 locs1 → W p l e R s m args below meth c H1 locs1 cells slots Q (F0 m (pc + 3) ls rest)) : W p l e R s m args below meth c H locs cells slots Q (F0 m pc ls (.int v :: .ref a :: rest)) := by
  obtain ⟨k, h1, h2⟩ := kge_Article (g := g) ob
  have e : (kW g S).set k (a, .inr (2, [va_rf (pG S 10 a), .int (pF S 11 a), .int (pF S 12 a), .int v, .int (pF S 14 a)])) = kW g (setF S 13 a v) := kW_set hD ob.1 h1 rfl (by rw [show kF g (setF S 13 a v) a = .inr (2, [va_rf (pG S 10 a), .int (pF S 11 a), .int (pF S 12 a), .int (pF (setF S 13 a v) 13 a), .int (pF S 14 a)]) from kat_Article (S := setF S 13 a v) ob.2]; rw [uF_at]) (fun b hb => kF_F hb)
  exact va_put (D := kD g) (ci := 2) (v := .int v) (ty := tyX1 3) (C := RX1) (T := TX1) (N := 5) F.1 F.2.1 F.2.2.2.2 inlX1 tyX1 tyX1_ok nmX1 F.2.2.2.1 hK hP hD hS k h2 rfl 3 (by decide) (F.2.2.2.2 _ hlk) (fun _ h => h) rfl (by decide +kernel) rfl rfl (Nat.le_of_ble_eq_true rfl) hdg (fun H1 locs1 a1 a2 a3 => kk H1 locs1 (Eq.mp (congrArg (fun w => va_P (kD g) vwCl w H1) e) a1) (Eq.mp (congrArg (fun w => va_D A w) e) a2) a3)
theorem rg_Article_promisedUnits (F : CallFix p m c cc nL s args wsL_law own) (hK : va_K (kD g) vwCl (kT g) s) (hP : va_P (kD g) vwCl (kW g S) H) (ob : Ob S 1 a) (hlk : Cond.fieldLink own index "Pickwave$Article" "promisedUnits" "I" ∈ wsL_law) (hdg : decode cc pc = .ok (.getfield index, 3)) (kk : W p l e R s m args below meth c H locs cells slots Q (F0 m (pc + 3) ls (.int (pF S 14 a) :: rest))) : W p l e R s m args below meth c H locs cells slots Q (F0 m pc ls (.ref a :: rest)) := by
  obtain ⟨k, -, h2⟩ := kge_Article (g := g) ob
  exact va_get (D := kD g) (ci := 2) (C := RX1) (T := TX1) (N := 5) F.1 F.2.1 F.2.2.2.2 inlX1 F.2.2.2.1 hK hP k h2 rfl 4 (by decide) (F.2.2.2.2 _ hlk) (fun _ h => h) rfl hdg kk
theorem rp_Article_promisedUnits {v : Int32} (F : CallFix p m c cc nL s args wsL_law own) (hK : va_K (kD g) vwCl (kT g) s) (hP : va_P (kD g) vwCl (kW g S) H) (hD : va_D A (kW g S)) (hS : va_S A H0 H locs) (ob : Ob S 1 a) (hlk : Cond.fieldLink own index "Pickwave$Article" "promisedUnits" "I" ∈ wsL_law) (hdg : decode cc pc = .ok (.putfield index, 3)) (kk : ∀ (H1 : Heap) (locs1 : List Loc), va_P (kD g) vwCl (kW g (setF S 14 a v)) H1 → va_D A (kW g (setF S 14 a v)) → va_S A H0 H1 locs1 → W p l e R s m args below meth c H1 locs1 cells slots Q (F0 m (pc + 3) ls rest)) : W p l e R s m args below meth c H locs cells slots Q (F0 m pc ls (.int v :: .ref a :: rest)) := by
  obtain ⟨k, h1, h2⟩ := kge_Article (g := g) ob
  have e : (kW g S).set k (a, .inr (2, [va_rf (pG S 10 a), .int (pF S 11 a), .int (pF S 12 a), .int (pF S 13 a), .int v])) = kW g (setF S 14 a v) := kW_set hD ob.1 h1 rfl (by rw [show kF g (setF S 14 a v) a = .inr (2, [va_rf (pG S 10 a), .int (pF S 11 a), .int (pF S 12 a), .int (pF S 13 a), .int (pF (setF S 14 a v) 14 a)]) from kat_Article (S := setF S 14 a v) ob.2]; rw [uF_at]) (fun b hb => kF_F hb)
  exact va_put (D := kD g) (ci := 2) (v := .int v) (ty := tyX1 4) (C := RX1) (T := TX1) (N := 5) F.1 F.2.1 F.2.2.2.2 inlX1 tyX1 tyX1_ok nmX1 F.2.2.2.1 hK hP hD hS k h2 rfl 4 (by decide) (F.2.2.2.2 _ hlk) (fun _ h => h) rfl (by decide +kernel) rfl rfl (Nat.le_of_ble_eq_true rfl) hdg (fun H1 locs1 a1 a2 a3 => kk H1 locs1 (Eq.mp (congrArg (fun w => va_P (kD g) vwCl w H1) e) a1) (Eq.mp (congrArg (fun w => va_D A w) e) a2) a3)
theorem rn_Article (F : CallFix p m c cc nL s args wsL_law own) (hK : va_K (kD g) vwCl (kT g) s) (hP : va_P (kD g) vwCl (kW g S) H) (hD : va_D A (kW g S)) (hS : va_S A H0 H locs) (hA : ∀ q : Nat, H0.size ≤ q → A q) (w1 : Cond.classLink own index RX1 ∈ wsL_law) (w2 : Cond.instantiable RX1 5 ∈ wsL_law) (w3 : Cond.initialized RX1 ∈ wsL_law) (hc : cells + 1 ≤ R.cells) (hs : slots + 5 ≤ R.slots) (hdg : decode cc pc = .ok (.new index, 3)) (kk : ∀ (q : Nat) (H1 : Heap), q ∉ pL S → va_P (kD g) vwCl (kW g (newO S q 1)) H1 → va_D A (kW g (newO S q 1)) → va_S A H0 H1 locs → W p l e R s m args below meth c H1 locs (cells + 1) (slots + 5) Q (F0 m (pc + 3) ls (.ref q :: rest))) : W p l e R s m args below meth c H locs cells slots Q (F0 m pc ls rest) := by
  refine va_new (D := kD g) (ci := 2) (fs := [.null, .int 0, .int 0, .int 0, .int 0]) (C := RX1) (T := TX1) (N := 5) F.1 F.2.1 F.2.2.2.2 inlX1 tyX1 tyX1_ok F.2.2.2.1 (F.2.2.2.2 _ w1) (F.2.2.2.2 _ w2) (F.2.2.2.2 _ w3) hK hP hD hS hA rfl (fun j hj => by rcases (show j = 0 ∨ j = 1 ∨ j = 2 ∨ j = 3 ∨ j = 4 by omega) with rfl | rfl | rfl | rfl | rfl <;> rfl) hc hs hdg (fun q H1 a1 a2 a3 => ?_)
  have hq : q ∉ pL S := va_pl_fresh2 (X := []) a2
  have e : kW g S ++ [(q, .inr (2, [.null, .int 0, .int 0, .int 0, .int 0]))] = kW g (newO S q 1) := kW_push hq rfl (by rw [show kF g (newO S q 1) q = .inr (2, [va_rf (va_up (pG S 10) q none q), .int (va_up (pF S 11) q 0 q), .int (va_up (pF S 12) q 0 q), .int (va_up (pF S 13) q 0 q), .int (va_up (pF S 14) q 0 q)]) from kat_Article (S := newO S q 1) (va_up_self _ _ _)]; simp only [va_up_self]; try rfl) (fun b hb => kF_O hb)
  exact kk q H1 hq (Eq.mp (congrArg (fun w => va_P (kD g) vwCl w H1) e) a1) (Eq.mp (congrArg (fun w => va_D A w) e) a2) a3
theorem rr_Article (hK : va_K (kD g) vwCl (kT g) s) (hP : va_P (kD g) vwCl (kW g S) H) (ob : Ob S 1 a) : ∃ cell : Cell, H[a]? = some cell ∧ cell.vm.isStatics = false ∧ s.vm.findClass RX1 = some cell.cls := by
  obtain ⟨k, -, h2⟩ := kge_Article (g := g) ob
  exact va_recv (D := kD g) hK hP (ci := 2) (q0 := k) (q := (RX1, TX1, 5)) rfl h2
theorem kat_Line (h : pK S a = 2) : kF g S a = .inr (3, [.int (pF S 20 a), va_rf (pG S 21 a), .int (pF S 22 a), .int (pF S 23 a), .int (pF S 24 a), .int (pF S 25 a)]) := by unfold kF; rw [h]; rfl
theorem kge_Line (ob : Ob S 2 a) : ∃ k : Nat, (kW g S)[k]? = some (a, kF g S a) ∧ (kW g S)[k]? = some (a, .inr (3, [.int (pF S 20 a), va_rf (pG S 21 a), .int (pF S 22 a), .int (pF S 23 a), .int (pF S 24 a), .int (pF S 25 a)])) := by
  obtain ⟨k, hk⟩ := kW_get (g := g) ob.1
  exact ⟨k, hk, hk.trans (congrArg (fun x => some (a, x)) (kat_Line ob.2))⟩
theorem rg_Line_number (F : CallFix p m c cc nL s args wsL_law own) (hK : va_K (kD g) vwCl (kT g) s) (hP : va_P (kD g) vwCl (kW g S) H) (ob : Ob S 2 a) (hlk : Cond.fieldLink own index "Pickwave$Line" "number" "I" ∈ wsL_law) (hdg : decode cc pc = .ok (.getfield index, 3)) (kk : W p l e R s m args below meth c H locs cells slots Q (F0 m (pc + 3) ls (.int (pF S 20 a) :: rest))) : W p l e R s m args below meth c H locs cells slots Q (F0 m pc ls (.ref a :: rest)) := by
  obtain ⟨k, -, h2⟩ := kge_Line (g := g) ob
  exact va_get (D := kD g) (ci := 3) (C := RX2) (T := TX2) (N := 6) F.1 F.2.1 F.2.2.2.2 inlX2 F.2.2.2.1 hK hP k h2 rfl 0 (by decide) (F.2.2.2.2 _ hlk) (fun _ h => h) rfl hdg kk
theorem rp_Line_number {v : Int32} (F : CallFix p m c cc nL s args wsL_law own) (hK : va_K (kD g) vwCl (kT g) s) (hP : va_P (kD g) vwCl (kW g S) H) (hD : va_D A (kW g S)) (hS : va_S A H0 H locs) (ob : Ob S 2 a) (hlk : Cond.fieldLink own index "Pickwave$Line" "number" "I" ∈ wsL_law) (hin : meth.name = "<init>") (hown0 : own = "Pickwave$Line") (hdg : decode cc pc = .ok (.putfield index, 3)) (kk : ∀ (H1 : Heap) (locs1 : List Loc), va_P (kD g) vwCl (kW g (setF S 20 a v)) H1 → va_D A (kW g (setF S 20 a v)) → va_S A H0 H1 locs1 → W p l e R s m args below meth c H1 locs1 cells slots Q (F0 m (pc + 3) ls rest)) : W p l e R s m args below meth c H locs cells slots Q (F0 m pc ls (.int v :: .ref a :: rest)) := by
  obtain ⟨k, h1, h2⟩ := kge_Line (g := g) ob
  have e : (kW g S).set k (a, .inr (3, [.int v, va_rf (pG S 21 a), .int (pF S 22 a), .int (pF S 23 a), .int (pF S 24 a), .int (pF S 25 a)])) = kW g (setF S 20 a v) := kW_set hD ob.1 h1 rfl (by rw [show kF g (setF S 20 a v) a = .inr (3, [.int (pF (setF S 20 a v) 20 a), va_rf (pG S 21 a), .int (pF S 22 a), .int (pF S 23 a), .int (pF S 24 a), .int (pF S 25 a)]) from kat_Line (S := setF S 20 a v) ob.2]; rw [uF_at]) (fun b hb => kF_F hb)
  exact va_putF (D := kD g) (ci := 3) (v := .int v) (ty := tyX2 0) (C := RX2) (T := TX2) (N := 6) F.1 F.2.1 F.2.2.2.2 inlX2 tyX2 tyX2_ok nmX2 F.2.2.2.1 hK hP hD hS k h2 rfl 0 (by decide) (F.2.2.2.2 _ hlk) (fun _ h => h) rfl hin hown0.symm (by decide +kernel) rfl rfl (Nat.le_of_ble_eq_true rfl) hdg (fun H1 locs1 a1 a2 a3 => kk H1 locs1 (Eq.mp (congrArg (fun w => va_P (kD g) vwCl w H1) e) a1) (Eq.mp (congrArg (fun w => va_D A w) e) a2) a3)
theorem rg_Line_article (F : CallFix p m c cc nL s args wsL_law own) (hK : va_K (kD g) vwCl (kT g) s) (hP : va_P (kD g) vwCl (kW g S) H) (ob : Ob S 2 a) (hlk : Cond.fieldLink own index "Pickwave$Line" "article" "LPickwave$Article;" ∈ wsL_law) (hdg : decode cc pc = .ok (.getfield index, 3)) (kk : W p l e R s m args below meth c H locs cells slots Q (F0 m (pc + 3) ls (va_rf (pG S 21 a) :: rest))) : W p l e R s m args below meth c H locs cells slots Q (F0 m pc ls (.ref a :: rest)) := by
  obtain ⟨k, -, h2⟩ := kge_Line (g := g) ob
  exact va_get (D := kD g) (ci := 3) (C := RX2) (T := TX2) (N := 6) F.1 F.2.1 F.2.2.2.2 inlX2 F.2.2.2.1 hK hP k h2 rfl 1 (by decide) (F.2.2.2.2 _ hlk) (fun _ h => h) rfl hdg kk
theorem rs_Line_article {b : Nat} (F : CallFix p m c cc nL s args wsL_law own) (hK : va_K (kD g) vwCl (kT g) s) (hP : va_P (kD g) vwCl (kW g S) H) (ob : Ob S 2 a) (hv : pG S 21 a = some b) (hlk : Cond.fieldLink own index "Pickwave$Line" "article" "LPickwave$Article;" ∈ wsL_law) (hdg : decode cc pc = .ok (.getfield index, 3)) (kk : W p l e R s m args below meth c H locs cells slots Q (F0 m (pc + 3) ls (.ref b :: rest))) : W p l e R s m args below meth c H locs cells slots Q (F0 m pc ls (.ref a :: rest)) := by
  obtain ⟨k, -, h2⟩ := kge_Line (g := g) ob
  exact va_get (D := kD g) (ci := 3) (C := RX2) (T := TX2) (N := 6) F.1 F.2.1 F.2.2.2.2 inlX2 F.2.2.2.1 hK hP k h2 rfl 1 (by decide) (F.2.2.2.2 _ hlk) (fun _ h => h) rfl hdg (by rw [hv]; exact kk)
theorem rz_Line_article (F : CallFix p m c cc nL s args wsL_law own) (hK : va_K (kD g) vwCl (kT g) s) (hP : va_P (kD g) vwCl (kW g S) H) (ob : Ob S 2 a) (hv : pG S 21 a = none) (hlk : Cond.fieldLink own index "Pickwave$Line" "article" "LPickwave$Article;" ∈ wsL_law) (hdg : decode cc pc = .ok (.getfield index, 3)) (kk : W p l e R s m args below meth c H locs cells slots Q (F0 m (pc + 3) ls (.null :: rest))) : W p l e R s m args below meth c H locs cells slots Q (F0 m pc ls (.ref a :: rest)) := by
  obtain ⟨k, -, h2⟩ := kge_Line (g := g) ob
  exact va_get (D := kD g) (ci := 3) (C := RX2) (T := TX2) (N := 6) F.1 F.2.1 F.2.2.2.2 inlX2 F.2.2.2.1 hK hP k h2 rfl 1 (by decide) (F.2.2.2.2 _ hlk) (fun _ h => h) rfl hdg (by rw [hv]; exact kk)
theorem rps_Line_article {b : Nat} (F : CallFix p m c cc nL s args wsL_law own) (hK : va_K (kD g) vwCl (kT g) s) (hP : va_P (kD g) vwCl (kW g S) H) (hD : va_D A (kW g S)) (hS : va_S A H0 H locs) (ob : Ob S 2 a) (hlk : Cond.fieldLink own index "Pickwave$Line" "article" "LPickwave$Article;" ∈ wsL_law) (hin : meth.name = "<init>") (hown0 : own = "Pickwave$Line") (hdg : decode cc pc = .ok (.putfield index, 3)) (kk : ∀ (H1 : Heap) (locs1 : List Loc), va_P (kD g) vwCl (kW g (setG S 21 a (some b))) H1 → va_D A (kW g (setG S 21 a (some b))) → va_S A H0 H1 locs1 → W p l e R s m args below meth c H1 locs1 cells slots Q (F0 m (pc + 3) ls rest)) : W p l e R s m args below meth c H locs cells slots Q (F0 m pc ls (.ref b :: .ref a :: rest)) := by
  obtain ⟨k, h1, h2⟩ := kge_Line (g := g) ob
  have e : (kW g S).set k (a, .inr (3, [.int (pF S 20 a), .ref b, .int (pF S 22 a), .int (pF S 23 a), .int (pF S 24 a), .int (pF S 25 a)])) = kW g (setG S 21 a (some b)) := kW_set hD ob.1 h1 rfl (by rw [show kF g (setG S 21 a (some b)) a = .inr (3, [.int (pF S 20 a), va_rf (pG (setG S 21 a (some b)) 21 a), .int (pF S 22 a), .int (pF S 23 a), .int (pF S 24 a), .int (pF S 25 a)]) from kat_Line (S := setG S 21 a (some b)) ob.2]; rw [uG_at]; rfl) (fun b hb => kF_G hb)
  exact va_putF (D := kD g) (ci := 3) (v := .ref b) (ty := tyX2 1) (C := RX2) (T := TX2) (N := 6) F.1 F.2.1 F.2.2.2.2 inlX2 tyX2 tyX2_ok nmX2 F.2.2.2.1 hK hP hD hS k h2 rfl 1 (by decide) (F.2.2.2.2 _ hlk) (fun _ h => h) rfl hin hown0.symm (by decide +kernel) rfl rfl (Nat.le_of_ble_eq_true rfl) hdg (fun H1 locs1 a1 a2 a3 => kk H1 locs1 (Eq.mp (congrArg (fun w => va_P (kD g) vwCl w H1) e) a1) (Eq.mp (congrArg (fun w => va_D A w) e) a2) a3)
theorem rpn_Line_article (F : CallFix p m c cc nL s args wsL_law own) (hK : va_K (kD g) vwCl (kT g) s) (hP : va_P (kD g) vwCl (kW g S) H) (hD : va_D A (kW g S)) (hS : va_S A H0 H locs) (ob : Ob S 2 a) (hlk : Cond.fieldLink own index "Pickwave$Line" "article" "LPickwave$Article;" ∈ wsL_law) (hin : meth.name = "<init>") (hown0 : own = "Pickwave$Line") (hdg : decode cc pc = .ok (.putfield index, 3)) (kk : ∀ (H1 : Heap) (locs1 : List Loc), va_P (kD g) vwCl (kW g (setG S 21 a none)) H1 → va_D A (kW g (setG S 21 a none)) → va_S A H0 H1 locs1 → W p l e R s m args below meth c H1 locs1 cells slots Q (F0 m (pc + 3) ls rest)) : W p l e R s m args below meth c H locs cells slots Q (F0 m pc ls (.null :: .ref a :: rest)) := by
  obtain ⟨k, h1, h2⟩ := kge_Line (g := g) ob
  have e : (kW g S).set k (a, .inr (3, [.int (pF S 20 a), .null, .int (pF S 22 a), .int (pF S 23 a), .int (pF S 24 a), .int (pF S 25 a)])) = kW g (setG S 21 a none) := kW_set hD ob.1 h1 rfl (by rw [show kF g (setG S 21 a none) a = .inr (3, [.int (pF S 20 a), va_rf (pG (setG S 21 a none) 21 a), .int (pF S 22 a), .int (pF S 23 a), .int (pF S 24 a), .int (pF S 25 a)]) from kat_Line (S := setG S 21 a none) ob.2]; rw [uG_at]; rfl) (fun b hb => kF_G hb)
  exact va_putF (D := kD g) (ci := 3) (v := .null) (ty := tyX2 1) (C := RX2) (T := TX2) (N := 6) F.1 F.2.1 F.2.2.2.2 inlX2 tyX2 tyX2_ok nmX2 F.2.2.2.1 hK hP hD hS k h2 rfl 1 (by decide) (F.2.2.2.2 _ hlk) (fun _ h => h) rfl hin hown0.symm (by decide +kernel) rfl rfl (Nat.le_of_ble_eq_true rfl) hdg (fun H1 locs1 a1 a2 a3 => kk H1 locs1 (Eq.mp (congrArg (fun w => va_P (kD g) vwCl w H1) e) a1) (Eq.mp (congrArg (fun w => va_D A w) e) a2) a3)
theorem rg_Line_carrier (F : CallFix p m c cc nL s args wsL_law own) (hK : va_K (kD g) vwCl (kT g) s) (hP : va_P (kD g) vwCl (kW g S) H) (ob : Ob S 2 a) (hlk : Cond.fieldLink own index "Pickwave$Line" "carrier" "I" ∈ wsL_law) (hdg : decode cc pc = .ok (.getfield index, 3)) (kk : W p l e R s m args below meth c H locs cells slots Q (F0 m (pc + 3) ls (.int (pF S 22 a) :: rest))) : W p l e R s m args below meth c H locs cells slots Q (F0 m pc ls (.ref a :: rest)) := by
  obtain ⟨k, -, h2⟩ := kge_Line (g := g) ob
  exact va_get (D := kD g) (ci := 3) (C := RX2) (T := TX2) (N := 6) F.1 F.2.1 F.2.2.2.2 inlX2 F.2.2.2.1 hK hP k h2 rfl 2 (by decide) (F.2.2.2.2 _ hlk) (fun _ h => h) rfl hdg kk
theorem rp_Line_carrier {v : Int32} (F : CallFix p m c cc nL s args wsL_law own) (hK : va_K (kD g) vwCl (kT g) s) (hP : va_P (kD g) vwCl (kW g S) H) (hD : va_D A (kW g S)) (hS : va_S A H0 H locs) (ob : Ob S 2 a) (hlk : Cond.fieldLink own index "Pickwave$Line" "carrier" "I" ∈ wsL_law) (hin : meth.name = "<init>") (hown0 : own = "Pickwave$Line") (hdg : decode cc pc = .ok (.putfield index, 3)) (kk : ∀ (H1 : Heap) (locs1 : List Loc), va_P (kD g) vwCl (kW g (setF S 22 a v)) H1 → va_D A (kW g (setF S 22 a v)) → va_S A H0 H1 locs1 → W p l e R s m args below meth c H1 locs1 cells slots Q (F0 m (pc + 3) ls rest)) : W p l e R s m args below meth c H locs cells slots Q (F0 m pc ls (.int v :: .ref a :: rest)) := by
  obtain ⟨k, h1, h2⟩ := kge_Line (g := g) ob
  have e : (kW g S).set k (a, .inr (3, [.int (pF S 20 a), va_rf (pG S 21 a), .int v, .int (pF S 23 a), .int (pF S 24 a), .int (pF S 25 a)])) = kW g (setF S 22 a v) := kW_set hD ob.1 h1 rfl (by rw [show kF g (setF S 22 a v) a = .inr (3, [.int (pF S 20 a), va_rf (pG S 21 a), .int (pF (setF S 22 a v) 22 a), .int (pF S 23 a), .int (pF S 24 a), .int (pF S 25 a)]) from kat_Line (S := setF S 22 a v) ob.2]; rw [uF_at]) (fun b hb => kF_F hb)
  exact va_putF (D := kD g) (ci := 3) (v := .int v) (ty := tyX2 2) (C := RX2) (T := TX2) (N := 6) F.1 F.2.1 F.2.2.2.2 inlX2 tyX2 tyX2_ok nmX2 F.2.2.2.1 hK hP hD hS k h2 rfl 2 (by decide) (F.2.2.2.2 _ hlk) (fun _ h => h) rfl hin hown0.symm (by decide +kernel) rfl rfl (Nat.le_of_ble_eq_true rfl) hdg (fun H1 locs1 a1 a2 a3 => kk H1 locs1 (Eq.mp (congrArg (fun w => va_P (kD g) vwCl w H1) e) a1) (Eq.mp (congrArg (fun w => va_D A w) e) a2) a3)
theorem rg_Line_amount (F : CallFix p m c cc nL s args wsL_law own) (hK : va_K (kD g) vwCl (kT g) s) (hP : va_P (kD g) vwCl (kW g S) H) (ob : Ob S 2 a) (hlk : Cond.fieldLink own index "Pickwave$Line" "amount" "I" ∈ wsL_law) (hdg : decode cc pc = .ok (.getfield index, 3)) (kk : W p l e R s m args below meth c H locs cells slots Q (F0 m (pc + 3) ls (.int (pF S 23 a) :: rest))) : W p l e R s m args below meth c H locs cells slots Q (F0 m pc ls (.ref a :: rest)) := by
  obtain ⟨k, -, h2⟩ := kge_Line (g := g) ob
  exact va_get (D := kD g) (ci := 3) (C := RX2) (T := TX2) (N := 6) F.1 F.2.1 F.2.2.2.2 inlX2 F.2.2.2.1 hK hP k h2 rfl 3 (by decide) (F.2.2.2.2 _ hlk) (fun _ h => h) rfl hdg kk
theorem rp_Line_amount {v : Int32} (F : CallFix p m c cc nL s args wsL_law own) (hK : va_K (kD g) vwCl (kT g) s) (hP : va_P (kD g) vwCl (kW g S) H) (hD : va_D A (kW g S)) (hS : va_S A H0 H locs) (ob : Ob S 2 a) (hlk : Cond.fieldLink own index "Pickwave$Line" "amount" "I" ∈ wsL_law) (hdg : decode cc pc = .ok (.putfield index, 3)) (kk : ∀ (H1 : Heap) (locs1 : List Loc), va_P (kD g) vwCl (kW g (setF S 23 a v)) H1 → va_D A (kW g (setF S 23 a v)) → va_S A H0 H1 locs1 → W p l e R s m args below meth c H1 locs1 cells slots Q (F0 m (pc + 3) ls rest)) : W p l e R s m args below meth c H locs cells slots Q (F0 m pc ls (.int v :: .ref a :: rest)) := by
  obtain ⟨k, h1, h2⟩ := kge_Line (g := g) ob
  have e : (kW g S).set k (a, .inr (3, [.int (pF S 20 a), va_rf (pG S 21 a), .int (pF S 22 a), .int v, .int (pF S 24 a), .int (pF S 25 a)])) = kW g (setF S 23 a v) := kW_set hD ob.1 h1 rfl (by rw [show kF g (setF S 23 a v) a = .inr (3, [.int (pF S 20 a), va_rf (pG S 21 a), .int (pF S 22 a), .int (pF (setF S 23 a v) 23 a), .int (pF S 24 a), .int (pF S 25 a)]) from kat_Line (S := setF S 23 a v) ob.2]; rw [uF_at]) (fun b hb => kF_F hb)
  exact va_put (D := kD g) (ci := 3) (v := .int v) (ty := tyX2 3) (C := RX2) (T := TX2) (N := 6) F.1 F.2.1 F.2.2.2.2 inlX2 tyX2 tyX2_ok nmX2 F.2.2.2.1 hK hP hD hS k h2 rfl 3 (by decide) (F.2.2.2.2 _ hlk) (fun _ h => h) rfl (by decide +kernel) rfl rfl (Nat.le_of_ble_eq_true rfl) hdg (fun H1 locs1 a1 a2 a3 => kk H1 locs1 (Eq.mp (congrArg (fun w => va_P (kD g) vwCl w H1) e) a1) (Eq.mp (congrArg (fun w => va_D A w) e) a2) a3)
theorem rg_Line_state (F : CallFix p m c cc nL s args wsL_law own) (hK : va_K (kD g) vwCl (kT g) s) (hP : va_P (kD g) vwCl (kW g S) H) (ob : Ob S 2 a) (hlk : Cond.fieldLink own index "Pickwave$Line" "state" "C" ∈ wsL_law) (hdg : decode cc pc = .ok (.getfield index, 3)) (kk : W p l e R s m args below meth c H locs cells slots Q (F0 m (pc + 3) ls (.int (pF S 24 a) :: rest))) : W p l e R s m args below meth c H locs cells slots Q (F0 m pc ls (.ref a :: rest)) := by
  obtain ⟨k, -, h2⟩ := kge_Line (g := g) ob
  exact va_get (D := kD g) (ci := 3) (C := RX2) (T := TX2) (N := 6) F.1 F.2.1 F.2.2.2.2 inlX2 F.2.2.2.1 hK hP k h2 rfl 4 (by decide) (F.2.2.2.2 _ hlk) (fun _ h => h) rfl hdg kk
theorem rp_Line_state {v : Int32} (F : CallFix p m c cc nL s args wsL_law own) (hK : va_K (kD g) vwCl (kT g) s) (hP : va_P (kD g) vwCl (kW g S) H) (hD : va_D A (kW g S)) (hS : va_S A H0 H locs) (ob : Ob S 2 a) (hlk : Cond.fieldLink own index "Pickwave$Line" "state" "C" ∈ wsL_law) (hn : narrow .char (.int v) = .int v) (hft : fits .char (.int v) = true) (hdg : decode cc pc = .ok (.putfield index, 3)) (kk : ∀ (H1 : Heap) (locs1 : List Loc), va_P (kD g) vwCl (kW g (setF S 24 a v)) H1 → va_D A (kW g (setF S 24 a v)) → va_S A H0 H1 locs1 → W p l e R s m args below meth c H1 locs1 cells slots Q (F0 m (pc + 3) ls rest)) : W p l e R s m args below meth c H locs cells slots Q (F0 m pc ls (.int v :: .ref a :: rest)) := by
  obtain ⟨k, h1, h2⟩ := kge_Line (g := g) ob
  have e : (kW g S).set k (a, .inr (3, [.int (pF S 20 a), va_rf (pG S 21 a), .int (pF S 22 a), .int (pF S 23 a), .int v, .int (pF S 25 a)])) = kW g (setF S 24 a v) := kW_set hD ob.1 h1 rfl (by rw [show kF g (setF S 24 a v) a = .inr (3, [.int (pF S 20 a), va_rf (pG S 21 a), .int (pF S 22 a), .int (pF S 23 a), .int (pF (setF S 24 a v) 24 a), .int (pF S 25 a)]) from kat_Line (S := setF S 24 a v) ob.2]; rw [uF_at]) (fun b hb => kF_F hb)
  exact va_put (D := kD g) (ci := 3) (v := .int v) (ty := tyX2 4) (C := RX2) (T := TX2) (N := 6) F.1 F.2.1 F.2.2.2.2 inlX2 tyX2 tyX2_ok nmX2 F.2.2.2.1 hK hP hD hS k h2 rfl 4 (by decide) (F.2.2.2.2 _ hlk) (fun _ h => h) rfl (by decide +kernel) hn hft (Nat.le_of_ble_eq_true rfl) hdg (fun H1 locs1 a1 a2 a3 => kk H1 locs1 (Eq.mp (congrArg (fun w => va_P (kD g) vwCl w H1) e) a1) (Eq.mp (congrArg (fun w => va_D A w) e) a2) a3)
theorem rg_Line_lastWave (F : CallFix p m c cc nL s args wsL_law own) (hK : va_K (kD g) vwCl (kT g) s) (hP : va_P (kD g) vwCl (kW g S) H) (ob : Ob S 2 a) (hlk : Cond.fieldLink own index "Pickwave$Line" "lastWave" "I" ∈ wsL_law) (hdg : decode cc pc = .ok (.getfield index, 3)) (kk : W p l e R s m args below meth c H locs cells slots Q (F0 m (pc + 3) ls (.int (pF S 25 a) :: rest))) : W p l e R s m args below meth c H locs cells slots Q (F0 m pc ls (.ref a :: rest)) := by
  obtain ⟨k, -, h2⟩ := kge_Line (g := g) ob
  exact va_get (D := kD g) (ci := 3) (C := RX2) (T := TX2) (N := 6) F.1 F.2.1 F.2.2.2.2 inlX2 F.2.2.2.1 hK hP k h2 rfl 5 (by decide) (F.2.2.2.2 _ hlk) (fun _ h => h) rfl hdg kk
theorem rp_Line_lastWave {v : Int32} (F : CallFix p m c cc nL s args wsL_law own) (hK : va_K (kD g) vwCl (kT g) s) (hP : va_P (kD g) vwCl (kW g S) H) (hD : va_D A (kW g S)) (hS : va_S A H0 H locs) (ob : Ob S 2 a) (hlk : Cond.fieldLink own index "Pickwave$Line" "lastWave" "I" ∈ wsL_law) (hdg : decode cc pc = .ok (.putfield index, 3)) (kk : ∀ (H1 : Heap) (locs1 : List Loc), va_P (kD g) vwCl (kW g (setF S 25 a v)) H1 → va_D A (kW g (setF S 25 a v)) → va_S A H0 H1 locs1 → W p l e R s m args below meth c H1 locs1 cells slots Q (F0 m (pc + 3) ls rest)) : W p l e R s m args below meth c H locs cells slots Q (F0 m pc ls (.int v :: .ref a :: rest)) := by
  obtain ⟨k, h1, h2⟩ := kge_Line (g := g) ob
  have e : (kW g S).set k (a, .inr (3, [.int (pF S 20 a), va_rf (pG S 21 a), .int (pF S 22 a), .int (pF S 23 a), .int (pF S 24 a), .int v])) = kW g (setF S 25 a v) := kW_set hD ob.1 h1 rfl (by rw [show kF g (setF S 25 a v) a = .inr (3, [.int (pF S 20 a), va_rf (pG S 21 a), .int (pF S 22 a), .int (pF S 23 a), .int (pF S 24 a), .int (pF (setF S 25 a v) 25 a)]) from kat_Line (S := setF S 25 a v) ob.2]; rw [uF_at]) (fun b hb => kF_F hb)
  exact va_put (D := kD g) (ci := 3) (v := .int v) (ty := tyX2 5) (C := RX2) (T := TX2) (N := 6) F.1 F.2.1 F.2.2.2.2 inlX2 tyX2 tyX2_ok nmX2 F.2.2.2.1 hK hP hD hS k h2 rfl 5 (by decide) (F.2.2.2.2 _ hlk) (fun _ h => h) rfl (by decide +kernel) rfl rfl (Nat.le_of_ble_eq_true rfl) hdg (fun H1 locs1 a1 a2 a3 => kk H1 locs1 (Eq.mp (congrArg (fun w => va_P (kD g) vwCl w H1) e) a1) (Eq.mp (congrArg (fun w => va_D A w) e) a2) a3)
theorem rn_Line (F : CallFix p m c cc nL s args wsL_law own) (hK : va_K (kD g) vwCl (kT g) s) (hP : va_P (kD g) vwCl (kW g S) H) (hD : va_D A (kW g S)) (hS : va_S A H0 H locs) (hA : ∀ q : Nat, H0.size ≤ q → A q) (w1 : Cond.classLink own index RX2 ∈ wsL_law) (w2 : Cond.instantiable RX2 6 ∈ wsL_law) (w3 : Cond.initialized RX2 ∈ wsL_law) (hc : cells + 1 ≤ R.cells) (hs : slots + 6 ≤ R.slots) (hdg : decode cc pc = .ok (.new index, 3)) (kk : ∀ (q : Nat) (H1 : Heap), q ∉ pL S → va_P (kD g) vwCl (kW g (newO S q 2)) H1 → va_D A (kW g (newO S q 2)) → va_S A H0 H1 locs → W p l e R s m args below meth c H1 locs (cells + 1) (slots + 6) Q (F0 m (pc + 3) ls (.ref q :: rest))) : W p l e R s m args below meth c H locs cells slots Q (F0 m pc ls rest) := by
  refine va_new (D := kD g) (ci := 3) (fs := [.int 0, .null, .int 0, .int 0, .int 0, .int 0]) (C := RX2) (T := TX2) (N := 6) F.1 F.2.1 F.2.2.2.2 inlX2 tyX2 tyX2_ok F.2.2.2.1 (F.2.2.2.2 _ w1) (F.2.2.2.2 _ w2) (F.2.2.2.2 _ w3) hK hP hD hS hA rfl (fun j hj => by rcases (show j = 0 ∨ j = 1 ∨ j = 2 ∨ j = 3 ∨ j = 4 ∨ j = 5 by omega) with rfl | rfl | rfl | rfl | rfl | rfl <;> rfl) hc hs hdg (fun q H1 a1 a2 a3 => ?_)
  have hq : q ∉ pL S := va_pl_fresh2 (X := []) a2
  have e : kW g S ++ [(q, .inr (3, [.int 0, .null, .int 0, .int 0, .int 0, .int 0]))] = kW g (newO S q 2) := kW_push hq rfl (by rw [show kF g (newO S q 2) q = .inr (3, [.int (va_up (pF S 20) q 0 q), va_rf (va_up (pG S 21) q none q), .int (va_up (pF S 22) q 0 q), .int (va_up (pF S 23) q 0 q), .int (va_up (pF S 24) q 0 q), .int (va_up (pF S 25) q 0 q)]) from kat_Line (S := newO S q 2) (va_up_self _ _ _)]; simp only [va_up_self]; try rfl) (fun b hb => kF_O hb)
  exact kk q H1 hq (Eq.mp (congrArg (fun w => va_P (kD g) vwCl w H1) e) a1) (Eq.mp (congrArg (fun w => va_D A w) e) a2) a3
theorem rr_Line (hK : va_K (kD g) vwCl (kT g) s) (hP : va_P (kD g) vwCl (kW g S) H) (ob : Ob S 2 a) : ∃ cell : Cell, H[a]? = some cell ∧ cell.vm.isStatics = false ∧ s.vm.findClass RX2 = some cell.cls := by
  obtain ⟨k, -, h2⟩ := kge_Line (g := g) ob
  exact va_recv (D := kD g) hK hP (ci := 3) (q0 := k) (q := (RX2, TX2, 6)) rfl h2
theorem kat_Robot (h : pK S a = 3) : kF g S a = .inr (4, [va_rf (pG S 30 a), .int (pF S 31 a), .int (pF S 32 a)]) := by unfold kF; rw [h]; rfl
theorem kge_Robot (ob : Ob S 3 a) : ∃ k : Nat, (kW g S)[k]? = some (a, kF g S a) ∧ (kW g S)[k]? = some (a, .inr (4, [va_rf (pG S 30 a), .int (pF S 31 a), .int (pF S 32 a)])) := by
  obtain ⟨k, hk⟩ := kW_get (g := g) ob.1
  exact ⟨k, hk, hk.trans (congrArg (fun x => some (a, x)) (kat_Robot ob.2))⟩
theorem rg_Robot_article (F : CallFix p m c cc nL s args wsL_law own) (hK : va_K (kD g) vwCl (kT g) s) (hP : va_P (kD g) vwCl (kW g S) H) (ob : Ob S 3 a) (hlk : Cond.fieldLink own index "Pickwave$Robot" "article" "LPickwave$Article;" ∈ wsL_law) (hdg : decode cc pc = .ok (.getfield index, 3)) (kk : W p l e R s m args below meth c H locs cells slots Q (F0 m (pc + 3) ls (va_rf (pG S 30 a) :: rest))) : W p l e R s m args below meth c H locs cells slots Q (F0 m pc ls (.ref a :: rest)) := by
  obtain ⟨k, -, h2⟩ := kge_Robot (g := g) ob
  exact va_get (D := kD g) (ci := 4) (C := RX3) (T := TX3) (N := 3) F.1 F.2.1 F.2.2.2.2 inlX3 F.2.2.2.1 hK hP k h2 rfl 0 (by decide) (F.2.2.2.2 _ hlk) (fun _ h => h) rfl hdg kk
theorem rs_Robot_article {b : Nat} (F : CallFix p m c cc nL s args wsL_law own) (hK : va_K (kD g) vwCl (kT g) s) (hP : va_P (kD g) vwCl (kW g S) H) (ob : Ob S 3 a) (hv : pG S 30 a = some b) (hlk : Cond.fieldLink own index "Pickwave$Robot" "article" "LPickwave$Article;" ∈ wsL_law) (hdg : decode cc pc = .ok (.getfield index, 3)) (kk : W p l e R s m args below meth c H locs cells slots Q (F0 m (pc + 3) ls (.ref b :: rest))) : W p l e R s m args below meth c H locs cells slots Q (F0 m pc ls (.ref a :: rest)) := by
  obtain ⟨k, -, h2⟩ := kge_Robot (g := g) ob
  exact va_get (D := kD g) (ci := 4) (C := RX3) (T := TX3) (N := 3) F.1 F.2.1 F.2.2.2.2 inlX3 F.2.2.2.1 hK hP k h2 rfl 0 (by decide) (F.2.2.2.2 _ hlk) (fun _ h => h) rfl hdg (by rw [hv]; exact kk)
theorem rz_Robot_article (F : CallFix p m c cc nL s args wsL_law own) (hK : va_K (kD g) vwCl (kT g) s) (hP : va_P (kD g) vwCl (kW g S) H) (ob : Ob S 3 a) (hv : pG S 30 a = none) (hlk : Cond.fieldLink own index "Pickwave$Robot" "article" "LPickwave$Article;" ∈ wsL_law) (hdg : decode cc pc = .ok (.getfield index, 3)) (kk : W p l e R s m args below meth c H locs cells slots Q (F0 m (pc + 3) ls (.null :: rest))) : W p l e R s m args below meth c H locs cells slots Q (F0 m pc ls (.ref a :: rest)) := by
  obtain ⟨k, -, h2⟩ := kge_Robot (g := g) ob
  exact va_get (D := kD g) (ci := 4) (C := RX3) (T := TX3) (N := 3) F.1 F.2.1 F.2.2.2.2 inlX3 F.2.2.2.1 hK hP k h2 rfl 0 (by decide) (F.2.2.2.2 _ hlk) (fun _ h => h) rfl hdg (by rw [hv]; exact kk)
theorem rps_Robot_article {b : Nat} (F : CallFix p m c cc nL s args wsL_law own) (hK : va_K (kD g) vwCl (kT g) s) (hP : va_P (kD g) vwCl (kW g S) H) (hD : va_D A (kW g S)) (hS : va_S A H0 H locs) (ob : Ob S 3 a) (hlk : Cond.fieldLink own index "Pickwave$Robot" "article" "LPickwave$Article;" ∈ wsL_law) (hdg : decode cc pc = .ok (.putfield index, 3)) (kk : ∀ (H1 : Heap) (locs1 : List Loc), va_P (kD g) vwCl (kW g (setG S 30 a (some b))) H1 → va_D A (kW g (setG S 30 a (some b))) → va_S A H0 H1 locs1 → W p l e R s m args below meth c H1 locs1 cells slots Q (F0 m (pc + 3) ls rest)) : W p l e R s m args below meth c H locs cells slots Q (F0 m pc ls (.ref b :: .ref a :: rest)) := by
  obtain ⟨k, h1, h2⟩ := kge_Robot (g := g) ob
  have e : (kW g S).set k (a, .inr (4, [.ref b, .int (pF S 31 a), .int (pF S 32 a)])) = kW g (setG S 30 a (some b)) := kW_set hD ob.1 h1 rfl (by rw [show kF g (setG S 30 a (some b)) a = .inr (4, [va_rf (pG (setG S 30 a (some b)) 30 a), .int (pF S 31 a), .int (pF S 32 a)]) from kat_Robot (S := setG S 30 a (some b)) ob.2]; rw [uG_at]; rfl) (fun b hb => kF_G hb)
  exact va_put (D := kD g) (ci := 4) (v := .ref b) (ty := tyX3 0) (C := RX3) (T := TX3) (N := 3) F.1 F.2.1 F.2.2.2.2 inlX3 tyX3 tyX3_ok nmX3 F.2.2.2.1 hK hP hD hS k h2 rfl 0 (by decide) (F.2.2.2.2 _ hlk) (fun _ h => h) rfl (by decide +kernel) rfl rfl (Nat.le_of_ble_eq_true rfl) hdg (fun H1 locs1 a1 a2 a3 => kk H1 locs1 (Eq.mp (congrArg (fun w => va_P (kD g) vwCl w H1) e) a1) (Eq.mp (congrArg (fun w => va_D A w) e) a2) a3)
theorem rpn_Robot_article (F : CallFix p m c cc nL s args wsL_law own) (hK : va_K (kD g) vwCl (kT g) s) (hP : va_P (kD g) vwCl (kW g S) H) (hD : va_D A (kW g S)) (hS : va_S A H0 H locs) (ob : Ob S 3 a) (hlk : Cond.fieldLink own index "Pickwave$Robot" "article" "LPickwave$Article;" ∈ wsL_law) (hdg : decode cc pc = .ok (.putfield index, 3)) (kk : ∀ (H1 : Heap) (locs1 : List Loc), va_P (kD g) vwCl (kW g (setG S 30 a none)) H1 → va_D A (kW g (setG S 30 a none)) → va_S A H0 H1 locs1 → W p l e R s m args below meth c H1 locs1 cells slots Q (F0 m (pc + 3) ls rest)) : W p l e R s m args below meth c H locs cells slots Q (F0 m pc ls (.null :: .ref a :: rest)) := by
  obtain ⟨k, h1, h2⟩ := kge_Robot (g := g) ob
  have e : (kW g S).set k (a, .inr (4, [.null, .int (pF S 31 a), .int (pF S 32 a)])) = kW g (setG S 30 a none) := kW_set hD ob.1 h1 rfl (by rw [show kF g (setG S 30 a none) a = .inr (4, [va_rf (pG (setG S 30 a none) 30 a), .int (pF S 31 a), .int (pF S 32 a)]) from kat_Robot (S := setG S 30 a none) ob.2]; rw [uG_at]; rfl) (fun b hb => kF_G hb)
  exact va_put (D := kD g) (ci := 4) (v := .null) (ty := tyX3 0) (C := RX3) (T := TX3) (N := 3) F.1 F.2.1 F.2.2.2.2 inlX3 tyX3 tyX3_ok nmX3 F.2.2.2.1 hK hP hD hS k h2 rfl 0 (by decide) (F.2.2.2.2 _ hlk) (fun _ h => h) rfl (by decide +kernel) rfl rfl (Nat.le_of_ble_eq_true rfl) hdg (fun H1 locs1 a1 a2 a3 => kk H1 locs1 (Eq.mp (congrArg (fun w => va_P (kD g) vwCl w H1) e) a1) (Eq.mp (congrArg (fun w => va_D A w) e) a2) a3)
theorem rg_Robot_load (F : CallFix p m c cc nL s args wsL_law own) (hK : va_K (kD g) vwCl (kT g) s) (hP : va_P (kD g) vwCl (kW g S) H) (ob : Ob S 3 a) (hlk : Cond.fieldLink own index "Pickwave$Robot" "load" "I" ∈ wsL_law) (hdg : decode cc pc = .ok (.getfield index, 3)) (kk : W p l e R s m args below meth c H locs cells slots Q (F0 m (pc + 3) ls (.int (pF S 31 a) :: rest))) : W p l e R s m args below meth c H locs cells slots Q (F0 m pc ls (.ref a :: rest)) := by
  obtain ⟨k, -, h2⟩ := kge_Robot (g := g) ob
  exact va_get (D := kD g) (ci := 4) (C := RX3) (T := TX3) (N := 3) F.1 F.2.1 F.2.2.2.2 inlX3 F.2.2.2.1 hK hP k h2 rfl 1 (by decide) (F.2.2.2.2 _ hlk) (fun _ h => h) rfl hdg kk
theorem rp_Robot_load {v : Int32} (F : CallFix p m c cc nL s args wsL_law own) (hK : va_K (kD g) vwCl (kT g) s) (hP : va_P (kD g) vwCl (kW g S) H) (hD : va_D A (kW g S)) (hS : va_S A H0 H locs) (ob : Ob S 3 a) (hlk : Cond.fieldLink own index "Pickwave$Robot" "load" "I" ∈ wsL_law) (hdg : decode cc pc = .ok (.putfield index, 3)) (kk : ∀ (H1 : Heap) (locs1 : List Loc), va_P (kD g) vwCl (kW g (setF S 31 a v)) H1 → va_D A (kW g (setF S 31 a v)) → va_S A H0 H1 locs1 → W p l e R s m args below meth c H1 locs1 cells slots Q (F0 m (pc + 3) ls rest)) : W p l e R s m args below meth c H locs cells slots Q (F0 m pc ls (.int v :: .ref a :: rest)) := by
  obtain ⟨k, h1, h2⟩ := kge_Robot (g := g) ob
  have e : (kW g S).set k (a, .inr (4, [va_rf (pG S 30 a), .int v, .int (pF S 32 a)])) = kW g (setF S 31 a v) := kW_set hD ob.1 h1 rfl (by rw [show kF g (setF S 31 a v) a = .inr (4, [va_rf (pG S 30 a), .int (pF (setF S 31 a v) 31 a), .int (pF S 32 a)]) from kat_Robot (S := setF S 31 a v) ob.2]; rw [uF_at]) (fun b hb => kF_F hb)
  exact va_put (D := kD g) (ci := 4) (v := .int v) (ty := tyX3 1) (C := RX3) (T := TX3) (N := 3) F.1 F.2.1 F.2.2.2.2 inlX3 tyX3 tyX3_ok nmX3 F.2.2.2.1 hK hP hD hS k h2 rfl 1 (by decide) (F.2.2.2.2 _ hlk) (fun _ h => h) rfl (by decide +kernel) rfl rfl (Nat.le_of_ble_eq_true rfl) hdg (fun H1 locs1 a1 a2 a3 => kk H1 locs1 (Eq.mp (congrArg (fun w => va_P (kD g) vwCl w H1) e) a1) (Eq.mp (congrArg (fun w => va_D A w) e) a2) a3)
theorem rg_Robot_minutes (F : CallFix p m c cc nL s args wsL_law own) (hK : va_K (kD g) vwCl (kT g) s) (hP : va_P (kD g) vwCl (kW g S) H) (ob : Ob S 3 a) (hlk : Cond.fieldLink own index "Pickwave$Robot" "minutes" "I" ∈ wsL_law) (hdg : decode cc pc = .ok (.getfield index, 3)) (kk : W p l e R s m args below meth c H locs cells slots Q (F0 m (pc + 3) ls (.int (pF S 32 a) :: rest))) : W p l e R s m args below meth c H locs cells slots Q (F0 m pc ls (.ref a :: rest)) := by
  obtain ⟨k, -, h2⟩ := kge_Robot (g := g) ob
  exact va_get (D := kD g) (ci := 4) (C := RX3) (T := TX3) (N := 3) F.1 F.2.1 F.2.2.2.2 inlX3 F.2.2.2.1 hK hP k h2 rfl 2 (by decide) (F.2.2.2.2 _ hlk) (fun _ h => h) rfl hdg kk
theorem rp_Robot_minutes {v : Int32} (F : CallFix p m c cc nL s args wsL_law own) (hK : va_K (kD g) vwCl (kT g) s) (hP : va_P (kD g) vwCl (kW g S) H) (hD : va_D A (kW g S)) (hS : va_S A H0 H locs) (ob : Ob S 3 a) (hlk : Cond.fieldLink own index "Pickwave$Robot" "minutes" "I" ∈ wsL_law) (hdg : decode cc pc = .ok (.putfield index, 3)) (kk : ∀ (H1 : Heap) (locs1 : List Loc), va_P (kD g) vwCl (kW g (setF S 32 a v)) H1 → va_D A (kW g (setF S 32 a v)) → va_S A H0 H1 locs1 → W p l e R s m args below meth c H1 locs1 cells slots Q (F0 m (pc + 3) ls rest)) : W p l e R s m args below meth c H locs cells slots Q (F0 m pc ls (.int v :: .ref a :: rest)) := by
  obtain ⟨k, h1, h2⟩ := kge_Robot (g := g) ob
  have e : (kW g S).set k (a, .inr (4, [va_rf (pG S 30 a), .int (pF S 31 a), .int v])) = kW g (setF S 32 a v) := kW_set hD ob.1 h1 rfl (by rw [show kF g (setF S 32 a v) a = .inr (4, [va_rf (pG S 30 a), .int (pF S 31 a), .int (pF (setF S 32 a v) 32 a)]) from kat_Robot (S := setF S 32 a v) ob.2]; rw [uF_at]) (fun b hb => kF_F hb)
  exact va_put (D := kD g) (ci := 4) (v := .int v) (ty := tyX3 2) (C := RX3) (T := TX3) (N := 3) F.1 F.2.1 F.2.2.2.2 inlX3 tyX3 tyX3_ok nmX3 F.2.2.2.1 hK hP hD hS k h2 rfl 2 (by decide) (F.2.2.2.2 _ hlk) (fun _ h => h) rfl (by decide +kernel) rfl rfl (Nat.le_of_ble_eq_true rfl) hdg (fun H1 locs1 a1 a2 a3 => kk H1 locs1 (Eq.mp (congrArg (fun w => va_P (kD g) vwCl w H1) e) a1) (Eq.mp (congrArg (fun w => va_D A w) e) a2) a3)
theorem rn_Robot (F : CallFix p m c cc nL s args wsL_law own) (hK : va_K (kD g) vwCl (kT g) s) (hP : va_P (kD g) vwCl (kW g S) H) (hD : va_D A (kW g S)) (hS : va_S A H0 H locs) (hA : ∀ q : Nat, H0.size ≤ q → A q) (w1 : Cond.classLink own index RX3 ∈ wsL_law) (w2 : Cond.instantiable RX3 3 ∈ wsL_law) (w3 : Cond.initialized RX3 ∈ wsL_law) (hc : cells + 1 ≤ R.cells) (hs : slots + 3 ≤ R.slots) (hdg : decode cc pc = .ok (.new index, 3)) (kk : ∀ (q : Nat) (H1 : Heap), q ∉ pL S → va_P (kD g) vwCl (kW g (newO S q 3)) H1 → va_D A (kW g (newO S q 3)) → va_S A H0 H1 locs → W p l e R s m args below meth c H1 locs (cells + 1) (slots + 3) Q (F0 m (pc + 3) ls (.ref q :: rest))) : W p l e R s m args below meth c H locs cells slots Q (F0 m pc ls rest) := by
  refine va_new (D := kD g) (ci := 4) (fs := [.null, .int 0, .int 0]) (C := RX3) (T := TX3) (N := 3) F.1 F.2.1 F.2.2.2.2 inlX3 tyX3 tyX3_ok F.2.2.2.1 (F.2.2.2.2 _ w1) (F.2.2.2.2 _ w2) (F.2.2.2.2 _ w3) hK hP hD hS hA rfl (fun j hj => by rcases (show j = 0 ∨ j = 1 ∨ j = 2 by omega) with rfl | rfl | rfl <;> rfl) hc hs hdg (fun q H1 a1 a2 a3 => ?_)
  have hq : q ∉ pL S := va_pl_fresh2 (X := []) a2
  have e : kW g S ++ [(q, .inr (4, [.null, .int 0, .int 0]))] = kW g (newO S q 3) := kW_push hq rfl (by rw [show kF g (newO S q 3) q = .inr (4, [va_rf (va_up (pG S 30) q none q), .int (va_up (pF S 31) q 0 q), .int (va_up (pF S 32) q 0 q)]) from kat_Robot (S := newO S q 3) (va_up_self _ _ _)]; simp only [va_up_self]; try rfl) (fun b hb => kF_O hb)
  exact kk q H1 hq (Eq.mp (congrArg (fun w => va_P (kD g) vwCl w H1) e) a1) (Eq.mp (congrArg (fun w => va_D A w) e) a2) a3
theorem rr_Robot (hK : va_K (kD g) vwCl (kT g) s) (hP : va_P (kD g) vwCl (kW g S) H) (ob : Ob S 3 a) : ∃ cell : Cell, H[a]? = some cell ∧ cell.vm.isStatics = false ∧ s.vm.findClass RX3 = some cell.cls := by
  obtain ⟨k, -, h2⟩ := kge_Robot (g := g) ob
  exact va_recv (D := kD g) hK hP (ci := 4) (q0 := k) (q := (RX3, TX3, 3)) rfl h2
theorem kat_ScanLog (h : pK S a = 4) : kF g S a = .inr (5, [va_rf (pG S 40 a), va_rf (pG S 41 a), .int (pF S 42 a)]) := by unfold kF; rw [h]; rfl
theorem kge_ScanLog (ob : Ob S 4 a) : ∃ k : Nat, (kW g S)[k]? = some (a, kF g S a) ∧ (kW g S)[k]? = some (a, .inr (5, [va_rf (pG S 40 a), va_rf (pG S 41 a), .int (pF S 42 a)])) := by
  obtain ⟨k, hk⟩ := kW_get (g := g) ob.1
  exact ⟨k, hk, hk.trans (congrArg (fun x => some (a, x)) (kat_ScanLog ob.2))⟩
theorem rg_ScanLog_numbers (F : CallFix p m c cc nL s args wsL_law own) (hK : va_K (kD g) vwCl (kT g) s) (hP : va_P (kD g) vwCl (kW g S) H) (ob : Ob S 4 a) (hlk : Cond.fieldLink own index "Pickwave$ScanLog" "numbers" "[I" ∈ wsL_law) (hdg : decode cc pc = .ok (.getfield index, 3)) (kk : W p l e R s m args below meth c H locs cells slots Q (F0 m (pc + 3) ls (va_rf (pG S 40 a) :: rest))) : W p l e R s m args below meth c H locs cells slots Q (F0 m pc ls (.ref a :: rest)) := by
  obtain ⟨k, -, h2⟩ := kge_ScanLog (g := g) ob
  exact va_get (D := kD g) (ci := 5) (C := RX4) (T := TX4) (N := 3) F.1 F.2.1 F.2.2.2.2 inlX4 F.2.2.2.1 hK hP k h2 rfl 0 (by decide) (F.2.2.2.2 _ hlk) (fun _ h => h) rfl hdg kk
theorem rs_ScanLog_numbers {b : Nat} (F : CallFix p m c cc nL s args wsL_law own) (hK : va_K (kD g) vwCl (kT g) s) (hP : va_P (kD g) vwCl (kW g S) H) (ob : Ob S 4 a) (hv : pG S 40 a = some b) (hlk : Cond.fieldLink own index "Pickwave$ScanLog" "numbers" "[I" ∈ wsL_law) (hdg : decode cc pc = .ok (.getfield index, 3)) (kk : W p l e R s m args below meth c H locs cells slots Q (F0 m (pc + 3) ls (.ref b :: rest))) : W p l e R s m args below meth c H locs cells slots Q (F0 m pc ls (.ref a :: rest)) := by
  obtain ⟨k, -, h2⟩ := kge_ScanLog (g := g) ob
  exact va_get (D := kD g) (ci := 5) (C := RX4) (T := TX4) (N := 3) F.1 F.2.1 F.2.2.2.2 inlX4 F.2.2.2.1 hK hP k h2 rfl 0 (by decide) (F.2.2.2.2 _ hlk) (fun _ h => h) rfl hdg (by rw [hv]; exact kk)
theorem rz_ScanLog_numbers (F : CallFix p m c cc nL s args wsL_law own) (hK : va_K (kD g) vwCl (kT g) s) (hP : va_P (kD g) vwCl (kW g S) H) (ob : Ob S 4 a) (hv : pG S 40 a = none) (hlk : Cond.fieldLink own index "Pickwave$ScanLog" "numbers" "[I" ∈ wsL_law) (hdg : decode cc pc = .ok (.getfield index, 3)) (kk : W p l e R s m args below meth c H locs cells slots Q (F0 m (pc + 3) ls (.null :: rest))) : W p l e R s m args below meth c H locs cells slots Q (F0 m pc ls (.ref a :: rest)) := by
  obtain ⟨k, -, h2⟩ := kge_ScanLog (g := g) ob
  exact va_get (D := kD g) (ci := 5) (C := RX4) (T := TX4) (N := 3) F.1 F.2.1 F.2.2.2.2 inlX4 F.2.2.2.1 hK hP k h2 rfl 0 (by decide) (F.2.2.2.2 _ hlk) (fun _ h => h) rfl hdg (by rw [hv]; exact kk)
theorem rps_ScanLog_numbers {b : Nat} (F : CallFix p m c cc nL s args wsL_law own) (hK : va_K (kD g) vwCl (kT g) s) (hP : va_P (kD g) vwCl (kW g S) H) (hD : va_D A (kW g S)) (hS : va_S A H0 H locs) (ob : Ob S 4 a) (hlk : Cond.fieldLink own index "Pickwave$ScanLog" "numbers" "[I" ∈ wsL_law) (hin : meth.name = "<init>") (hown0 : own = "Pickwave$ScanLog") (hdg : decode cc pc = .ok (.putfield index, 3)) (kk : ∀ (H1 : Heap) (locs1 : List Loc), va_P (kD g) vwCl (kW g (setG S 40 a (some b))) H1 → va_D A (kW g (setG S 40 a (some b))) → va_S A H0 H1 locs1 → W p l e R s m args below meth c H1 locs1 cells slots Q (F0 m (pc + 3) ls rest)) : W p l e R s m args below meth c H locs cells slots Q (F0 m pc ls (.ref b :: .ref a :: rest)) := by
  obtain ⟨k, h1, h2⟩ := kge_ScanLog (g := g) ob
  have e : (kW g S).set k (a, .inr (5, [.ref b, va_rf (pG S 41 a), .int (pF S 42 a)])) = kW g (setG S 40 a (some b)) := kW_set hD ob.1 h1 rfl (by rw [show kF g (setG S 40 a (some b)) a = .inr (5, [va_rf (pG (setG S 40 a (some b)) 40 a), va_rf (pG S 41 a), .int (pF S 42 a)]) from kat_ScanLog (S := setG S 40 a (some b)) ob.2]; rw [uG_at]; rfl) (fun b hb => kF_G hb)
  exact va_putF (D := kD g) (ci := 5) (v := .ref b) (ty := tyX4 0) (C := RX4) (T := TX4) (N := 3) F.1 F.2.1 F.2.2.2.2 inlX4 tyX4 tyX4_ok nmX4 F.2.2.2.1 hK hP hD hS k h2 rfl 0 (by decide) (F.2.2.2.2 _ hlk) (fun _ h => h) rfl hin hown0.symm (by decide +kernel) rfl rfl (Nat.le_of_ble_eq_true rfl) hdg (fun H1 locs1 a1 a2 a3 => kk H1 locs1 (Eq.mp (congrArg (fun w => va_P (kD g) vwCl w H1) e) a1) (Eq.mp (congrArg (fun w => va_D A w) e) a2) a3)
theorem rpn_ScanLog_numbers (F : CallFix p m c cc nL s args wsL_law own) (hK : va_K (kD g) vwCl (kT g) s) (hP : va_P (kD g) vwCl (kW g S) H) (hD : va_D A (kW g S)) (hS : va_S A H0 H locs) (ob : Ob S 4 a) (hlk : Cond.fieldLink own index "Pickwave$ScanLog" "numbers" "[I" ∈ wsL_law) (hin : meth.name = "<init>") (hown0 : own = "Pickwave$ScanLog") (hdg : decode cc pc = .ok (.putfield index, 3)) (kk : ∀ (H1 : Heap) (locs1 : List Loc), va_P (kD g) vwCl (kW g (setG S 40 a none)) H1 → va_D A (kW g (setG S 40 a none)) → va_S A H0 H1 locs1 → W p l e R s m args below meth c H1 locs1 cells slots Q (F0 m (pc + 3) ls rest)) : W p l e R s m args below meth c H locs cells slots Q (F0 m pc ls (.null :: .ref a :: rest)) := by
  obtain ⟨k, h1, h2⟩ := kge_ScanLog (g := g) ob
  have e : (kW g S).set k (a, .inr (5, [.null, va_rf (pG S 41 a), .int (pF S 42 a)])) = kW g (setG S 40 a none) := kW_set hD ob.1 h1 rfl (by rw [show kF g (setG S 40 a none) a = .inr (5, [va_rf (pG (setG S 40 a none) 40 a), va_rf (pG S 41 a), .int (pF S 42 a)]) from kat_ScanLog (S := setG S 40 a none) ob.2]; rw [uG_at]; rfl) (fun b hb => kF_G hb)
  exact va_putF (D := kD g) (ci := 5) (v := .null) (ty := tyX4 0) (C := RX4) (T := TX4) (N := 3) F.1 F.2.1 F.2.2.2.2 inlX4 tyX4 tyX4_ok nmX4 F.2.2.2.1 hK hP hD hS k h2 rfl 0 (by decide) (F.2.2.2.2 _ hlk) (fun _ h => h) rfl hin hown0.symm (by decide +kernel) rfl rfl (Nat.le_of_ble_eq_true rfl) hdg (fun H1 locs1 a1 a2 a3 => kk H1 locs1 (Eq.mp (congrArg (fun w => va_P (kD g) vwCl w H1) e) a1) (Eq.mp (congrArg (fun w => va_D A w) e) a2) a3)
theorem rg_ScanLog_signs (F : CallFix p m c cc nL s args wsL_law own) (hK : va_K (kD g) vwCl (kT g) s) (hP : va_P (kD g) vwCl (kW g S) H) (ob : Ob S 4 a) (hlk : Cond.fieldLink own index "Pickwave$ScanLog" "signs" "[C" ∈ wsL_law) (hdg : decode cc pc = .ok (.getfield index, 3)) (kk : W p l e R s m args below meth c H locs cells slots Q (F0 m (pc + 3) ls (va_rf (pG S 41 a) :: rest))) : W p l e R s m args below meth c H locs cells slots Q (F0 m pc ls (.ref a :: rest)) := by
  obtain ⟨k, -, h2⟩ := kge_ScanLog (g := g) ob
  exact va_get (D := kD g) (ci := 5) (C := RX4) (T := TX4) (N := 3) F.1 F.2.1 F.2.2.2.2 inlX4 F.2.2.2.1 hK hP k h2 rfl 1 (by decide) (F.2.2.2.2 _ hlk) (fun _ h => h) rfl hdg kk
theorem rs_ScanLog_signs {b : Nat} (F : CallFix p m c cc nL s args wsL_law own) (hK : va_K (kD g) vwCl (kT g) s) (hP : va_P (kD g) vwCl (kW g S) H) (ob : Ob S 4 a) (hv : pG S 41 a = some b) (hlk : Cond.fieldLink own index "Pickwave$ScanLog" "signs" "[C" ∈ wsL_law) (hdg : decode cc pc = .ok (.getfield index, 3)) (kk : W p l e R s m args below meth c H locs cells slots Q (F0 m (pc + 3) ls (.ref b :: rest))) : W p l e R s m args below meth c H locs cells slots Q (F0 m pc ls (.ref a :: rest)) := by
  obtain ⟨k, -, h2⟩ := kge_ScanLog (g := g) ob
  exact va_get (D := kD g) (ci := 5) (C := RX4) (T := TX4) (N := 3) F.1 F.2.1 F.2.2.2.2 inlX4 F.2.2.2.1 hK hP k h2 rfl 1 (by decide) (F.2.2.2.2 _ hlk) (fun _ h => h) rfl hdg (by rw [hv]; exact kk)
theorem rz_ScanLog_signs (F : CallFix p m c cc nL s args wsL_law own) (hK : va_K (kD g) vwCl (kT g) s) (hP : va_P (kD g) vwCl (kW g S) H) (ob : Ob S 4 a) (hv : pG S 41 a = none) (hlk : Cond.fieldLink own index "Pickwave$ScanLog" "signs" "[C" ∈ wsL_law) (hdg : decode cc pc = .ok (.getfield index, 3)) (kk : W p l e R s m args below meth c H locs cells slots Q (F0 m (pc + 3) ls (.null :: rest))) : W p l e R s m args below meth c H locs cells slots Q (F0 m pc ls (.ref a :: rest)) := by
  obtain ⟨k, -, h2⟩ := kge_ScanLog (g := g) ob
  exact va_get (D := kD g) (ci := 5) (C := RX4) (T := TX4) (N := 3) F.1 F.2.1 F.2.2.2.2 inlX4 F.2.2.2.1 hK hP k h2 rfl 1 (by decide) (F.2.2.2.2 _ hlk) (fun _ h => h) rfl hdg (by rw [hv]; exact kk)
theorem rps_ScanLog_signs {b : Nat} (F : CallFix p m c cc nL s args wsL_law own) (hK : va_K (kD g) vwCl (kT g) s) (hP : va_P (kD g) vwCl (kW g S) H) (hD : va_D A (kW g S)) (hS : va_S A H0 H locs) (ob : Ob S 4 a) (hlk : Cond.fieldLink own index "Pickwave$ScanLog" "signs" "[C" ∈ wsL_law) (hin : meth.name = "<init>") (hown0 : own = "Pickwave$ScanLog") (hdg : decode cc pc = .ok (.putfield index, 3)) (kk : ∀ (H1 : Heap) (locs1 : List Loc), va_P (kD g) vwCl (kW g (setG S 41 a (some b))) H1 → va_D A (kW g (setG S 41 a (some b))) → va_S A H0 H1 locs1 → W p l e R s m args below meth c H1 locs1 cells slots Q (F0 m (pc + 3) ls rest)) : W p l e R s m args below meth c H locs cells slots Q (F0 m pc ls (.ref b :: .ref a :: rest)) := by
  obtain ⟨k, h1, h2⟩ := kge_ScanLog (g := g) ob
  have e : (kW g S).set k (a, .inr (5, [va_rf (pG S 40 a), .ref b, .int (pF S 42 a)])) = kW g (setG S 41 a (some b)) := kW_set hD ob.1 h1 rfl (by rw [show kF g (setG S 41 a (some b)) a = .inr (5, [va_rf (pG S 40 a), va_rf (pG (setG S 41 a (some b)) 41 a), .int (pF S 42 a)]) from kat_ScanLog (S := setG S 41 a (some b)) ob.2]; rw [uG_at]; rfl) (fun b hb => kF_G hb)
  exact va_putF (D := kD g) (ci := 5) (v := .ref b) (ty := tyX4 1) (C := RX4) (T := TX4) (N := 3) F.1 F.2.1 F.2.2.2.2 inlX4 tyX4 tyX4_ok nmX4 F.2.2.2.1 hK hP hD hS k h2 rfl 1 (by decide) (F.2.2.2.2 _ hlk) (fun _ h => h) rfl hin hown0.symm (by decide +kernel) rfl rfl (Nat.le_of_ble_eq_true rfl) hdg (fun H1 locs1 a1 a2 a3 => kk H1 locs1 (Eq.mp (congrArg (fun w => va_P (kD g) vwCl w H1) e) a1) (Eq.mp (congrArg (fun w => va_D A w) e) a2) a3)
theorem rpn_ScanLog_signs (F : CallFix p m c cc nL s args wsL_law own) (hK : va_K (kD g) vwCl (kT g) s) (hP : va_P (kD g) vwCl (kW g S) H) (hD : va_D A (kW g S)) (hS : va_S A H0 H locs) (ob : Ob S 4 a) (hlk : Cond.fieldLink own index "Pickwave$ScanLog" "signs" "[C" ∈ wsL_law) (hin : meth.name = "<init>") (hown0 : own = "Pickwave$ScanLog") (hdg : decode cc pc = .ok (.putfield index, 3)) (kk : ∀ (H1 : Heap) (locs1 : List Loc), va_P (kD g) vwCl (kW g (setG S 41 a none)) H1 → va_D A (kW g (setG S 41 a none)) → va_S A H0 H1 locs1 → W p l e R s m args below meth c H1 locs1 cells slots Q (F0 m (pc + 3) ls rest)) : W p l e R s m args below meth c H locs cells slots Q (F0 m pc ls (.null :: .ref a :: rest)) := by
  obtain ⟨k, h1, h2⟩ := kge_ScanLog (g := g) ob
  have e : (kW g S).set k (a, .inr (5, [va_rf (pG S 40 a), .null, .int (pF S 42 a)])) = kW g (setG S 41 a none) := kW_set hD ob.1 h1 rfl (by rw [show kF g (setG S 41 a none) a = .inr (5, [va_rf (pG S 40 a), va_rf (pG (setG S 41 a none) 41 a), .int (pF S 42 a)]) from kat_ScanLog (S := setG S 41 a none) ob.2]; rw [uG_at]; rfl) (fun b hb => kF_G hb)
  exact va_putF (D := kD g) (ci := 5) (v := .null) (ty := tyX4 1) (C := RX4) (T := TX4) (N := 3) F.1 F.2.1 F.2.2.2.2 inlX4 tyX4 tyX4_ok nmX4 F.2.2.2.1 hK hP hD hS k h2 rfl 1 (by decide) (F.2.2.2.2 _ hlk) (fun _ h => h) rfl hin hown0.symm (by decide +kernel) rfl rfl (Nat.le_of_ble_eq_true rfl) hdg (fun H1 locs1 a1 a2 a3 => kk H1 locs1 (Eq.mp (congrArg (fun w => va_P (kD g) vwCl w H1) e) a1) (Eq.mp (congrArg (fun w => va_D A w) e) a2) a3)
theorem rg_ScanLog_count (F : CallFix p m c cc nL s args wsL_law own) (hK : va_K (kD g) vwCl (kT g) s) (hP : va_P (kD g) vwCl (kW g S) H) (ob : Ob S 4 a) (hlk : Cond.fieldLink own index "Pickwave$ScanLog" "count" "I" ∈ wsL_law) (hdg : decode cc pc = .ok (.getfield index, 3)) (kk : W p l e R s m args below meth c H locs cells slots Q (F0 m (pc + 3) ls (.int (pF S 42 a) :: rest))) : W p l e R s m args below meth c H locs cells slots Q (F0 m pc ls (.ref a :: rest)) := by
  obtain ⟨k, -, h2⟩ := kge_ScanLog (g := g) ob
  exact va_get (D := kD g) (ci := 5) (C := RX4) (T := TX4) (N := 3) F.1 F.2.1 F.2.2.2.2 inlX4 F.2.2.2.1 hK hP k h2 rfl 2 (by decide) (F.2.2.2.2 _ hlk) (fun _ h => h) rfl hdg kk
theorem rp_ScanLog_count {v : Int32} (F : CallFix p m c cc nL s args wsL_law own) (hK : va_K (kD g) vwCl (kT g) s) (hP : va_P (kD g) vwCl (kW g S) H) (hD : va_D A (kW g S)) (hS : va_S A H0 H locs) (ob : Ob S 4 a) (hlk : Cond.fieldLink own index "Pickwave$ScanLog" "count" "I" ∈ wsL_law) (hdg : decode cc pc = .ok (.putfield index, 3)) (kk : ∀ (H1 : Heap) (locs1 : List Loc), va_P (kD g) vwCl (kW g (setF S 42 a v)) H1 → va_D A (kW g (setF S 42 a v)) → va_S A H0 H1 locs1 → W p l e R s m args below meth c H1 locs1 cells slots Q (F0 m (pc + 3) ls rest)) : W p l e R s m args below meth c H locs cells slots Q (F0 m pc ls (.int v :: .ref a :: rest)) := by
  obtain ⟨k, h1, h2⟩ := kge_ScanLog (g := g) ob
  have e : (kW g S).set k (a, .inr (5, [va_rf (pG S 40 a), va_rf (pG S 41 a), .int v])) = kW g (setF S 42 a v) := kW_set hD ob.1 h1 rfl (by rw [show kF g (setF S 42 a v) a = .inr (5, [va_rf (pG S 40 a), va_rf (pG S 41 a), .int (pF (setF S 42 a v) 42 a)]) from kat_ScanLog (S := setF S 42 a v) ob.2]; rw [uF_at]) (fun b hb => kF_F hb)
  exact va_put (D := kD g) (ci := 5) (v := .int v) (ty := tyX4 2) (C := RX4) (T := TX4) (N := 3) F.1 F.2.1 F.2.2.2.2 inlX4 tyX4 tyX4_ok nmX4 F.2.2.2.1 hK hP hD hS k h2 rfl 2 (by decide) (F.2.2.2.2 _ hlk) (fun _ h => h) rfl (by decide +kernel) rfl rfl (Nat.le_of_ble_eq_true rfl) hdg (fun H1 locs1 a1 a2 a3 => kk H1 locs1 (Eq.mp (congrArg (fun w => va_P (kD g) vwCl w H1) e) a1) (Eq.mp (congrArg (fun w => va_D A w) e) a2) a3)
theorem rn_ScanLog (F : CallFix p m c cc nL s args wsL_law own) (hK : va_K (kD g) vwCl (kT g) s) (hP : va_P (kD g) vwCl (kW g S) H) (hD : va_D A (kW g S)) (hS : va_S A H0 H locs) (hA : ∀ q : Nat, H0.size ≤ q → A q) (w1 : Cond.classLink own index RX4 ∈ wsL_law) (w2 : Cond.instantiable RX4 3 ∈ wsL_law) (w3 : Cond.initialized RX4 ∈ wsL_law) (hc : cells + 1 ≤ R.cells) (hs : slots + 3 ≤ R.slots) (hdg : decode cc pc = .ok (.new index, 3)) (kk : ∀ (q : Nat) (H1 : Heap), q ∉ pL S → va_P (kD g) vwCl (kW g (newO S q 4)) H1 → va_D A (kW g (newO S q 4)) → va_S A H0 H1 locs → W p l e R s m args below meth c H1 locs (cells + 1) (slots + 3) Q (F0 m (pc + 3) ls (.ref q :: rest))) : W p l e R s m args below meth c H locs cells slots Q (F0 m pc ls rest) := by
  refine va_new (D := kD g) (ci := 5) (fs := [.null, .null, .int 0]) (C := RX4) (T := TX4) (N := 3) F.1 F.2.1 F.2.2.2.2 inlX4 tyX4 tyX4_ok F.2.2.2.1 (F.2.2.2.2 _ w1) (F.2.2.2.2 _ w2) (F.2.2.2.2 _ w3) hK hP hD hS hA rfl (fun j hj => by rcases (show j = 0 ∨ j = 1 ∨ j = 2 by omega) with rfl | rfl | rfl <;> rfl) hc hs hdg (fun q H1 a1 a2 a3 => ?_)
  have hq : q ∉ pL S := va_pl_fresh2 (X := []) a2
  have e : kW g S ++ [(q, .inr (5, [.null, .null, .int 0]))] = kW g (newO S q 4) := kW_push hq rfl (by rw [show kF g (newO S q 4) q = .inr (5, [va_rf (va_up (pG S 40) q none q), va_rf (va_up (pG S 41) q none q), .int (va_up (pF S 42) q 0 q)]) from kat_ScanLog (S := newO S q 4) (va_up_self _ _ _)]; simp only [va_up_self]; try rfl) (fun b hb => kF_O hb)
  exact kk q H1 hq (Eq.mp (congrArg (fun w => va_P (kD g) vwCl w H1) e) a1) (Eq.mp (congrArg (fun w => va_D A w) e) a2) a3
theorem rr_ScanLog (hK : va_K (kD g) vwCl (kT g) s) (hP : va_P (kD g) vwCl (kW g S) H) (ob : Ob S 4 a) : ∃ cell : Cell, H[a]? = some cell ∧ cell.vm.isStatics = false ∧ s.vm.findClass RX4 = some cell.cls := by
  obtain ⟨k, -, h2⟩ := kge_ScanLog (g := g) ob
  exact va_recv (D := kD g) hK hP (ci := 5) (q0 := k) (q := (RX4, TX4, 3)) rfl h2
theorem kat_Pickwave (h : pK S a = 5) : kF g S a = .inr (6, [va_rf (pG S 50 a), va_rf (pG S 51 a), va_rf (pG S 52 a), va_rf (pG S 53 a), va_rf (pG S 54 a), va_rf (pG S 55 a), .int (pF S 56 a), .int (pF S 57 a), .int (pF S 58 a), .long (pJ S a)]) := by unfold kF; rw [h]; rfl
theorem kge_Pickwave (ob : Ob S 5 a) : ∃ k : Nat, (kW g S)[k]? = some (a, kF g S a) ∧ (kW g S)[k]? = some (a, .inr (6, [va_rf (pG S 50 a), va_rf (pG S 51 a), va_rf (pG S 52 a), va_rf (pG S 53 a), va_rf (pG S 54 a), va_rf (pG S 55 a), .int (pF S 56 a), .int (pF S 57 a), .int (pF S 58 a), .long (pJ S a)])) := by
  obtain ⟨k, hk⟩ := kW_get (g := g) ob.1
  exact ⟨k, hk, hk.trans (congrArg (fun x => some (a, x)) (kat_Pickwave ob.2))⟩
theorem rg_Pickwave_aisles (F : CallFix p m c cc nL s args wsL_law own) (hK : va_K (kD g) vwCl (kT g) s) (hP : va_P (kD g) vwCl (kW g S) H) (ob : Ob S 5 a) (hlk : Cond.fieldLink own index "Pickwave" "aisles" "[LPickwave$Aisle;" ∈ wsL_law) (hdg : decode cc pc = .ok (.getfield index, 3)) (kk : W p l e R s m args below meth c H locs cells slots Q (F0 m (pc + 3) ls (va_rf (pG S 50 a) :: rest))) : W p l e R s m args below meth c H locs cells slots Q (F0 m pc ls (.ref a :: rest)) := by
  obtain ⟨k, -, h2⟩ := kge_Pickwave (g := g) ob
  exact va_get (D := kD g) (ci := 6) (C := RX5) (T := TX5) (N := 10) F.1 F.2.1 F.2.2.2.2 inlX5 F.2.2.2.1 hK hP k h2 rfl 0 (by decide) (F.2.2.2.2 _ hlk) (fun _ h => h) rfl hdg kk
theorem rs_Pickwave_aisles {b : Nat} (F : CallFix p m c cc nL s args wsL_law own) (hK : va_K (kD g) vwCl (kT g) s) (hP : va_P (kD g) vwCl (kW g S) H) (ob : Ob S 5 a) (hv : pG S 50 a = some b) (hlk : Cond.fieldLink own index "Pickwave" "aisles" "[LPickwave$Aisle;" ∈ wsL_law) (hdg : decode cc pc = .ok (.getfield index, 3)) (kk : W p l e R s m args below meth c H locs cells slots Q (F0 m (pc + 3) ls (.ref b :: rest))) : W p l e R s m args below meth c H locs cells slots Q (F0 m pc ls (.ref a :: rest)) := by
  obtain ⟨k, -, h2⟩ := kge_Pickwave (g := g) ob
  exact va_get (D := kD g) (ci := 6) (C := RX5) (T := TX5) (N := 10) F.1 F.2.1 F.2.2.2.2 inlX5 F.2.2.2.1 hK hP k h2 rfl 0 (by decide) (F.2.2.2.2 _ hlk) (fun _ h => h) rfl hdg (by rw [hv]; exact kk)
theorem rz_Pickwave_aisles (F : CallFix p m c cc nL s args wsL_law own) (hK : va_K (kD g) vwCl (kT g) s) (hP : va_P (kD g) vwCl (kW g S) H) (ob : Ob S 5 a) (hv : pG S 50 a = none) (hlk : Cond.fieldLink own index "Pickwave" "aisles" "[LPickwave$Aisle;" ∈ wsL_law) (hdg : decode cc pc = .ok (.getfield index, 3)) (kk : W p l e R s m args below meth c H locs cells slots Q (F0 m (pc + 3) ls (.null :: rest))) : W p l e R s m args below meth c H locs cells slots Q (F0 m pc ls (.ref a :: rest)) := by
  obtain ⟨k, -, h2⟩ := kge_Pickwave (g := g) ob
  exact va_get (D := kD g) (ci := 6) (C := RX5) (T := TX5) (N := 10) F.1 F.2.1 F.2.2.2.2 inlX5 F.2.2.2.1 hK hP k h2 rfl 0 (by decide) (F.2.2.2.2 _ hlk) (fun _ h => h) rfl hdg (by rw [hv]; exact kk)
theorem rps_Pickwave_aisles {b : Nat} (F : CallFix p m c cc nL s args wsL_law own) (hK : va_K (kD g) vwCl (kT g) s) (hP : va_P (kD g) vwCl (kW g S) H) (hD : va_D A (kW g S)) (hS : va_S A H0 H locs) (ob : Ob S 5 a) (hlk : Cond.fieldLink own index "Pickwave" "aisles" "[LPickwave$Aisle;" ∈ wsL_law) (hin : meth.name = "<init>") (hown0 : own = "Pickwave") (hdg : decode cc pc = .ok (.putfield index, 3)) (kk : ∀ (H1 : Heap) (locs1 : List Loc), va_P (kD g) vwCl (kW g (setG S 50 a (some b))) H1 → va_D A (kW g (setG S 50 a (some b))) → va_S A H0 H1 locs1 → W p l e R s m args below meth c H1 locs1 cells slots Q (F0 m (pc + 3) ls rest)) : W p l e R s m args below meth c H locs cells slots Q (F0 m pc ls (.ref b :: .ref a :: rest)) := by
  obtain ⟨k, h1, h2⟩ := kge_Pickwave (g := g) ob
  have e : (kW g S).set k (a, .inr (6, [.ref b, va_rf (pG S 51 a), va_rf (pG S 52 a), va_rf (pG S 53 a), va_rf (pG S 54 a), va_rf (pG S 55 a), .int (pF S 56 a), .int (pF S 57 a), .int (pF S 58 a), .long (pJ S a)])) = kW g (setG S 50 a (some b)) := kW_set hD ob.1 h1 rfl (by rw [show kF g (setG S 50 a (some b)) a = .inr (6, [va_rf (pG (setG S 50 a (some b)) 50 a), va_rf (pG S 51 a), va_rf (pG S 52 a), va_rf (pG S 53 a), va_rf (pG S 54 a), va_rf (pG S 55 a), .int (pF S 56 a), .int (pF S 57 a), .int (pF S 58 a), .long (pJ S a)]) from kat_Pickwave (S := setG S 50 a (some b)) ob.2]; rw [uG_at]; rfl) (fun b hb => kF_G hb)
  exact va_putF (D := kD g) (ci := 6) (v := .ref b) (ty := tyX5 0) (C := RX5) (T := TX5) (N := 10) F.1 F.2.1 F.2.2.2.2 inlX5 tyX5 tyX5_ok nmX5 F.2.2.2.1 hK hP hD hS k h2 rfl 0 (by decide) (F.2.2.2.2 _ hlk) (fun _ h => h) rfl hin hown0.symm (by decide +kernel) rfl rfl (Nat.le_of_ble_eq_true rfl) hdg (fun H1 locs1 a1 a2 a3 => kk H1 locs1 (Eq.mp (congrArg (fun w => va_P (kD g) vwCl w H1) e) a1) (Eq.mp (congrArg (fun w => va_D A w) e) a2) a3)
theorem rpn_Pickwave_aisles (F : CallFix p m c cc nL s args wsL_law own) (hK : va_K (kD g) vwCl (kT g) s) (hP : va_P (kD g) vwCl (kW g S) H) (hD : va_D A (kW g S)) (hS : va_S A H0 H locs) (ob : Ob S 5 a) (hlk : Cond.fieldLink own index "Pickwave" "aisles" "[LPickwave$Aisle;" ∈ wsL_law) (hin : meth.name = "<init>") (hown0 : own = "Pickwave") (hdg : decode cc pc = .ok (.putfield index, 3)) (kk : ∀ (H1 : Heap) (locs1 : List Loc), va_P (kD g) vwCl (kW g (setG S 50 a none)) H1 → va_D A (kW g (setG S 50 a none)) → va_S A H0 H1 locs1 → W p l e R s m args below meth c H1 locs1 cells slots Q (F0 m (pc + 3) ls rest)) : W p l e R s m args below meth c H locs cells slots Q (F0 m pc ls (.null :: .ref a :: rest)) := by
  obtain ⟨k, h1, h2⟩ := kge_Pickwave (g := g) ob
  have e : (kW g S).set k (a, .inr (6, [.null, va_rf (pG S 51 a), va_rf (pG S 52 a), va_rf (pG S 53 a), va_rf (pG S 54 a), va_rf (pG S 55 a), .int (pF S 56 a), .int (pF S 57 a), .int (pF S 58 a), .long (pJ S a)])) = kW g (setG S 50 a none) := kW_set hD ob.1 h1 rfl (by rw [show kF g (setG S 50 a none) a = .inr (6, [va_rf (pG (setG S 50 a none) 50 a), va_rf (pG S 51 a), va_rf (pG S 52 a), va_rf (pG S 53 a), va_rf (pG S 54 a), va_rf (pG S 55 a), .int (pF S 56 a), .int (pF S 57 a), .int (pF S 58 a), .long (pJ S a)]) from kat_Pickwave (S := setG S 50 a none) ob.2]; rw [uG_at]; rfl) (fun b hb => kF_G hb)
  exact va_putF (D := kD g) (ci := 6) (v := .null) (ty := tyX5 0) (C := RX5) (T := TX5) (N := 10) F.1 F.2.1 F.2.2.2.2 inlX5 tyX5 tyX5_ok nmX5 F.2.2.2.1 hK hP hD hS k h2 rfl 0 (by decide) (F.2.2.2.2 _ hlk) (fun _ h => h) rfl hin hown0.symm (by decide +kernel) rfl rfl (Nat.le_of_ble_eq_true rfl) hdg (fun H1 locs1 a1 a2 a3 => kk H1 locs1 (Eq.mp (congrArg (fun w => va_P (kD g) vwCl w H1) e) a1) (Eq.mp (congrArg (fun w => va_D A w) e) a2) a3)
theorem rg_Pickwave_cutOffs (F : CallFix p m c cc nL s args wsL_law own) (hK : va_K (kD g) vwCl (kT g) s) (hP : va_P (kD g) vwCl (kW g S) H) (ob : Ob S 5 a) (hlk : Cond.fieldLink own index "Pickwave" "cutOffs" "[I" ∈ wsL_law) (hdg : decode cc pc = .ok (.getfield index, 3)) (kk : W p l e R s m args below meth c H locs cells slots Q (F0 m (pc + 3) ls (va_rf (pG S 51 a) :: rest))) : W p l e R s m args below meth c H locs cells slots Q (F0 m pc ls (.ref a :: rest)) := by
  obtain ⟨k, -, h2⟩ := kge_Pickwave (g := g) ob
  exact va_get (D := kD g) (ci := 6) (C := RX5) (T := TX5) (N := 10) F.1 F.2.1 F.2.2.2.2 inlX5 F.2.2.2.1 hK hP k h2 rfl 1 (by decide) (F.2.2.2.2 _ hlk) (fun _ h => h) rfl hdg kk
theorem rs_Pickwave_cutOffs {b : Nat} (F : CallFix p m c cc nL s args wsL_law own) (hK : va_K (kD g) vwCl (kT g) s) (hP : va_P (kD g) vwCl (kW g S) H) (ob : Ob S 5 a) (hv : pG S 51 a = some b) (hlk : Cond.fieldLink own index "Pickwave" "cutOffs" "[I" ∈ wsL_law) (hdg : decode cc pc = .ok (.getfield index, 3)) (kk : W p l e R s m args below meth c H locs cells slots Q (F0 m (pc + 3) ls (.ref b :: rest))) : W p l e R s m args below meth c H locs cells slots Q (F0 m pc ls (.ref a :: rest)) := by
  obtain ⟨k, -, h2⟩ := kge_Pickwave (g := g) ob
  exact va_get (D := kD g) (ci := 6) (C := RX5) (T := TX5) (N := 10) F.1 F.2.1 F.2.2.2.2 inlX5 F.2.2.2.1 hK hP k h2 rfl 1 (by decide) (F.2.2.2.2 _ hlk) (fun _ h => h) rfl hdg (by rw [hv]; exact kk)
theorem rz_Pickwave_cutOffs (F : CallFix p m c cc nL s args wsL_law own) (hK : va_K (kD g) vwCl (kT g) s) (hP : va_P (kD g) vwCl (kW g S) H) (ob : Ob S 5 a) (hv : pG S 51 a = none) (hlk : Cond.fieldLink own index "Pickwave" "cutOffs" "[I" ∈ wsL_law) (hdg : decode cc pc = .ok (.getfield index, 3)) (kk : W p l e R s m args below meth c H locs cells slots Q (F0 m (pc + 3) ls (.null :: rest))) : W p l e R s m args below meth c H locs cells slots Q (F0 m pc ls (.ref a :: rest)) := by
  obtain ⟨k, -, h2⟩ := kge_Pickwave (g := g) ob
  exact va_get (D := kD g) (ci := 6) (C := RX5) (T := TX5) (N := 10) F.1 F.2.1 F.2.2.2.2 inlX5 F.2.2.2.1 hK hP k h2 rfl 1 (by decide) (F.2.2.2.2 _ hlk) (fun _ h => h) rfl hdg (by rw [hv]; exact kk)
theorem rps_Pickwave_cutOffs {b : Nat} (F : CallFix p m c cc nL s args wsL_law own) (hK : va_K (kD g) vwCl (kT g) s) (hP : va_P (kD g) vwCl (kW g S) H) (hD : va_D A (kW g S)) (hS : va_S A H0 H locs) (ob : Ob S 5 a) (hlk : Cond.fieldLink own index "Pickwave" "cutOffs" "[I" ∈ wsL_law) (hin : meth.name = "<init>") (hown0 : own = "Pickwave") (hdg : decode cc pc = .ok (.putfield index, 3)) (kk : ∀ (H1 : Heap) (locs1 : List Loc), va_P (kD g) vwCl (kW g (setG S 51 a (some b))) H1 → va_D A (kW g (setG S 51 a (some b))) → va_S A H0 H1 locs1 → W p l e R s m args below meth c H1 locs1 cells slots Q (F0 m (pc + 3) ls rest)) : W p l e R s m args below meth c H locs cells slots Q (F0 m pc ls (.ref b :: .ref a :: rest)) := by
  obtain ⟨k, h1, h2⟩ := kge_Pickwave (g := g) ob
  have e : (kW g S).set k (a, .inr (6, [va_rf (pG S 50 a), .ref b, va_rf (pG S 52 a), va_rf (pG S 53 a), va_rf (pG S 54 a), va_rf (pG S 55 a), .int (pF S 56 a), .int (pF S 57 a), .int (pF S 58 a), .long (pJ S a)])) = kW g (setG S 51 a (some b)) := kW_set hD ob.1 h1 rfl (by rw [show kF g (setG S 51 a (some b)) a = .inr (6, [va_rf (pG S 50 a), va_rf (pG (setG S 51 a (some b)) 51 a), va_rf (pG S 52 a), va_rf (pG S 53 a), va_rf (pG S 54 a), va_rf (pG S 55 a), .int (pF S 56 a), .int (pF S 57 a), .int (pF S 58 a), .long (pJ S a)]) from kat_Pickwave (S := setG S 51 a (some b)) ob.2]; rw [uG_at]; rfl) (fun b hb => kF_G hb)
  exact va_putF (D := kD g) (ci := 6) (v := .ref b) (ty := tyX5 1) (C := RX5) (T := TX5) (N := 10) F.1 F.2.1 F.2.2.2.2 inlX5 tyX5 tyX5_ok nmX5 F.2.2.2.1 hK hP hD hS k h2 rfl 1 (by decide) (F.2.2.2.2 _ hlk) (fun _ h => h) rfl hin hown0.symm (by decide +kernel) rfl rfl (Nat.le_of_ble_eq_true rfl) hdg (fun H1 locs1 a1 a2 a3 => kk H1 locs1 (Eq.mp (congrArg (fun w => va_P (kD g) vwCl w H1) e) a1) (Eq.mp (congrArg (fun w => va_D A w) e) a2) a3)
theorem rpn_Pickwave_cutOffs (F : CallFix p m c cc nL s args wsL_law own) (hK : va_K (kD g) vwCl (kT g) s) (hP : va_P (kD g) vwCl (kW g S) H) (hD : va_D A (kW g S)) (hS : va_S A H0 H locs) (ob : Ob S 5 a) (hlk : Cond.fieldLink own index "Pickwave" "cutOffs" "[I" ∈ wsL_law) (hin : meth.name = "<init>") (hown0 : own = "Pickwave") (hdg : decode cc pc = .ok (.putfield index, 3)) (kk : ∀ (H1 : Heap) (locs1 : List Loc), va_P (kD g) vwCl (kW g (setG S 51 a none)) H1 → va_D A (kW g (setG S 51 a none)) → va_S A H0 H1 locs1 → W p l e R s m args below meth c H1 locs1 cells slots Q (F0 m (pc + 3) ls rest)) : W p l e R s m args below meth c H locs cells slots Q (F0 m pc ls (.null :: .ref a :: rest)) := by
  obtain ⟨k, h1, h2⟩ := kge_Pickwave (g := g) ob
  have e : (kW g S).set k (a, .inr (6, [va_rf (pG S 50 a), .null, va_rf (pG S 52 a), va_rf (pG S 53 a), va_rf (pG S 54 a), va_rf (pG S 55 a), .int (pF S 56 a), .int (pF S 57 a), .int (pF S 58 a), .long (pJ S a)])) = kW g (setG S 51 a none) := kW_set hD ob.1 h1 rfl (by rw [show kF g (setG S 51 a none) a = .inr (6, [va_rf (pG S 50 a), va_rf (pG (setG S 51 a none) 51 a), va_rf (pG S 52 a), va_rf (pG S 53 a), va_rf (pG S 54 a), va_rf (pG S 55 a), .int (pF S 56 a), .int (pF S 57 a), .int (pF S 58 a), .long (pJ S a)]) from kat_Pickwave (S := setG S 51 a none) ob.2]; rw [uG_at]; rfl) (fun b hb => kF_G hb)
  exact va_putF (D := kD g) (ci := 6) (v := .null) (ty := tyX5 1) (C := RX5) (T := TX5) (N := 10) F.1 F.2.1 F.2.2.2.2 inlX5 tyX5 tyX5_ok nmX5 F.2.2.2.1 hK hP hD hS k h2 rfl 1 (by decide) (F.2.2.2.2 _ hlk) (fun _ h => h) rfl hin hown0.symm (by decide +kernel) rfl rfl (Nat.le_of_ble_eq_true rfl) hdg (fun H1 locs1 a1 a2 a3 => kk H1 locs1 (Eq.mp (congrArg (fun w => va_P (kD g) vwCl w H1) e) a1) (Eq.mp (congrArg (fun w => va_D A w) e) a2) a3)
theorem rg_Pickwave_robots (F : CallFix p m c cc nL s args wsL_law own) (hK : va_K (kD g) vwCl (kT g) s) (hP : va_P (kD g) vwCl (kW g S) H) (ob : Ob S 5 a) (hlk : Cond.fieldLink own index "Pickwave" "robots" "[LPickwave$Robot;" ∈ wsL_law) (hdg : decode cc pc = .ok (.getfield index, 3)) (kk : W p l e R s m args below meth c H locs cells slots Q (F0 m (pc + 3) ls (va_rf (pG S 52 a) :: rest))) : W p l e R s m args below meth c H locs cells slots Q (F0 m pc ls (.ref a :: rest)) := by
  obtain ⟨k, -, h2⟩ := kge_Pickwave (g := g) ob
  exact va_get (D := kD g) (ci := 6) (C := RX5) (T := TX5) (N := 10) F.1 F.2.1 F.2.2.2.2 inlX5 F.2.2.2.1 hK hP k h2 rfl 2 (by decide) (F.2.2.2.2 _ hlk) (fun _ h => h) rfl hdg kk
theorem rs_Pickwave_robots {b : Nat} (F : CallFix p m c cc nL s args wsL_law own) (hK : va_K (kD g) vwCl (kT g) s) (hP : va_P (kD g) vwCl (kW g S) H) (ob : Ob S 5 a) (hv : pG S 52 a = some b) (hlk : Cond.fieldLink own index "Pickwave" "robots" "[LPickwave$Robot;" ∈ wsL_law) (hdg : decode cc pc = .ok (.getfield index, 3)) (kk : W p l e R s m args below meth c H locs cells slots Q (F0 m (pc + 3) ls (.ref b :: rest))) : W p l e R s m args below meth c H locs cells slots Q (F0 m pc ls (.ref a :: rest)) := by
  obtain ⟨k, -, h2⟩ := kge_Pickwave (g := g) ob
  exact va_get (D := kD g) (ci := 6) (C := RX5) (T := TX5) (N := 10) F.1 F.2.1 F.2.2.2.2 inlX5 F.2.2.2.1 hK hP k h2 rfl 2 (by decide) (F.2.2.2.2 _ hlk) (fun _ h => h) rfl hdg (by rw [hv]; exact kk)
theorem rz_Pickwave_robots (F : CallFix p m c cc nL s args wsL_law own) (hK : va_K (kD g) vwCl (kT g) s) (hP : va_P (kD g) vwCl (kW g S) H) (ob : Ob S 5 a) (hv : pG S 52 a = none) (hlk : Cond.fieldLink own index "Pickwave" "robots" "[LPickwave$Robot;" ∈ wsL_law) (hdg : decode cc pc = .ok (.getfield index, 3)) (kk : W p l e R s m args below meth c H locs cells slots Q (F0 m (pc + 3) ls (.null :: rest))) : W p l e R s m args below meth c H locs cells slots Q (F0 m pc ls (.ref a :: rest)) := by
  obtain ⟨k, -, h2⟩ := kge_Pickwave (g := g) ob
  exact va_get (D := kD g) (ci := 6) (C := RX5) (T := TX5) (N := 10) F.1 F.2.1 F.2.2.2.2 inlX5 F.2.2.2.1 hK hP k h2 rfl 2 (by decide) (F.2.2.2.2 _ hlk) (fun _ h => h) rfl hdg (by rw [hv]; exact kk)
theorem rps_Pickwave_robots {b : Nat} (F : CallFix p m c cc nL s args wsL_law own) (hK : va_K (kD g) vwCl (kT g) s) (hP : va_P (kD g) vwCl (kW g S) H) (hD : va_D A (kW g S)) (hS : va_S A H0 H locs) (ob : Ob S 5 a) (hlk : Cond.fieldLink own index "Pickwave" "robots" "[LPickwave$Robot;" ∈ wsL_law) (hin : meth.name = "<init>") (hown0 : own = "Pickwave") (hdg : decode cc pc = .ok (.putfield index, 3)) (kk : ∀ (H1 : Heap) (locs1 : List Loc), va_P (kD g) vwCl (kW g (setG S 52 a (some b))) H1 → va_D A (kW g (setG S 52 a (some b))) → va_S A H0 H1 locs1 → W p l e R s m args below meth c H1 locs1 cells slots Q (F0 m (pc + 3) ls rest)) : W p l e R s m args below meth c H locs cells slots Q (F0 m pc ls (.ref b :: .ref a :: rest)) := by
  obtain ⟨k, h1, h2⟩ := kge_Pickwave (g := g) ob
  have e : (kW g S).set k (a, .inr (6, [va_rf (pG S 50 a), va_rf (pG S 51 a), .ref b, va_rf (pG S 53 a), va_rf (pG S 54 a), va_rf (pG S 55 a), .int (pF S 56 a), .int (pF S 57 a), .int (pF S 58 a), .long (pJ S a)])) = kW g (setG S 52 a (some b)) := kW_set hD ob.1 h1 rfl (by rw [show kF g (setG S 52 a (some b)) a = .inr (6, [va_rf (pG S 50 a), va_rf (pG S 51 a), va_rf (pG (setG S 52 a (some b)) 52 a), va_rf (pG S 53 a), va_rf (pG S 54 a), va_rf (pG S 55 a), .int (pF S 56 a), .int (pF S 57 a), .int (pF S 58 a), .long (pJ S a)]) from kat_Pickwave (S := setG S 52 a (some b)) ob.2]; rw [uG_at]; rfl) (fun b hb => kF_G hb)
  exact va_putF (D := kD g) (ci := 6) (v := .ref b) (ty := tyX5 2) (C := RX5) (T := TX5) (N := 10) F.1 F.2.1 F.2.2.2.2 inlX5 tyX5 tyX5_ok nmX5 F.2.2.2.1 hK hP hD hS k h2 rfl 2 (by decide) (F.2.2.2.2 _ hlk) (fun _ h => h) rfl hin hown0.symm (by decide +kernel) rfl rfl (Nat.le_of_ble_eq_true rfl) hdg (fun H1 locs1 a1 a2 a3 => kk H1 locs1 (Eq.mp (congrArg (fun w => va_P (kD g) vwCl w H1) e) a1) (Eq.mp (congrArg (fun w => va_D A w) e) a2) a3)
theorem rpn_Pickwave_robots (F : CallFix p m c cc nL s args wsL_law own) (hK : va_K (kD g) vwCl (kT g) s) (hP : va_P (kD g) vwCl (kW g S) H) (hD : va_D A (kW g S)) (hS : va_S A H0 H locs) (ob : Ob S 5 a) (hlk : Cond.fieldLink own index "Pickwave" "robots" "[LPickwave$Robot;" ∈ wsL_law) (hin : meth.name = "<init>") (hown0 : own = "Pickwave") (hdg : decode cc pc = .ok (.putfield index, 3)) (kk : ∀ (H1 : Heap) (locs1 : List Loc), va_P (kD g) vwCl (kW g (setG S 52 a none)) H1 → va_D A (kW g (setG S 52 a none)) → va_S A H0 H1 locs1 → W p l e R s m args below meth c H1 locs1 cells slots Q (F0 m (pc + 3) ls rest)) : W p l e R s m args below meth c H locs cells slots Q (F0 m pc ls (.null :: .ref a :: rest)) := by
  obtain ⟨k, h1, h2⟩ := kge_Pickwave (g := g) ob
  have e : (kW g S).set k (a, .inr (6, [va_rf (pG S 50 a), va_rf (pG S 51 a), .null, va_rf (pG S 53 a), va_rf (pG S 54 a), va_rf (pG S 55 a), .int (pF S 56 a), .int (pF S 57 a), .int (pF S 58 a), .long (pJ S a)])) = kW g (setG S 52 a none) := kW_set hD ob.1 h1 rfl (by rw [show kF g (setG S 52 a none) a = .inr (6, [va_rf (pG S 50 a), va_rf (pG S 51 a), va_rf (pG (setG S 52 a none) 52 a), va_rf (pG S 53 a), va_rf (pG S 54 a), va_rf (pG S 55 a), .int (pF S 56 a), .int (pF S 57 a), .int (pF S 58 a), .long (pJ S a)]) from kat_Pickwave (S := setG S 52 a none) ob.2]; rw [uG_at]; rfl) (fun b hb => kF_G hb)
  exact va_putF (D := kD g) (ci := 6) (v := .null) (ty := tyX5 2) (C := RX5) (T := TX5) (N := 10) F.1 F.2.1 F.2.2.2.2 inlX5 tyX5 tyX5_ok nmX5 F.2.2.2.1 hK hP hD hS k h2 rfl 2 (by decide) (F.2.2.2.2 _ hlk) (fun _ h => h) rfl hin hown0.symm (by decide +kernel) rfl rfl (Nat.le_of_ble_eq_true rfl) hdg (fun H1 locs1 a1 a2 a3 => kk H1 locs1 (Eq.mp (congrArg (fun w => va_P (kD g) vwCl w H1) e) a1) (Eq.mp (congrArg (fun w => va_D A w) e) a2) a3)
theorem rg_Pickwave_articles (F : CallFix p m c cc nL s args wsL_law own) (hK : va_K (kD g) vwCl (kT g) s) (hP : va_P (kD g) vwCl (kW g S) H) (ob : Ob S 5 a) (hlk : Cond.fieldLink own index "Pickwave" "articles" "Ljava/util/ArrayList;" ∈ wsL_law) (hdg : decode cc pc = .ok (.getfield index, 3)) (kk : W p l e R s m args below meth c H locs cells slots Q (F0 m (pc + 3) ls (va_rf (pG S 53 a) :: rest))) : W p l e R s m args below meth c H locs cells slots Q (F0 m pc ls (.ref a :: rest)) := by
  obtain ⟨k, -, h2⟩ := kge_Pickwave (g := g) ob
  exact va_get (D := kD g) (ci := 6) (C := RX5) (T := TX5) (N := 10) F.1 F.2.1 F.2.2.2.2 inlX5 F.2.2.2.1 hK hP k h2 rfl 3 (by decide) (F.2.2.2.2 _ hlk) (fun _ h => h) rfl hdg kk
theorem rs_Pickwave_articles {b : Nat} (F : CallFix p m c cc nL s args wsL_law own) (hK : va_K (kD g) vwCl (kT g) s) (hP : va_P (kD g) vwCl (kW g S) H) (ob : Ob S 5 a) (hv : pG S 53 a = some b) (hlk : Cond.fieldLink own index "Pickwave" "articles" "Ljava/util/ArrayList;" ∈ wsL_law) (hdg : decode cc pc = .ok (.getfield index, 3)) (kk : W p l e R s m args below meth c H locs cells slots Q (F0 m (pc + 3) ls (.ref b :: rest))) : W p l e R s m args below meth c H locs cells slots Q (F0 m pc ls (.ref a :: rest)) := by
  obtain ⟨k, -, h2⟩ := kge_Pickwave (g := g) ob
  exact va_get (D := kD g) (ci := 6) (C := RX5) (T := TX5) (N := 10) F.1 F.2.1 F.2.2.2.2 inlX5 F.2.2.2.1 hK hP k h2 rfl 3 (by decide) (F.2.2.2.2 _ hlk) (fun _ h => h) rfl hdg (by rw [hv]; exact kk)
theorem rz_Pickwave_articles (F : CallFix p m c cc nL s args wsL_law own) (hK : va_K (kD g) vwCl (kT g) s) (hP : va_P (kD g) vwCl (kW g S) H) (ob : Ob S 5 a) (hv : pG S 53 a = none) (hlk : Cond.fieldLink own index "Pickwave" "articles" "Ljava/util/ArrayList;" ∈ wsL_law) (hdg : decode cc pc = .ok (.getfield index, 3)) (kk : W p l e R s m args below meth c H locs cells slots Q (F0 m (pc + 3) ls (.null :: rest))) : W p l e R s m args below meth c H locs cells slots Q (F0 m pc ls (.ref a :: rest)) := by
  obtain ⟨k, -, h2⟩ := kge_Pickwave (g := g) ob
  exact va_get (D := kD g) (ci := 6) (C := RX5) (T := TX5) (N := 10) F.1 F.2.1 F.2.2.2.2 inlX5 F.2.2.2.1 hK hP k h2 rfl 3 (by decide) (F.2.2.2.2 _ hlk) (fun _ h => h) rfl hdg (by rw [hv]; exact kk)
theorem rps_Pickwave_articles {b : Nat} (F : CallFix p m c cc nL s args wsL_law own) (hK : va_K (kD g) vwCl (kT g) s) (hP : va_P (kD g) vwCl (kW g S) H) (hD : va_D A (kW g S)) (hS : va_S A H0 H locs) (ob : Ob S 5 a) (hlk : Cond.fieldLink own index "Pickwave" "articles" "Ljava/util/ArrayList;" ∈ wsL_law) (hin : meth.name = "<init>") (hown0 : own = "Pickwave") (hdg : decode cc pc = .ok (.putfield index, 3)) (kk : ∀ (H1 : Heap) (locs1 : List Loc), va_P (kD g) vwCl (kW g (setG S 53 a (some b))) H1 → va_D A (kW g (setG S 53 a (some b))) → va_S A H0 H1 locs1 → W p l e R s m args below meth c H1 locs1 cells slots Q (F0 m (pc + 3) ls rest)) : W p l e R s m args below meth c H locs cells slots Q (F0 m pc ls (.ref b :: .ref a :: rest)) := by
  obtain ⟨k, h1, h2⟩ := kge_Pickwave (g := g) ob
  have e : (kW g S).set k (a, .inr (6, [va_rf (pG S 50 a), va_rf (pG S 51 a), va_rf (pG S 52 a), .ref b, va_rf (pG S 54 a), va_rf (pG S 55 a), .int (pF S 56 a), .int (pF S 57 a), .int (pF S 58 a), .long (pJ S a)])) = kW g (setG S 53 a (some b)) := kW_set hD ob.1 h1 rfl (by rw [show kF g (setG S 53 a (some b)) a = .inr (6, [va_rf (pG S 50 a), va_rf (pG S 51 a), va_rf (pG S 52 a), va_rf (pG (setG S 53 a (some b)) 53 a), va_rf (pG S 54 a), va_rf (pG S 55 a), .int (pF S 56 a), .int (pF S 57 a), .int (pF S 58 a), .long (pJ S a)]) from kat_Pickwave (S := setG S 53 a (some b)) ob.2]; rw [uG_at]; rfl) (fun b hb => kF_G hb)
  exact va_putF (D := kD g) (ci := 6) (v := .ref b) (ty := tyX5 3) (C := RX5) (T := TX5) (N := 10) F.1 F.2.1 F.2.2.2.2 inlX5 tyX5 tyX5_ok nmX5 F.2.2.2.1 hK hP hD hS k h2 rfl 3 (by decide) (F.2.2.2.2 _ hlk) (fun _ h => h) rfl hin hown0.symm (by decide +kernel) rfl rfl (Nat.le_of_ble_eq_true rfl) hdg (fun H1 locs1 a1 a2 a3 => kk H1 locs1 (Eq.mp (congrArg (fun w => va_P (kD g) vwCl w H1) e) a1) (Eq.mp (congrArg (fun w => va_D A w) e) a2) a3)
theorem rpn_Pickwave_articles (F : CallFix p m c cc nL s args wsL_law own) (hK : va_K (kD g) vwCl (kT g) s) (hP : va_P (kD g) vwCl (kW g S) H) (hD : va_D A (kW g S)) (hS : va_S A H0 H locs) (ob : Ob S 5 a) (hlk : Cond.fieldLink own index "Pickwave" "articles" "Ljava/util/ArrayList;" ∈ wsL_law) (hin : meth.name = "<init>") (hown0 : own = "Pickwave") (hdg : decode cc pc = .ok (.putfield index, 3)) (kk : ∀ (H1 : Heap) (locs1 : List Loc), va_P (kD g) vwCl (kW g (setG S 53 a none)) H1 → va_D A (kW g (setG S 53 a none)) → va_S A H0 H1 locs1 → W p l e R s m args below meth c H1 locs1 cells slots Q (F0 m (pc + 3) ls rest)) : W p l e R s m args below meth c H locs cells slots Q (F0 m pc ls (.null :: .ref a :: rest)) := by
  obtain ⟨k, h1, h2⟩ := kge_Pickwave (g := g) ob
  have e : (kW g S).set k (a, .inr (6, [va_rf (pG S 50 a), va_rf (pG S 51 a), va_rf (pG S 52 a), .null, va_rf (pG S 54 a), va_rf (pG S 55 a), .int (pF S 56 a), .int (pF S 57 a), .int (pF S 58 a), .long (pJ S a)])) = kW g (setG S 53 a none) := kW_set hD ob.1 h1 rfl (by rw [show kF g (setG S 53 a none) a = .inr (6, [va_rf (pG S 50 a), va_rf (pG S 51 a), va_rf (pG S 52 a), va_rf (pG (setG S 53 a none) 53 a), va_rf (pG S 54 a), va_rf (pG S 55 a), .int (pF S 56 a), .int (pF S 57 a), .int (pF S 58 a), .long (pJ S a)]) from kat_Pickwave (S := setG S 53 a none) ob.2]; rw [uG_at]; rfl) (fun b hb => kF_G hb)
  exact va_putF (D := kD g) (ci := 6) (v := .null) (ty := tyX5 3) (C := RX5) (T := TX5) (N := 10) F.1 F.2.1 F.2.2.2.2 inlX5 tyX5 tyX5_ok nmX5 F.2.2.2.1 hK hP hD hS k h2 rfl 3 (by decide) (F.2.2.2.2 _ hlk) (fun _ h => h) rfl hin hown0.symm (by decide +kernel) rfl rfl (Nat.le_of_ble_eq_true rfl) hdg (fun H1 locs1 a1 a2 a3 => kk H1 locs1 (Eq.mp (congrArg (fun w => va_P (kD g) vwCl w H1) e) a1) (Eq.mp (congrArg (fun w => va_D A w) e) a2) a3)
theorem rg_Pickwave_lines (F : CallFix p m c cc nL s args wsL_law own) (hK : va_K (kD g) vwCl (kT g) s) (hP : va_P (kD g) vwCl (kW g S) H) (ob : Ob S 5 a) (hlk : Cond.fieldLink own index "Pickwave" "lines" "Ljava/util/ArrayList;" ∈ wsL_law) (hdg : decode cc pc = .ok (.getfield index, 3)) (kk : W p l e R s m args below meth c H locs cells slots Q (F0 m (pc + 3) ls (va_rf (pG S 54 a) :: rest))) : W p l e R s m args below meth c H locs cells slots Q (F0 m pc ls (.ref a :: rest)) := by
  obtain ⟨k, -, h2⟩ := kge_Pickwave (g := g) ob
  exact va_get (D := kD g) (ci := 6) (C := RX5) (T := TX5) (N := 10) F.1 F.2.1 F.2.2.2.2 inlX5 F.2.2.2.1 hK hP k h2 rfl 4 (by decide) (F.2.2.2.2 _ hlk) (fun _ h => h) rfl hdg kk
theorem rs_Pickwave_lines {b : Nat} (F : CallFix p m c cc nL s args wsL_law own) (hK : va_K (kD g) vwCl (kT g) s) (hP : va_P (kD g) vwCl (kW g S) H) (ob : Ob S 5 a) (hv : pG S 54 a = some b) (hlk : Cond.fieldLink own index "Pickwave" "lines" "Ljava/util/ArrayList;" ∈ wsL_law) (hdg : decode cc pc = .ok (.getfield index, 3)) (kk : W p l e R s m args below meth c H locs cells slots Q (F0 m (pc + 3) ls (.ref b :: rest))) : W p l e R s m args below meth c H locs cells slots Q (F0 m pc ls (.ref a :: rest)) := by
  obtain ⟨k, -, h2⟩ := kge_Pickwave (g := g) ob
  exact va_get (D := kD g) (ci := 6) (C := RX5) (T := TX5) (N := 10) F.1 F.2.1 F.2.2.2.2 inlX5 F.2.2.2.1 hK hP k h2 rfl 4 (by decide) (F.2.2.2.2 _ hlk) (fun _ h => h) rfl hdg (by rw [hv]; exact kk)
theorem rz_Pickwave_lines (F : CallFix p m c cc nL s args wsL_law own) (hK : va_K (kD g) vwCl (kT g) s) (hP : va_P (kD g) vwCl (kW g S) H) (ob : Ob S 5 a) (hv : pG S 54 a = none) (hlk : Cond.fieldLink own index "Pickwave" "lines" "Ljava/util/ArrayList;" ∈ wsL_law) (hdg : decode cc pc = .ok (.getfield index, 3)) (kk : W p l e R s m args below meth c H locs cells slots Q (F0 m (pc + 3) ls (.null :: rest))) : W p l e R s m args below meth c H locs cells slots Q (F0 m pc ls (.ref a :: rest)) := by
  obtain ⟨k, -, h2⟩ := kge_Pickwave (g := g) ob
  exact va_get (D := kD g) (ci := 6) (C := RX5) (T := TX5) (N := 10) F.1 F.2.1 F.2.2.2.2 inlX5 F.2.2.2.1 hK hP k h2 rfl 4 (by decide) (F.2.2.2.2 _ hlk) (fun _ h => h) rfl hdg (by rw [hv]; exact kk)
theorem rps_Pickwave_lines {b : Nat} (F : CallFix p m c cc nL s args wsL_law own) (hK : va_K (kD g) vwCl (kT g) s) (hP : va_P (kD g) vwCl (kW g S) H) (hD : va_D A (kW g S)) (hS : va_S A H0 H locs) (ob : Ob S 5 a) (hlk : Cond.fieldLink own index "Pickwave" "lines" "Ljava/util/ArrayList;" ∈ wsL_law) (hin : meth.name = "<init>") (hown0 : own = "Pickwave") (hdg : decode cc pc = .ok (.putfield index, 3)) (kk : ∀ (H1 : Heap) (locs1 : List Loc), va_P (kD g) vwCl (kW g (setG S 54 a (some b))) H1 → va_D A (kW g (setG S 54 a (some b))) → va_S A H0 H1 locs1 → W p l e R s m args below meth c H1 locs1 cells slots Q (F0 m (pc + 3) ls rest)) : W p l e R s m args below meth c H locs cells slots Q (F0 m pc ls (.ref b :: .ref a :: rest)) := by
  obtain ⟨k, h1, h2⟩ := kge_Pickwave (g := g) ob
  have e : (kW g S).set k (a, .inr (6, [va_rf (pG S 50 a), va_rf (pG S 51 a), va_rf (pG S 52 a), va_rf (pG S 53 a), .ref b, va_rf (pG S 55 a), .int (pF S 56 a), .int (pF S 57 a), .int (pF S 58 a), .long (pJ S a)])) = kW g (setG S 54 a (some b)) := kW_set hD ob.1 h1 rfl (by rw [show kF g (setG S 54 a (some b)) a = .inr (6, [va_rf (pG S 50 a), va_rf (pG S 51 a), va_rf (pG S 52 a), va_rf (pG S 53 a), va_rf (pG (setG S 54 a (some b)) 54 a), va_rf (pG S 55 a), .int (pF S 56 a), .int (pF S 57 a), .int (pF S 58 a), .long (pJ S a)]) from kat_Pickwave (S := setG S 54 a (some b)) ob.2]; rw [uG_at]; rfl) (fun b hb => kF_G hb)
  exact va_putF (D := kD g) (ci := 6) (v := .ref b) (ty := tyX5 4) (C := RX5) (T := TX5) (N := 10) F.1 F.2.1 F.2.2.2.2 inlX5 tyX5 tyX5_ok nmX5 F.2.2.2.1 hK hP hD hS k h2 rfl 4 (by decide) (F.2.2.2.2 _ hlk) (fun _ h => h) rfl hin hown0.symm (by decide +kernel) rfl rfl (Nat.le_of_ble_eq_true rfl) hdg (fun H1 locs1 a1 a2 a3 => kk H1 locs1 (Eq.mp (congrArg (fun w => va_P (kD g) vwCl w H1) e) a1) (Eq.mp (congrArg (fun w => va_D A w) e) a2) a3)
theorem rpn_Pickwave_lines (F : CallFix p m c cc nL s args wsL_law own) (hK : va_K (kD g) vwCl (kT g) s) (hP : va_P (kD g) vwCl (kW g S) H) (hD : va_D A (kW g S)) (hS : va_S A H0 H locs) (ob : Ob S 5 a) (hlk : Cond.fieldLink own index "Pickwave" "lines" "Ljava/util/ArrayList;" ∈ wsL_law) (hin : meth.name = "<init>") (hown0 : own = "Pickwave") (hdg : decode cc pc = .ok (.putfield index, 3)) (kk : ∀ (H1 : Heap) (locs1 : List Loc), va_P (kD g) vwCl (kW g (setG S 54 a none)) H1 → va_D A (kW g (setG S 54 a none)) → va_S A H0 H1 locs1 → W p l e R s m args below meth c H1 locs1 cells slots Q (F0 m (pc + 3) ls rest)) : W p l e R s m args below meth c H locs cells slots Q (F0 m pc ls (.null :: .ref a :: rest)) := by
  obtain ⟨k, h1, h2⟩ := kge_Pickwave (g := g) ob
  have e : (kW g S).set k (a, .inr (6, [va_rf (pG S 50 a), va_rf (pG S 51 a), va_rf (pG S 52 a), va_rf (pG S 53 a), .null, va_rf (pG S 55 a), .int (pF S 56 a), .int (pF S 57 a), .int (pF S 58 a), .long (pJ S a)])) = kW g (setG S 54 a none) := kW_set hD ob.1 h1 rfl (by rw [show kF g (setG S 54 a none) a = .inr (6, [va_rf (pG S 50 a), va_rf (pG S 51 a), va_rf (pG S 52 a), va_rf (pG S 53 a), va_rf (pG (setG S 54 a none) 54 a), va_rf (pG S 55 a), .int (pF S 56 a), .int (pF S 57 a), .int (pF S 58 a), .long (pJ S a)]) from kat_Pickwave (S := setG S 54 a none) ob.2]; rw [uG_at]; rfl) (fun b hb => kF_G hb)
  exact va_putF (D := kD g) (ci := 6) (v := .null) (ty := tyX5 4) (C := RX5) (T := TX5) (N := 10) F.1 F.2.1 F.2.2.2.2 inlX5 tyX5 tyX5_ok nmX5 F.2.2.2.1 hK hP hD hS k h2 rfl 4 (by decide) (F.2.2.2.2 _ hlk) (fun _ h => h) rfl hin hown0.symm (by decide +kernel) rfl rfl (Nat.le_of_ble_eq_true rfl) hdg (fun H1 locs1 a1 a2 a3 => kk H1 locs1 (Eq.mp (congrArg (fun w => va_P (kD g) vwCl w H1) e) a1) (Eq.mp (congrArg (fun w => va_D A w) e) a2) a3)
theorem rg_Pickwave_log (F : CallFix p m c cc nL s args wsL_law own) (hK : va_K (kD g) vwCl (kT g) s) (hP : va_P (kD g) vwCl (kW g S) H) (ob : Ob S 5 a) (hlk : Cond.fieldLink own index "Pickwave" "log" "LPickwave$ScanLog;" ∈ wsL_law) (hdg : decode cc pc = .ok (.getfield index, 3)) (kk : W p l e R s m args below meth c H locs cells slots Q (F0 m (pc + 3) ls (va_rf (pG S 55 a) :: rest))) : W p l e R s m args below meth c H locs cells slots Q (F0 m pc ls (.ref a :: rest)) := by
  obtain ⟨k, -, h2⟩ := kge_Pickwave (g := g) ob
  exact va_get (D := kD g) (ci := 6) (C := RX5) (T := TX5) (N := 10) F.1 F.2.1 F.2.2.2.2 inlX5 F.2.2.2.1 hK hP k h2 rfl 5 (by decide) (F.2.2.2.2 _ hlk) (fun _ h => h) rfl hdg kk
theorem rs_Pickwave_log {b : Nat} (F : CallFix p m c cc nL s args wsL_law own) (hK : va_K (kD g) vwCl (kT g) s) (hP : va_P (kD g) vwCl (kW g S) H) (ob : Ob S 5 a) (hv : pG S 55 a = some b) (hlk : Cond.fieldLink own index "Pickwave" "log" "LPickwave$ScanLog;" ∈ wsL_law) (hdg : decode cc pc = .ok (.getfield index, 3)) (kk : W p l e R s m args below meth c H locs cells slots Q (F0 m (pc + 3) ls (.ref b :: rest))) : W p l e R s m args below meth c H locs cells slots Q (F0 m pc ls (.ref a :: rest)) := by
  obtain ⟨k, -, h2⟩ := kge_Pickwave (g := g) ob
  exact va_get (D := kD g) (ci := 6) (C := RX5) (T := TX5) (N := 10) F.1 F.2.1 F.2.2.2.2 inlX5 F.2.2.2.1 hK hP k h2 rfl 5 (by decide) (F.2.2.2.2 _ hlk) (fun _ h => h) rfl hdg (by rw [hv]; exact kk)
theorem rz_Pickwave_log (F : CallFix p m c cc nL s args wsL_law own) (hK : va_K (kD g) vwCl (kT g) s) (hP : va_P (kD g) vwCl (kW g S) H) (ob : Ob S 5 a) (hv : pG S 55 a = none) (hlk : Cond.fieldLink own index "Pickwave" "log" "LPickwave$ScanLog;" ∈ wsL_law) (hdg : decode cc pc = .ok (.getfield index, 3)) (kk : W p l e R s m args below meth c H locs cells slots Q (F0 m (pc + 3) ls (.null :: rest))) : W p l e R s m args below meth c H locs cells slots Q (F0 m pc ls (.ref a :: rest)) := by
  obtain ⟨k, -, h2⟩ := kge_Pickwave (g := g) ob
  exact va_get (D := kD g) (ci := 6) (C := RX5) (T := TX5) (N := 10) F.1 F.2.1 F.2.2.2.2 inlX5 F.2.2.2.1 hK hP k h2 rfl 5 (by decide) (F.2.2.2.2 _ hlk) (fun _ h => h) rfl hdg (by rw [hv]; exact kk)
theorem rps_Pickwave_log {b : Nat} (F : CallFix p m c cc nL s args wsL_law own) (hK : va_K (kD g) vwCl (kT g) s) (hP : va_P (kD g) vwCl (kW g S) H) (hD : va_D A (kW g S)) (hS : va_S A H0 H locs) (ob : Ob S 5 a) (hlk : Cond.fieldLink own index "Pickwave" "log" "LPickwave$ScanLog;" ∈ wsL_law) (hin : meth.name = "<init>") (hown0 : own = "Pickwave") (hdg : decode cc pc = .ok (.putfield index, 3)) (kk : ∀ (H1 : Heap) (locs1 : List Loc), va_P (kD g) vwCl (kW g (setG S 55 a (some b))) H1 → va_D A (kW g (setG S 55 a (some b))) → va_S A H0 H1 locs1 → W p l e R s m args below meth c H1 locs1 cells slots Q (F0 m (pc + 3) ls rest)) : W p l e R s m args below meth c H locs cells slots Q (F0 m pc ls (.ref b :: .ref a :: rest)) := by
  obtain ⟨k, h1, h2⟩ := kge_Pickwave (g := g) ob
  have e : (kW g S).set k (a, .inr (6, [va_rf (pG S 50 a), va_rf (pG S 51 a), va_rf (pG S 52 a), va_rf (pG S 53 a), va_rf (pG S 54 a), .ref b, .int (pF S 56 a), .int (pF S 57 a), .int (pF S 58 a), .long (pJ S a)])) = kW g (setG S 55 a (some b)) := kW_set hD ob.1 h1 rfl (by rw [show kF g (setG S 55 a (some b)) a = .inr (6, [va_rf (pG S 50 a), va_rf (pG S 51 a), va_rf (pG S 52 a), va_rf (pG S 53 a), va_rf (pG S 54 a), va_rf (pG (setG S 55 a (some b)) 55 a), .int (pF S 56 a), .int (pF S 57 a), .int (pF S 58 a), .long (pJ S a)]) from kat_Pickwave (S := setG S 55 a (some b)) ob.2]; rw [uG_at]; rfl) (fun b hb => kF_G hb)
  exact va_putF (D := kD g) (ci := 6) (v := .ref b) (ty := tyX5 5) (C := RX5) (T := TX5) (N := 10) F.1 F.2.1 F.2.2.2.2 inlX5 tyX5 tyX5_ok nmX5 F.2.2.2.1 hK hP hD hS k h2 rfl 5 (by decide) (F.2.2.2.2 _ hlk) (fun _ h => h) rfl hin hown0.symm (by decide +kernel) rfl rfl (Nat.le_of_ble_eq_true rfl) hdg (fun H1 locs1 a1 a2 a3 => kk H1 locs1 (Eq.mp (congrArg (fun w => va_P (kD g) vwCl w H1) e) a1) (Eq.mp (congrArg (fun w => va_D A w) e) a2) a3)
theorem rpn_Pickwave_log (F : CallFix p m c cc nL s args wsL_law own) (hK : va_K (kD g) vwCl (kT g) s) (hP : va_P (kD g) vwCl (kW g S) H) (hD : va_D A (kW g S)) (hS : va_S A H0 H locs) (ob : Ob S 5 a) (hlk : Cond.fieldLink own index "Pickwave" "log" "LPickwave$ScanLog;" ∈ wsL_law) (hin : meth.name = "<init>") (hown0 : own = "Pickwave") (hdg : decode cc pc = .ok (.putfield index, 3)) (kk : ∀ (H1 : Heap) (locs1 : List Loc), va_P (kD g) vwCl (kW g (setG S 55 a none)) H1 → va_D A (kW g (setG S 55 a none)) → va_S A H0 H1 locs1 → W p l e R s m args below meth c H1 locs1 cells slots Q (F0 m (pc + 3) ls rest)) : W p l e R s m args below meth c H locs cells slots Q (F0 m pc ls (.null :: .ref a :: rest)) := by
  obtain ⟨k, h1, h2⟩ := kge_Pickwave (g := g) ob
  have e : (kW g S).set k (a, .inr (6, [va_rf (pG S 50 a), va_rf (pG S 51 a), va_rf (pG S 52 a), va_rf (pG S 53 a), va_rf (pG S 54 a), .null, .int (pF S 56 a), .int (pF S 57 a), .int (pF S 58 a), .long (pJ S a)])) = kW g (setG S 55 a none) := kW_set hD ob.1 h1 rfl (by rw [show kF g (setG S 55 a none) a = .inr (6, [va_rf (pG S 50 a), va_rf (pG S 51 a), va_rf (pG S 52 a), va_rf (pG S 53 a), va_rf (pG S 54 a), va_rf (pG (setG S 55 a none) 55 a), .int (pF S 56 a), .int (pF S 57 a), .int (pF S 58 a), .long (pJ S a)]) from kat_Pickwave (S := setG S 55 a none) ob.2]; rw [uG_at]; rfl) (fun b hb => kF_G hb)
  exact va_putF (D := kD g) (ci := 6) (v := .null) (ty := tyX5 5) (C := RX5) (T := TX5) (N := 10) F.1 F.2.1 F.2.2.2.2 inlX5 tyX5 tyX5_ok nmX5 F.2.2.2.1 hK hP hD hS k h2 rfl 5 (by decide) (F.2.2.2.2 _ hlk) (fun _ h => h) rfl hin hown0.symm (by decide +kernel) rfl rfl (Nat.le_of_ble_eq_true rfl) hdg (fun H1 locs1 a1 a2 a3 => kk H1 locs1 (Eq.mp (congrArg (fun w => va_P (kD g) vwCl w H1) e) a1) (Eq.mp (congrArg (fun w => va_D A w) e) a2) a3)
theorem rg_Pickwave_presentMinute (F : CallFix p m c cc nL s args wsL_law own) (hK : va_K (kD g) vwCl (kT g) s) (hP : va_P (kD g) vwCl (kW g S) H) (ob : Ob S 5 a) (hlk : Cond.fieldLink own index "Pickwave" "presentMinute" "I" ∈ wsL_law) (hdg : decode cc pc = .ok (.getfield index, 3)) (kk : W p l e R s m args below meth c H locs cells slots Q (F0 m (pc + 3) ls (.int (pF S 56 a) :: rest))) : W p l e R s m args below meth c H locs cells slots Q (F0 m pc ls (.ref a :: rest)) := by
  obtain ⟨k, -, h2⟩ := kge_Pickwave (g := g) ob
  exact va_get (D := kD g) (ci := 6) (C := RX5) (T := TX5) (N := 10) F.1 F.2.1 F.2.2.2.2 inlX5 F.2.2.2.1 hK hP k h2 rfl 6 (by decide) (F.2.2.2.2 _ hlk) (fun _ h => h) rfl hdg kk
theorem rp_Pickwave_presentMinute {v : Int32} (F : CallFix p m c cc nL s args wsL_law own) (hK : va_K (kD g) vwCl (kT g) s) (hP : va_P (kD g) vwCl (kW g S) H) (hD : va_D A (kW g S)) (hS : va_S A H0 H locs) (ob : Ob S 5 a) (hlk : Cond.fieldLink own index "Pickwave" "presentMinute" "I" ∈ wsL_law) (hdg : decode cc pc = .ok (.putfield index, 3)) (kk : ∀ (H1 : Heap) (locs1 : List Loc), va_P (kD g) vwCl (kW g (setF S 56 a v)) H1 → va_D A (kW g (setF S 56 a v)) → va_S A H0 H1 locs1 → W p l e R s m args below meth c H1 locs1 cells slots Q (F0 m (pc + 3) ls rest)) : W p l e R s m args below meth c H locs cells slots Q (F0 m pc ls (.int v :: .ref a :: rest)) := by
  obtain ⟨k, h1, h2⟩ := kge_Pickwave (g := g) ob
  have e : (kW g S).set k (a, .inr (6, [va_rf (pG S 50 a), va_rf (pG S 51 a), va_rf (pG S 52 a), va_rf (pG S 53 a), va_rf (pG S 54 a), va_rf (pG S 55 a), .int v, .int (pF S 57 a), .int (pF S 58 a), .long (pJ S a)])) = kW g (setF S 56 a v) := kW_set hD ob.1 h1 rfl (by rw [show kF g (setF S 56 a v) a = .inr (6, [va_rf (pG S 50 a), va_rf (pG S 51 a), va_rf (pG S 52 a), va_rf (pG S 53 a), va_rf (pG S 54 a), va_rf (pG S 55 a), .int (pF (setF S 56 a v) 56 a), .int (pF S 57 a), .int (pF S 58 a), .long (pJ S a)]) from kat_Pickwave (S := setF S 56 a v) ob.2]; rw [uF_at]) (fun b hb => kF_F hb)
  exact va_put (D := kD g) (ci := 6) (v := .int v) (ty := tyX5 6) (C := RX5) (T := TX5) (N := 10) F.1 F.2.1 F.2.2.2.2 inlX5 tyX5 tyX5_ok nmX5 F.2.2.2.1 hK hP hD hS k h2 rfl 6 (by decide) (F.2.2.2.2 _ hlk) (fun _ h => h) rfl (by decide +kernel) rfl rfl (Nat.le_of_ble_eq_true rfl) hdg (fun H1 locs1 a1 a2 a3 => kk H1 locs1 (Eq.mp (congrArg (fun w => va_P (kD g) vwCl w H1) e) a1) (Eq.mp (congrArg (fun w => va_D A w) e) a2) a3)
theorem rg_Pickwave_waveCount (F : CallFix p m c cc nL s args wsL_law own) (hK : va_K (kD g) vwCl (kT g) s) (hP : va_P (kD g) vwCl (kW g S) H) (ob : Ob S 5 a) (hlk : Cond.fieldLink own index "Pickwave" "waveCount" "I" ∈ wsL_law) (hdg : decode cc pc = .ok (.getfield index, 3)) (kk : W p l e R s m args below meth c H locs cells slots Q (F0 m (pc + 3) ls (.int (pF S 57 a) :: rest))) : W p l e R s m args below meth c H locs cells slots Q (F0 m pc ls (.ref a :: rest)) := by
  obtain ⟨k, -, h2⟩ := kge_Pickwave (g := g) ob
  exact va_get (D := kD g) (ci := 6) (C := RX5) (T := TX5) (N := 10) F.1 F.2.1 F.2.2.2.2 inlX5 F.2.2.2.1 hK hP k h2 rfl 7 (by decide) (F.2.2.2.2 _ hlk) (fun _ h => h) rfl hdg kk
theorem rp_Pickwave_waveCount {v : Int32} (F : CallFix p m c cc nL s args wsL_law own) (hK : va_K (kD g) vwCl (kT g) s) (hP : va_P (kD g) vwCl (kW g S) H) (hD : va_D A (kW g S)) (hS : va_S A H0 H locs) (ob : Ob S 5 a) (hlk : Cond.fieldLink own index "Pickwave" "waveCount" "I" ∈ wsL_law) (hdg : decode cc pc = .ok (.putfield index, 3)) (kk : ∀ (H1 : Heap) (locs1 : List Loc), va_P (kD g) vwCl (kW g (setF S 57 a v)) H1 → va_D A (kW g (setF S 57 a v)) → va_S A H0 H1 locs1 → W p l e R s m args below meth c H1 locs1 cells slots Q (F0 m (pc + 3) ls rest)) : W p l e R s m args below meth c H locs cells slots Q (F0 m pc ls (.int v :: .ref a :: rest)) := by
  obtain ⟨k, h1, h2⟩ := kge_Pickwave (g := g) ob
  have e : (kW g S).set k (a, .inr (6, [va_rf (pG S 50 a), va_rf (pG S 51 a), va_rf (pG S 52 a), va_rf (pG S 53 a), va_rf (pG S 54 a), va_rf (pG S 55 a), .int (pF S 56 a), .int v, .int (pF S 58 a), .long (pJ S a)])) = kW g (setF S 57 a v) := kW_set hD ob.1 h1 rfl (by rw [show kF g (setF S 57 a v) a = .inr (6, [va_rf (pG S 50 a), va_rf (pG S 51 a), va_rf (pG S 52 a), va_rf (pG S 53 a), va_rf (pG S 54 a), va_rf (pG S 55 a), .int (pF S 56 a), .int (pF (setF S 57 a v) 57 a), .int (pF S 58 a), .long (pJ S a)]) from kat_Pickwave (S := setF S 57 a v) ob.2]; rw [uF_at]) (fun b hb => kF_F hb)
  exact va_put (D := kD g) (ci := 6) (v := .int v) (ty := tyX5 7) (C := RX5) (T := TX5) (N := 10) F.1 F.2.1 F.2.2.2.2 inlX5 tyX5 tyX5_ok nmX5 F.2.2.2.1 hK hP hD hS k h2 rfl 7 (by decide) (F.2.2.2.2 _ hlk) (fun _ h => h) rfl (by decide +kernel) rfl rfl (Nat.le_of_ble_eq_true rfl) hdg (fun H1 locs1 a1 a2 a3 => kk H1 locs1 (Eq.mp (congrArg (fun w => va_P (kD g) vwCl w H1) e) a1) (Eq.mp (congrArg (fun w => va_D A w) e) a2) a3)
theorem rg_Pickwave_badUnits (F : CallFix p m c cc nL s args wsL_law own) (hK : va_K (kD g) vwCl (kT g) s) (hP : va_P (kD g) vwCl (kW g S) H) (ob : Ob S 5 a) (hlk : Cond.fieldLink own index "Pickwave" "badUnits" "I" ∈ wsL_law) (hdg : decode cc pc = .ok (.getfield index, 3)) (kk : W p l e R s m args below meth c H locs cells slots Q (F0 m (pc + 3) ls (.int (pF S 58 a) :: rest))) : W p l e R s m args below meth c H locs cells slots Q (F0 m pc ls (.ref a :: rest)) := by
  obtain ⟨k, -, h2⟩ := kge_Pickwave (g := g) ob
  exact va_get (D := kD g) (ci := 6) (C := RX5) (T := TX5) (N := 10) F.1 F.2.1 F.2.2.2.2 inlX5 F.2.2.2.1 hK hP k h2 rfl 8 (by decide) (F.2.2.2.2 _ hlk) (fun _ h => h) rfl hdg kk
theorem rp_Pickwave_badUnits {v : Int32} (F : CallFix p m c cc nL s args wsL_law own) (hK : va_K (kD g) vwCl (kT g) s) (hP : va_P (kD g) vwCl (kW g S) H) (hD : va_D A (kW g S)) (hS : va_S A H0 H locs) (ob : Ob S 5 a) (hlk : Cond.fieldLink own index "Pickwave" "badUnits" "I" ∈ wsL_law) (hdg : decode cc pc = .ok (.putfield index, 3)) (kk : ∀ (H1 : Heap) (locs1 : List Loc), va_P (kD g) vwCl (kW g (setF S 58 a v)) H1 → va_D A (kW g (setF S 58 a v)) → va_S A H0 H1 locs1 → W p l e R s m args below meth c H1 locs1 cells slots Q (F0 m (pc + 3) ls rest)) : W p l e R s m args below meth c H locs cells slots Q (F0 m pc ls (.int v :: .ref a :: rest)) := by
  obtain ⟨k, h1, h2⟩ := kge_Pickwave (g := g) ob
  have e : (kW g S).set k (a, .inr (6, [va_rf (pG S 50 a), va_rf (pG S 51 a), va_rf (pG S 52 a), va_rf (pG S 53 a), va_rf (pG S 54 a), va_rf (pG S 55 a), .int (pF S 56 a), .int (pF S 57 a), .int v, .long (pJ S a)])) = kW g (setF S 58 a v) := kW_set hD ob.1 h1 rfl (by rw [show kF g (setF S 58 a v) a = .inr (6, [va_rf (pG S 50 a), va_rf (pG S 51 a), va_rf (pG S 52 a), va_rf (pG S 53 a), va_rf (pG S 54 a), va_rf (pG S 55 a), .int (pF S 56 a), .int (pF S 57 a), .int (pF (setF S 58 a v) 58 a), .long (pJ S a)]) from kat_Pickwave (S := setF S 58 a v) ob.2]; rw [uF_at]) (fun b hb => kF_F hb)
  exact va_put (D := kD g) (ci := 6) (v := .int v) (ty := tyX5 8) (C := RX5) (T := TX5) (N := 10) F.1 F.2.1 F.2.2.2.2 inlX5 tyX5 tyX5_ok nmX5 F.2.2.2.1 hK hP hD hS k h2 rfl 8 (by decide) (F.2.2.2.2 _ hlk) (fun _ h => h) rfl (by decide +kernel) rfl rfl (Nat.le_of_ble_eq_true rfl) hdg (fun H1 locs1 a1 a2 a3 => kk H1 locs1 (Eq.mp (congrArg (fun w => va_P (kD g) vwCl w H1) e) a1) (Eq.mp (congrArg (fun w => va_D A w) e) a2) a3)
theorem rg_Pickwave_shippedUnits (F : CallFix p m c cc nL s args wsL_law own) (hK : va_K (kD g) vwCl (kT g) s) (hP : va_P (kD g) vwCl (kW g S) H) (ob : Ob S 5 a) (hlk : Cond.fieldLink own index "Pickwave" "shippedUnits" "J" ∈ wsL_law) (hdg : decode cc pc = .ok (.getfield index, 3)) (kk : W p l e R s m args below meth c H locs cells slots Q (F0 m (pc + 3) ls (.long (pJ S a) :: rest))) : W p l e R s m args below meth c H locs cells slots Q (F0 m pc ls (.ref a :: rest)) := by
  obtain ⟨k, -, h2⟩ := kge_Pickwave (g := g) ob
  exact va_get (D := kD g) (ci := 6) (C := RX5) (T := TX5) (N := 10) F.1 F.2.1 F.2.2.2.2 inlX5 F.2.2.2.1 hK hP k h2 rfl 9 (by decide) (F.2.2.2.2 _ hlk) (fun _ h => h) rfl hdg kk
theorem rp_Pickwave_shippedUnits {v : Int64} (F : CallFix p m c cc nL s args wsL_law own) (hK : va_K (kD g) vwCl (kT g) s) (hP : va_P (kD g) vwCl (kW g S) H) (hD : va_D A (kW g S)) (hS : va_S A H0 H locs) (ob : Ob S 5 a) (hlk : Cond.fieldLink own index "Pickwave" "shippedUnits" "J" ∈ wsL_law) (hdg : decode cc pc = .ok (.putfield index, 3)) (kk : ∀ (H1 : Heap) (locs1 : List Loc), va_P (kD g) vwCl (kW g (setJ S a v)) H1 → va_D A (kW g (setJ S a v)) → va_S A H0 H1 locs1 → W p l e R s m args below meth c H1 locs1 cells slots Q (F0 m (pc + 3) ls rest)) : W p l e R s m args below meth c H locs cells slots Q (F0 m pc ls (.long v :: .ref a :: rest)) := by
  obtain ⟨k, h1, h2⟩ := kge_Pickwave (g := g) ob
  have e : (kW g S).set k (a, .inr (6, [va_rf (pG S 50 a), va_rf (pG S 51 a), va_rf (pG S 52 a), va_rf (pG S 53 a), va_rf (pG S 54 a), va_rf (pG S 55 a), .int (pF S 56 a), .int (pF S 57 a), .int (pF S 58 a), .long v])) = kW g (setJ S a v) := kW_set hD ob.1 h1 rfl (by rw [show kF g (setJ S a v) a = .inr (6, [va_rf (pG S 50 a), va_rf (pG S 51 a), va_rf (pG S 52 a), va_rf (pG S 53 a), va_rf (pG S 54 a), va_rf (pG S 55 a), .int (pF S 56 a), .int (pF S 57 a), .int (pF S 58 a), .long (va_up (pJ S) a v a)]) from kat_Pickwave (S := setJ S a v) ob.2]; rw [va_up_self]) (fun b hb => kF_J hb)
  exact va_put (D := kD g) (ci := 6) (v := .long v) (ty := tyX5 9) (C := RX5) (T := TX5) (N := 10) F.1 F.2.1 F.2.2.2.2 inlX5 tyX5 tyX5_ok nmX5 F.2.2.2.1 hK hP hD hS k h2 rfl 9 (by decide) (F.2.2.2.2 _ hlk) (fun _ h => h) rfl (by decide +kernel) rfl rfl (Nat.le_of_ble_eq_true rfl) hdg (fun H1 locs1 a1 a2 a3 => kk H1 locs1 (Eq.mp (congrArg (fun w => va_P (kD g) vwCl w H1) e) a1) (Eq.mp (congrArg (fun w => va_D A w) e) a2) a3)
theorem rn_Pickwave (F : CallFix p m c cc nL s args wsL_law own) (hK : va_K (kD g) vwCl (kT g) s) (hP : va_P (kD g) vwCl (kW g S) H) (hD : va_D A (kW g S)) (hS : va_S A H0 H locs) (hA : ∀ q : Nat, H0.size ≤ q → A q) (w1 : Cond.classLink own index RX5 ∈ wsL_law) (w2 : Cond.instantiable RX5 10 ∈ wsL_law) (w3 : Cond.initialized RX5 ∈ wsL_law) (hc : cells + 1 ≤ R.cells) (hs : slots + 10 ≤ R.slots) (hdg : decode cc pc = .ok (.new index, 3)) (kk : ∀ (q : Nat) (H1 : Heap), q ∉ pL S → va_P (kD g) vwCl (kW g (newO S q 5)) H1 → va_D A (kW g (newO S q 5)) → va_S A H0 H1 locs → W p l e R s m args below meth c H1 locs (cells + 1) (slots + 10) Q (F0 m (pc + 3) ls (.ref q :: rest))) : W p l e R s m args below meth c H locs cells slots Q (F0 m pc ls rest) := by
  refine va_new (D := kD g) (ci := 6) (fs := [.null, .null, .null, .null, .null, .null, .int 0, .int 0, .int 0, .long 0]) (C := RX5) (T := TX5) (N := 10) F.1 F.2.1 F.2.2.2.2 inlX5 tyX5 tyX5_ok F.2.2.2.1 (F.2.2.2.2 _ w1) (F.2.2.2.2 _ w2) (F.2.2.2.2 _ w3) hK hP hD hS hA rfl (fun j hj => by rcases (show j = 0 ∨ j = 1 ∨ j = 2 ∨ j = 3 ∨ j = 4 ∨ j = 5 ∨ j = 6 ∨ j = 7 ∨ j = 8 ∨ j = 9 by omega) with rfl | rfl | rfl | rfl | rfl | rfl | rfl | rfl | rfl | rfl <;> rfl) hc hs hdg (fun q H1 a1 a2 a3 => ?_)
  have hq : q ∉ pL S := va_pl_fresh2 (X := []) a2
  have e : kW g S ++ [(q, .inr (6, [.null, .null, .null, .null, .null, .null, .int 0, .int 0, .int 0, .long 0]))] = kW g (newO S q 5) := kW_push hq rfl (by rw [show kF g (newO S q 5) q = .inr (6, [va_rf (va_up (pG S 50) q none q), va_rf (va_up (pG S 51) q none q), va_rf (va_up (pG S 52) q none q), va_rf (va_up (pG S 53) q none q), va_rf (va_up (pG S 54) q none q), va_rf (va_up (pG S 55) q none q), .int (va_up (pF S 56) q 0 q), .int (va_up (pF S 57) q 0 q), .int (va_up (pF S 58) q 0 q), .long (va_up (pJ S) q 0 q)]) from kat_Pickwave (S := newO S q 5) (va_up_self _ _ _)]; simp only [va_up_self]; try rfl) (fun b hb => kF_O hb)
  exact kk q H1 hq (Eq.mp (congrArg (fun w => va_P (kD g) vwCl w H1) e) a1) (Eq.mp (congrArg (fun w => va_D A w) e) a2) a3
theorem rr_Pickwave (hK : va_K (kD g) vwCl (kT g) s) (hP : va_P (kD g) vwCl (kW g S) H) (ob : Ob S 5 a) : ∃ cell : Cell, H[a]? = some cell ∧ cell.vm.isStatics = false ∧ s.vm.findClass RX5 = some cell.cls := by
  obtain ⟨k, -, h2⟩ := kge_Pickwave (g := g) ob
  exact va_recv (D := kD g) hK hP (ci := 6) (q0 := k) (q := (RX5, TX5, 10)) rfl h2
theorem kat_ArrayList (h : pK S a = 7) : kF g S a = .inr (0, [.int (pF S 70 a), va_rf (pG S 71 a), .int (pF S 72 a)]) := by unfold kF; rw [h]; rfl
theorem kge_ArrayList (ob : Ob S 7 a) : ∃ k : Nat, (kW g S)[k]? = some (a, kF g S a) ∧ (kW g S)[k]? = some (a, .inr (0, [.int (pF S 70 a), va_rf (pG S 71 a), .int (pF S 72 a)])) := by
  obtain ⟨k, hk⟩ := kW_get (g := g) ob.1
  exact ⟨k, hk, hk.trans (congrArg (fun x => some (a, x)) (kat_ArrayList ob.2))⟩
theorem rg_ArrayList_modCount (F : CallFix p m c cc nL s args wsL_law own) (hK : va_K (kD g) vwCl (kT g) s) (hP : va_P (kD g) vwCl (kW g S) H) (ob : Ob S 7 a) (hlk : Cond.fieldLink own index "java/util/AbstractList" "modCount" "I" ∈ wsL_law) (hdg : decode cc pc = .ok (.getfield index, 3)) (kk : W p l e R s m args below meth c H locs cells slots Q (F0 m (pc + 3) ls (.int (pF S 70 a) :: rest))) : W p l e R s m args below meth c H locs cells slots Q (F0 m pc ls (.ref a :: rest)) := by
  obtain ⟨k, -, h2⟩ := kge_ArrayList (g := g) ob
  exact va_get (D := kD g) (ci := 0) (C := RJx4a65c) (T := TJx4a65c) (N := 3) F.1 F.2.1 F.2.2.2.2 inlJx4a65c F.2.2.2.1 hK hP k h2 rfl 0 (by decide) (F.2.2.2.2 _ hlk) (fun _ h => h) rfl hdg kk
theorem rp_ArrayList_modCount {v : Int32} (F : CallFix p m c cc nL s args wsL_law own) (hK : va_K (kD g) vwCl (kT g) s) (hP : va_P (kD g) vwCl (kW g S) H) (hD : va_D A (kW g S)) (hS : va_S A H0 H locs) (ob : Ob S 7 a) (hlk : Cond.fieldLink own index "java/util/AbstractList" "modCount" "I" ∈ wsL_law) (hdg : decode cc pc = .ok (.putfield index, 3)) (kk : ∀ (H1 : Heap) (locs1 : List Loc), va_P (kD g) vwCl (kW g (setF S 70 a v)) H1 → va_D A (kW g (setF S 70 a v)) → va_S A H0 H1 locs1 → W p l e R s m args below meth c H1 locs1 cells slots Q (F0 m (pc + 3) ls rest)) : W p l e R s m args below meth c H locs cells slots Q (F0 m pc ls (.int v :: .ref a :: rest)) := by
  obtain ⟨k, h1, h2⟩ := kge_ArrayList (g := g) ob
  have e : (kW g S).set k (a, .inr (0, [.int v, va_rf (pG S 71 a), .int (pF S 72 a)])) = kW g (setF S 70 a v) := kW_set hD ob.1 h1 rfl (by rw [show kF g (setF S 70 a v) a = .inr (0, [.int (pF (setF S 70 a v) 70 a), va_rf (pG S 71 a), .int (pF S 72 a)]) from kat_ArrayList (S := setF S 70 a v) ob.2]; rw [uF_at]) (fun b hb => kF_F hb)
  exact va_put (D := kD g) (ci := 0) (v := .int v) (ty := tyJx4a65c 0) (C := RJx4a65c) (T := TJx4a65c) (N := 3) F.1 F.2.1 F.2.2.2.2 inlJx4a65c tyJx4a65c tyJx4a65c_ok nmJx4a65c F.2.2.2.1 hK hP hD hS k h2 rfl 0 (by decide) (F.2.2.2.2 _ hlk) (fun _ h => h) rfl (by decide +kernel) rfl rfl (Nat.le_of_ble_eq_true rfl) hdg (fun H1 locs1 a1 a2 a3 => kk H1 locs1 (Eq.mp (congrArg (fun w => va_P (kD g) vwCl w H1) e) a1) (Eq.mp (congrArg (fun w => va_D A w) e) a2) a3)
theorem rg_ArrayList_modCountA (F : CallFix p m c cc nL s args wsL_law own) (hK : va_K (kD g) vwCl (kT g) s) (hP : va_P (kD g) vwCl (kW g S) H) (ob : Ob S 7 a) (hlk : Cond.fieldLink own index "java/util/ArrayList" "modCount" "I" ∈ wsL_law) (hdg : decode cc pc = .ok (.getfield index, 3)) (kk : W p l e R s m args below meth c H locs cells slots Q (F0 m (pc + 3) ls (.int (pF S 70 a) :: rest))) : W p l e R s m args below meth c H locs cells slots Q (F0 m pc ls (.ref a :: rest)) := by
  obtain ⟨k, -, h2⟩ := kge_ArrayList (g := g) ob
  exact va_get (D := kD g) (ci := 0) (C := RJx4a65c) (T := TJx4a65c) (N := 3) F.1 F.2.1 F.2.2.2.2 inlJx4a65c F.2.2.2.1 hK hP k h2 rfl 0 (by decide) (F.2.2.2.2 _ hlk) (fun x h => u_same (F.2.2.2.2 _ kw_127) x h) rfl hdg kk
theorem rp_ArrayList_modCountA {v : Int32} (F : CallFix p m c cc nL s args wsL_law own) (hK : va_K (kD g) vwCl (kT g) s) (hP : va_P (kD g) vwCl (kW g S) H) (hD : va_D A (kW g S)) (hS : va_S A H0 H locs) (ob : Ob S 7 a) (hlk : Cond.fieldLink own index "java/util/ArrayList" "modCount" "I" ∈ wsL_law) (hdg : decode cc pc = .ok (.putfield index, 3)) (kk : ∀ (H1 : Heap) (locs1 : List Loc), va_P (kD g) vwCl (kW g (setF S 70 a v)) H1 → va_D A (kW g (setF S 70 a v)) → va_S A H0 H1 locs1 → W p l e R s m args below meth c H1 locs1 cells slots Q (F0 m (pc + 3) ls rest)) : W p l e R s m args below meth c H locs cells slots Q (F0 m pc ls (.int v :: .ref a :: rest)) := by
  obtain ⟨k, h1, h2⟩ := kge_ArrayList (g := g) ob
  have e : (kW g S).set k (a, .inr (0, [.int v, va_rf (pG S 71 a), .int (pF S 72 a)])) = kW g (setF S 70 a v) := kW_set hD ob.1 h1 rfl (by rw [show kF g (setF S 70 a v) a = .inr (0, [.int (pF (setF S 70 a v) 70 a), va_rf (pG S 71 a), .int (pF S 72 a)]) from kat_ArrayList (S := setF S 70 a v) ob.2]; rw [uF_at]) (fun b hb => kF_F hb)
  exact va_put (D := kD g) (ci := 0) (v := .int v) (ty := tyJx4a65c 0) (C := RJx4a65c) (T := TJx4a65c) (N := 3) F.1 F.2.1 F.2.2.2.2 inlJx4a65c tyJx4a65c tyJx4a65c_ok nmJx4a65c F.2.2.2.1 hK hP hD hS k h2 rfl 0 (by decide) (F.2.2.2.2 _ hlk) (fun x h => u_same (F.2.2.2.2 _ kw_127) x h) rfl (by decide +kernel) rfl rfl (Nat.le_of_ble_eq_true rfl) hdg (fun H1 locs1 a1 a2 a3 => kk H1 locs1 (Eq.mp (congrArg (fun w => va_P (kD g) vwCl w H1) e) a1) (Eq.mp (congrArg (fun w => va_D A w) e) a2) a3)
theorem rg_ArrayList_elementData (F : CallFix p m c cc nL s args wsL_law own) (hK : va_K (kD g) vwCl (kT g) s) (hP : va_P (kD g) vwCl (kW g S) H) (ob : Ob S 7 a) (hlk : Cond.fieldLink own index "java/util/ArrayList" "elementData" "[Ljava/lang/Object;" ∈ wsL_law) (hdg : decode cc pc = .ok (.getfield index, 3)) (kk : W p l e R s m args below meth c H locs cells slots Q (F0 m (pc + 3) ls (va_rf (pG S 71 a) :: rest))) : W p l e R s m args below meth c H locs cells slots Q (F0 m pc ls (.ref a :: rest)) := by
  obtain ⟨k, -, h2⟩ := kge_ArrayList (g := g) ob
  exact va_get (D := kD g) (ci := 0) (C := RJx4a65c) (T := TJx4a65c) (N := 3) F.1 F.2.1 F.2.2.2.2 inlJx4a65c F.2.2.2.1 hK hP k h2 rfl 1 (by decide) (F.2.2.2.2 _ hlk) (fun _ h => h) rfl hdg kk
theorem rs_ArrayList_elementData {b : Nat} (F : CallFix p m c cc nL s args wsL_law own) (hK : va_K (kD g) vwCl (kT g) s) (hP : va_P (kD g) vwCl (kW g S) H) (ob : Ob S 7 a) (hv : pG S 71 a = some b) (hlk : Cond.fieldLink own index "java/util/ArrayList" "elementData" "[Ljava/lang/Object;" ∈ wsL_law) (hdg : decode cc pc = .ok (.getfield index, 3)) (kk : W p l e R s m args below meth c H locs cells slots Q (F0 m (pc + 3) ls (.ref b :: rest))) : W p l e R s m args below meth c H locs cells slots Q (F0 m pc ls (.ref a :: rest)) := by
  obtain ⟨k, -, h2⟩ := kge_ArrayList (g := g) ob
  exact va_get (D := kD g) (ci := 0) (C := RJx4a65c) (T := TJx4a65c) (N := 3) F.1 F.2.1 F.2.2.2.2 inlJx4a65c F.2.2.2.1 hK hP k h2 rfl 1 (by decide) (F.2.2.2.2 _ hlk) (fun _ h => h) rfl hdg (by rw [hv]; exact kk)
theorem rz_ArrayList_elementData (F : CallFix p m c cc nL s args wsL_law own) (hK : va_K (kD g) vwCl (kT g) s) (hP : va_P (kD g) vwCl (kW g S) H) (ob : Ob S 7 a) (hv : pG S 71 a = none) (hlk : Cond.fieldLink own index "java/util/ArrayList" "elementData" "[Ljava/lang/Object;" ∈ wsL_law) (hdg : decode cc pc = .ok (.getfield index, 3)) (kk : W p l e R s m args below meth c H locs cells slots Q (F0 m (pc + 3) ls (.null :: rest))) : W p l e R s m args below meth c H locs cells slots Q (F0 m pc ls (.ref a :: rest)) := by
  obtain ⟨k, -, h2⟩ := kge_ArrayList (g := g) ob
  exact va_get (D := kD g) (ci := 0) (C := RJx4a65c) (T := TJx4a65c) (N := 3) F.1 F.2.1 F.2.2.2.2 inlJx4a65c F.2.2.2.1 hK hP k h2 rfl 1 (by decide) (F.2.2.2.2 _ hlk) (fun _ h => h) rfl hdg (by rw [hv]; exact kk)
theorem rps_ArrayList_elementData {b : Nat} (F : CallFix p m c cc nL s args wsL_law own) (hK : va_K (kD g) vwCl (kT g) s) (hP : va_P (kD g) vwCl (kW g S) H) (hD : va_D A (kW g S)) (hS : va_S A H0 H locs) (ob : Ob S 7 a) (hlk : Cond.fieldLink own index "java/util/ArrayList" "elementData" "[Ljava/lang/Object;" ∈ wsL_law) (hdg : decode cc pc = .ok (.putfield index, 3)) (kk : ∀ (H1 : Heap) (locs1 : List Loc), va_P (kD g) vwCl (kW g (setG S 71 a (some b))) H1 → va_D A (kW g (setG S 71 a (some b))) → va_S A H0 H1 locs1 → W p l e R s m args below meth c H1 locs1 cells slots Q (F0 m (pc + 3) ls rest)) : W p l e R s m args below meth c H locs cells slots Q (F0 m pc ls (.ref b :: .ref a :: rest)) := by
  obtain ⟨k, h1, h2⟩ := kge_ArrayList (g := g) ob
  have e : (kW g S).set k (a, .inr (0, [.int (pF S 70 a), .ref b, .int (pF S 72 a)])) = kW g (setG S 71 a (some b)) := kW_set hD ob.1 h1 rfl (by rw [show kF g (setG S 71 a (some b)) a = .inr (0, [.int (pF S 70 a), va_rf (pG (setG S 71 a (some b)) 71 a), .int (pF S 72 a)]) from kat_ArrayList (S := setG S 71 a (some b)) ob.2]; rw [uG_at]; rfl) (fun b hb => kF_G hb)
  exact va_put (D := kD g) (ci := 0) (v := .ref b) (ty := tyJx4a65c 1) (C := RJx4a65c) (T := TJx4a65c) (N := 3) F.1 F.2.1 F.2.2.2.2 inlJx4a65c tyJx4a65c tyJx4a65c_ok nmJx4a65c F.2.2.2.1 hK hP hD hS k h2 rfl 1 (by decide) (F.2.2.2.2 _ hlk) (fun _ h => h) rfl (by decide +kernel) rfl rfl (Nat.le_of_ble_eq_true rfl) hdg (fun H1 locs1 a1 a2 a3 => kk H1 locs1 (Eq.mp (congrArg (fun w => va_P (kD g) vwCl w H1) e) a1) (Eq.mp (congrArg (fun w => va_D A w) e) a2) a3)
theorem rpn_ArrayList_elementData (F : CallFix p m c cc nL s args wsL_law own) (hK : va_K (kD g) vwCl (kT g) s) (hP : va_P (kD g) vwCl (kW g S) H) (hD : va_D A (kW g S)) (hS : va_S A H0 H locs) (ob : Ob S 7 a) (hlk : Cond.fieldLink own index "java/util/ArrayList" "elementData" "[Ljava/lang/Object;" ∈ wsL_law) (hdg : decode cc pc = .ok (.putfield index, 3)) (kk : ∀ (H1 : Heap) (locs1 : List Loc), va_P (kD g) vwCl (kW g (setG S 71 a none)) H1 → va_D A (kW g (setG S 71 a none)) → va_S A H0 H1 locs1 → W p l e R s m args below meth c H1 locs1 cells slots Q (F0 m (pc + 3) ls rest)) : W p l e R s m args below meth c H locs cells slots Q (F0 m pc ls (.null :: .ref a :: rest)) := by
  obtain ⟨k, h1, h2⟩ := kge_ArrayList (g := g) ob
  have e : (kW g S).set k (a, .inr (0, [.int (pF S 70 a), .null, .int (pF S 72 a)])) = kW g (setG S 71 a none) := kW_set hD ob.1 h1 rfl (by rw [show kF g (setG S 71 a none) a = .inr (0, [.int (pF S 70 a), va_rf (pG (setG S 71 a none) 71 a), .int (pF S 72 a)]) from kat_ArrayList (S := setG S 71 a none) ob.2]; rw [uG_at]; rfl) (fun b hb => kF_G hb)
  exact va_put (D := kD g) (ci := 0) (v := .null) (ty := tyJx4a65c 1) (C := RJx4a65c) (T := TJx4a65c) (N := 3) F.1 F.2.1 F.2.2.2.2 inlJx4a65c tyJx4a65c tyJx4a65c_ok nmJx4a65c F.2.2.2.1 hK hP hD hS k h2 rfl 1 (by decide) (F.2.2.2.2 _ hlk) (fun _ h => h) rfl (by decide +kernel) rfl rfl (Nat.le_of_ble_eq_true rfl) hdg (fun H1 locs1 a1 a2 a3 => kk H1 locs1 (Eq.mp (congrArg (fun w => va_P (kD g) vwCl w H1) e) a1) (Eq.mp (congrArg (fun w => va_D A w) e) a2) a3)
theorem rg_ArrayList_size (F : CallFix p m c cc nL s args wsL_law own) (hK : va_K (kD g) vwCl (kT g) s) (hP : va_P (kD g) vwCl (kW g S) H) (ob : Ob S 7 a) (hlk : Cond.fieldLink own index "java/util/ArrayList" "size" "I" ∈ wsL_law) (hdg : decode cc pc = .ok (.getfield index, 3)) (kk : W p l e R s m args below meth c H locs cells slots Q (F0 m (pc + 3) ls (.int (pF S 72 a) :: rest))) : W p l e R s m args below meth c H locs cells slots Q (F0 m pc ls (.ref a :: rest)) := by
  obtain ⟨k, -, h2⟩ := kge_ArrayList (g := g) ob
  exact va_get (D := kD g) (ci := 0) (C := RJx4a65c) (T := TJx4a65c) (N := 3) F.1 F.2.1 F.2.2.2.2 inlJx4a65c F.2.2.2.1 hK hP k h2 rfl 2 (by decide) (F.2.2.2.2 _ hlk) (fun _ h => h) rfl hdg kk
theorem rp_ArrayList_size {v : Int32} (F : CallFix p m c cc nL s args wsL_law own) (hK : va_K (kD g) vwCl (kT g) s) (hP : va_P (kD g) vwCl (kW g S) H) (hD : va_D A (kW g S)) (hS : va_S A H0 H locs) (ob : Ob S 7 a) (hlk : Cond.fieldLink own index "java/util/ArrayList" "size" "I" ∈ wsL_law) (hdg : decode cc pc = .ok (.putfield index, 3)) (kk : ∀ (H1 : Heap) (locs1 : List Loc), va_P (kD g) vwCl (kW g (setF S 72 a v)) H1 → va_D A (kW g (setF S 72 a v)) → va_S A H0 H1 locs1 → W p l e R s m args below meth c H1 locs1 cells slots Q (F0 m (pc + 3) ls rest)) : W p l e R s m args below meth c H locs cells slots Q (F0 m pc ls (.int v :: .ref a :: rest)) := by
  obtain ⟨k, h1, h2⟩ := kge_ArrayList (g := g) ob
  have e : (kW g S).set k (a, .inr (0, [.int (pF S 70 a), va_rf (pG S 71 a), .int v])) = kW g (setF S 72 a v) := kW_set hD ob.1 h1 rfl (by rw [show kF g (setF S 72 a v) a = .inr (0, [.int (pF S 70 a), va_rf (pG S 71 a), .int (pF (setF S 72 a v) 72 a)]) from kat_ArrayList (S := setF S 72 a v) ob.2]; rw [uF_at]) (fun b hb => kF_F hb)
  exact va_put (D := kD g) (ci := 0) (v := .int v) (ty := tyJx4a65c 2) (C := RJx4a65c) (T := TJx4a65c) (N := 3) F.1 F.2.1 F.2.2.2.2 inlJx4a65c tyJx4a65c tyJx4a65c_ok nmJx4a65c F.2.2.2.1 hK hP hD hS k h2 rfl 2 (by decide) (F.2.2.2.2 _ hlk) (fun _ h => h) rfl (by decide +kernel) rfl rfl (Nat.le_of_ble_eq_true rfl) hdg (fun H1 locs1 a1 a2 a3 => kk H1 locs1 (Eq.mp (congrArg (fun w => va_P (kD g) vwCl w H1) e) a1) (Eq.mp (congrArg (fun w => va_D A w) e) a2) a3)
theorem rn_ArrayList (F : CallFix p m c cc nL s args wsL_law own) (hK : va_K (kD g) vwCl (kT g) s) (hP : va_P (kD g) vwCl (kW g S) H) (hD : va_D A (kW g S)) (hS : va_S A H0 H locs) (hA : ∀ q : Nat, H0.size ≤ q → A q) (w1 : Cond.classLink own index RJx4a65c ∈ wsL_law) (w2 : Cond.instantiable RJx4a65c 3 ∈ wsL_law) (w3 : Cond.initialized RJx4a65c ∈ wsL_law) (hc : cells + 1 ≤ R.cells) (hs : slots + 3 ≤ R.slots) (hdg : decode cc pc = .ok (.new index, 3)) (kk : ∀ (q : Nat) (H1 : Heap), q ∉ pL S → va_P (kD g) vwCl (kW g (newO S q 7)) H1 → va_D A (kW g (newO S q 7)) → va_S A H0 H1 locs → W p l e R s m args below meth c H1 locs (cells + 1) (slots + 3) Q (F0 m (pc + 3) ls (.ref q :: rest))) : W p l e R s m args below meth c H locs cells slots Q (F0 m pc ls rest) := by
  refine va_new (D := kD g) (ci := 0) (fs := [.int 0, .null, .int 0]) (C := RJx4a65c) (T := TJx4a65c) (N := 3) F.1 F.2.1 F.2.2.2.2 inlJx4a65c tyJx4a65c tyJx4a65c_ok F.2.2.2.1 (F.2.2.2.2 _ w1) (F.2.2.2.2 _ w2) (F.2.2.2.2 _ w3) hK hP hD hS hA rfl (fun j hj => by rcases (show j = 0 ∨ j = 1 ∨ j = 2 by omega) with rfl | rfl | rfl <;> rfl) hc hs hdg (fun q H1 a1 a2 a3 => ?_)
  have hq : q ∉ pL S := va_pl_fresh2 (X := []) a2
  have e : kW g S ++ [(q, .inr (0, [.int 0, .null, .int 0]))] = kW g (newO S q 7) := kW_push hq rfl (by rw [show kF g (newO S q 7) q = .inr (0, [.int (va_up (pF S 70) q 0 q), va_rf (va_up (pG S 71) q none q), .int (va_up (pF S 72) q 0 q)]) from kat_ArrayList (S := newO S q 7) (va_up_self _ _ _)]; simp only [va_up_self]; try rfl) (fun b hb => kF_O hb)
  exact kk q H1 hq (Eq.mp (congrArg (fun w => va_P (kD g) vwCl w H1) e) a1) (Eq.mp (congrArg (fun w => va_D A w) e) a2) a3
theorem rr_ArrayList (hK : va_K (kD g) vwCl (kT g) s) (hP : va_P (kD g) vwCl (kW g S) H) (ob : Ob S 7 a) : ∃ cell : Cell, H[a]? = some cell ∧ cell.vm.isStatics = false ∧ s.vm.findClass RJx4a65c = some cell.cls := by
  obtain ⟨k, -, h2⟩ := kge_ArrayList (g := g) ob
  exact va_recv (D := kD g) hK hP (ci := 0) (q0 := k) (q := (RJx4a65c, TJx4a65c, 3)) rfl h2
theorem kat_RC (h : pK S a = 8) : kF g S a = .inl (g.2.2 0, pN S a, .inl (pX S a)) := by unfold kF; rw [h]; rfl
theorem kge_RC (ob : Ob S 8 a) : ∃ k : Nat, (kW g S)[k]? = some (a, kF g S a) ∧ (kW g S)[k]? = some (a, .inl (g.2.2 0, pN S a, .inl (pX S a))) := by
  obtain ⟨k, hk⟩ := kW_get (g := g) ob.1
  exact ⟨k, hk, hk.trans (congrArg (fun x => some (a, x)) (kat_RC ob.2))⟩
theorem rl_C {v : Int32} (F : CallFix p m c cc nL s args wsL_law own) (hK : va_K (kD g) vwCl (kT g) s) (hP : va_P (kD g) vwCl (kW g S) H) (ob : Ob S 8 a) (hv : Int32.ofNat (pN S a) = v) (hdg : decode cc pc = .ok (.arraylength, 1)) (kk : W p l e R s m args below meth c H locs cells slots Q (F0 m (pc + 1) ls (.int v :: rest))) : W p l e R s m args below meth c H locs cells slots Q (F0 m pc ls (.ref a :: rest)) := by
  obtain ⟨k, -, h2⟩ := kge_RC (g := g) ob
  exact va_alen (D := kD g) F.1 F.2.1 hK hP k 0 h2 rfl hv hdg kk
theorem rd_C {i : Int32} (F : CallFix p m c cc nL s args wsL_law own) (hK : va_K (kD g) vwCl (kT g) s) (hP : va_P (kD g) vwCl (kW g S) H) (ob : Ob S 8 a) (hi : vp_in i (pN S a)) (hdg : decode cc pc = .ok (.caload, 1)) (kk : W p l e R s m args below meth c H locs cells slots Q (F0 m (pc + 1) ls (.int (pX S a i.toNatClampNeg) :: rest))) : W p l e R s m args below meth c H locs cells slots Q (F0 m pc ls (.int i :: .ref a :: rest)) := by
  obtain ⟨k, -, h2⟩ := kge_RC (g := g) ob
  exact va_cald (D := kD g) F.1 F.2.1 hK hP k 0 h2 rfl hi hdg kk
theorem rt_C {i x : Int32} (F : CallFix p m c cc nL s args wsL_law own) (hK : va_K (kD g) vwCl (kT g) s) (hP : va_P (kD g) vwCl (kW g S) H) (hD : va_D A (kW g S)) (hS : va_S A H0 H locs) (ob : Ob S 8 a) (hi : vp_in i (pN S a)) (hdg : decode cc pc = .ok (.castore, 1)) (kk : ∀ (H1 : Heap) (locs1 : List Loc), va_P (kD g) vwCl (kW g (setX S a (upd (pX S a) i.toNatClampNeg (vp_nar .char x)))) H1 → va_D A (kW g (setX S a (upd (pX S a) i.toNatClampNeg (vp_nar .char x)))) → va_S A H0 H1 locs1 → W p l e R s m args below meth c H1 locs1 cells slots Q (F0 m (pc + 1) ls rest)) : W p l e R s m args below meth c H locs cells slots Q (F0 m pc ls (.int x :: .int i :: .ref a :: rest)) := by
  obtain ⟨k, h1, h2⟩ := kge_RC (g := g) ob
  have e : (kW g S).set k (a, .inl (g.2.2 0, pN S a, .inl (upd (pX S a) i.toNatClampNeg (vp_nar .char x)))) = kW g (setX S a (upd (pX S a) i.toNatClampNeg (vp_nar .char x))) := kW_set hD ob.1 h1 rfl (by rw [show kF g (setX S a (upd (pX S a) i.toNatClampNeg (vp_nar .char x))) a = .inl (g.2.2 0, pN S a, .inl (va_up (pX S) a (upd (pX S a) i.toNatClampNeg (vp_nar .char x)) a)) from kat_RC (S := setX S a (upd (pX S a) i.toNatClampNeg (vp_nar .char x))) ob.2, va_up_self]) (fun b hb => kF_X hb)
  exact va_cast (D := kD g) F.1 F.2.1 hK hP hD hS k 0 h2 rfl hi hdg (fun H1 locs1 a1 a2 a3 => kk H1 locs1 (Eq.mp (congrArg (fun w => va_P (kD g) vwCl w H1) e) a1) (Eq.mp (congrArg (fun w => va_D A w) e) a2) a3)
theorem kat_RI (h : pK S a = 9) : kF g S a = .inl (g.2.2 1, pN S a, .inl (pX S a)) := by unfold kF; rw [h]; rfl
theorem kge_RI (ob : Ob S 9 a) : ∃ k : Nat, (kW g S)[k]? = some (a, kF g S a) ∧ (kW g S)[k]? = some (a, .inl (g.2.2 1, pN S a, .inl (pX S a))) := by
  obtain ⟨k, hk⟩ := kW_get (g := g) ob.1
  exact ⟨k, hk, hk.trans (congrArg (fun x => some (a, x)) (kat_RI ob.2))⟩
theorem rl_I {v : Int32} (F : CallFix p m c cc nL s args wsL_law own) (hK : va_K (kD g) vwCl (kT g) s) (hP : va_P (kD g) vwCl (kW g S) H) (ob : Ob S 9 a) (hv : Int32.ofNat (pN S a) = v) (hdg : decode cc pc = .ok (.arraylength, 1)) (kk : W p l e R s m args below meth c H locs cells slots Q (F0 m (pc + 1) ls (.int v :: rest))) : W p l e R s m args below meth c H locs cells slots Q (F0 m pc ls (.ref a :: rest)) := by
  obtain ⟨k, -, h2⟩ := kge_RI (g := g) ob
  exact va_alen (D := kD g) F.1 F.2.1 hK hP k 1 h2 rfl hv hdg kk
theorem rd_I {i : Int32} (F : CallFix p m c cc nL s args wsL_law own) (hK : va_K (kD g) vwCl (kT g) s) (hP : va_P (kD g) vwCl (kW g S) H) (ob : Ob S 9 a) (hi : vp_in i (pN S a)) (hdg : decode cc pc = .ok (.iaload, 1)) (kk : W p l e R s m args below meth c H locs cells slots Q (F0 m (pc + 1) ls (.int (pX S a i.toNatClampNeg) :: rest))) : W p l e R s m args below meth c H locs cells slots Q (F0 m pc ls (.int i :: .ref a :: rest)) := by
  obtain ⟨k, -, h2⟩ := kge_RI (g := g) ob
  exact va_iald (D := kD g) F.1 F.2.1 hK hP k 1 h2 rfl hi hdg kk
theorem rt_I {i x : Int32} (F : CallFix p m c cc nL s args wsL_law own) (hK : va_K (kD g) vwCl (kT g) s) (hP : va_P (kD g) vwCl (kW g S) H) (hD : va_D A (kW g S)) (hS : va_S A H0 H locs) (ob : Ob S 9 a) (hi : vp_in i (pN S a)) (hdg : decode cc pc = .ok (.iastore, 1)) (kk : ∀ (H1 : Heap) (locs1 : List Loc), va_P (kD g) vwCl (kW g (setX S a (upd (pX S a) i.toNatClampNeg x))) H1 → va_D A (kW g (setX S a (upd (pX S a) i.toNatClampNeg x))) → va_S A H0 H1 locs1 → W p l e R s m args below meth c H1 locs1 cells slots Q (F0 m (pc + 1) ls rest)) : W p l e R s m args below meth c H locs cells slots Q (F0 m pc ls (.int x :: .int i :: .ref a :: rest)) := by
  obtain ⟨k, h1, h2⟩ := kge_RI (g := g) ob
  have e : (kW g S).set k (a, .inl (g.2.2 1, pN S a, .inl (upd (pX S a) i.toNatClampNeg x))) = kW g (setX S a (upd (pX S a) i.toNatClampNeg x)) := kW_set hD ob.1 h1 rfl (by rw [show kF g (setX S a (upd (pX S a) i.toNatClampNeg x)) a = .inl (g.2.2 1, pN S a, .inl (va_up (pX S) a (upd (pX S a) i.toNatClampNeg x) a)) from kat_RI (S := setX S a (upd (pX S a) i.toNatClampNeg x)) ob.2, va_up_self]) (fun b hb => kF_X hb)
  exact va_iast (D := kD g) F.1 F.2.1 hK hP hD hS k 1 h2 rfl hi hdg (fun H1 locs1 a1 a2 a3 => kk H1 locs1 (Eq.mp (congrArg (fun w => va_P (kD g) vwCl w H1) e) a1) (Eq.mp (congrArg (fun w => va_D A w) e) a2) a3)
theorem kat_RZ (h : pK S a = 10) : kF g S a = .inl (g.2.2 2, pN S a, .inl (pX S a)) := by unfold kF; rw [h]; rfl
theorem kge_RZ (ob : Ob S 10 a) : ∃ k : Nat, (kW g S)[k]? = some (a, kF g S a) ∧ (kW g S)[k]? = some (a, .inl (g.2.2 2, pN S a, .inl (pX S a))) := by
  obtain ⟨k, hk⟩ := kW_get (g := g) ob.1
  exact ⟨k, hk, hk.trans (congrArg (fun x => some (a, x)) (kat_RZ ob.2))⟩
theorem rl_Z {v : Int32} (F : CallFix p m c cc nL s args wsL_law own) (hK : va_K (kD g) vwCl (kT g) s) (hP : va_P (kD g) vwCl (kW g S) H) (ob : Ob S 10 a) (hv : Int32.ofNat (pN S a) = v) (hdg : decode cc pc = .ok (.arraylength, 1)) (kk : W p l e R s m args below meth c H locs cells slots Q (F0 m (pc + 1) ls (.int v :: rest))) : W p l e R s m args below meth c H locs cells slots Q (F0 m pc ls (.ref a :: rest)) := by
  obtain ⟨k, -, h2⟩ := kge_RZ (g := g) ob
  exact va_alen (D := kD g) F.1 F.2.1 hK hP k 2 h2 rfl hv hdg kk
theorem rd_Z {i : Int32} (F : CallFix p m c cc nL s args wsL_law own) (hK : va_K (kD g) vwCl (kT g) s) (hP : va_P (kD g) vwCl (kW g S) H) (ob : Ob S 10 a) (hi : vp_in i (pN S a)) (hdg : decode cc pc = .ok (.baload, 1)) (kk : W p l e R s m args below meth c H locs cells slots Q (F0 m (pc + 1) ls (.int (pX S a i.toNatClampNeg) :: rest))) : W p l e R s m args below meth c H locs cells slots Q (F0 m pc ls (.int i :: .ref a :: rest)) := by
  obtain ⟨k, -, h2⟩ := kge_RZ (g := g) ob
  exact va_zald (D := kD g) F.1 F.2.1 hK hP k 2 h2 rfl hi hdg kk
theorem rt_Z {i x : Int32} (F : CallFix p m c cc nL s args wsL_law own) (hK : va_K (kD g) vwCl (kT g) s) (hP : va_P (kD g) vwCl (kW g S) H) (hD : va_D A (kW g S)) (hS : va_S A H0 H locs) (ob : Ob S 10 a) (hi : vp_in i (pN S a)) (hdg : decode cc pc = .ok (.bastore, 1)) (kk : ∀ (H1 : Heap) (locs1 : List Loc), va_P (kD g) vwCl (kW g (setX S a (upd (pX S a) i.toNatClampNeg (vp_nar .boolean x)))) H1 → va_D A (kW g (setX S a (upd (pX S a) i.toNatClampNeg (vp_nar .boolean x)))) → va_S A H0 H1 locs1 → W p l e R s m args below meth c H1 locs1 cells slots Q (F0 m (pc + 1) ls rest)) : W p l e R s m args below meth c H locs cells slots Q (F0 m pc ls (.int x :: .int i :: .ref a :: rest)) := by
  obtain ⟨k, h1, h2⟩ := kge_RZ (g := g) ob
  have e : (kW g S).set k (a, .inl (g.2.2 2, pN S a, .inl (upd (pX S a) i.toNatClampNeg (vp_nar .boolean x)))) = kW g (setX S a (upd (pX S a) i.toNatClampNeg (vp_nar .boolean x))) := kW_set hD ob.1 h1 rfl (by rw [show kF g (setX S a (upd (pX S a) i.toNatClampNeg (vp_nar .boolean x))) a = .inl (g.2.2 2, pN S a, .inl (va_up (pX S) a (upd (pX S a) i.toNatClampNeg (vp_nar .boolean x)) a)) from kat_RZ (S := setX S a (upd (pX S a) i.toNatClampNeg (vp_nar .boolean x))) ob.2, va_up_self]) (fun b hb => kF_X hb)
  exact va_zast (D := kD g) F.1 F.2.1 hK hP hD hS k 2 h2 rfl hi hdg (fun H1 locs1 a1 a2 a3 => kk H1 locs1 (Eq.mp (congrArg (fun w => va_P (kD g) vwCl w H1) e) a1) (Eq.mp (congrArg (fun w => va_D A w) e) a2) a3)
theorem kat_RAisle (h : pK S a = 11) : kF g S a = .inl (g.2.2 3, pN S a, .inr (.inr (.inr (.inr (pY S a))))) := by unfold kF; rw [h]; rfl
theorem kge_RAisle (ob : Ob S 11 a) : ∃ k : Nat, (kW g S)[k]? = some (a, kF g S a) ∧ (kW g S)[k]? = some (a, .inl (g.2.2 3, pN S a, .inr (.inr (.inr (.inr (pY S a)))))) := by
  obtain ⟨k, hk⟩ := kW_get (g := g) ob.1
  exact ⟨k, hk, hk.trans (congrArg (fun x => some (a, x)) (kat_RAisle ob.2))⟩
theorem rl_Aisle {v : Int32} (F : CallFix p m c cc nL s args wsL_law own) (hK : va_K (kD g) vwCl (kT g) s) (hP : va_P (kD g) vwCl (kW g S) H) (ob : Ob S 11 a) (hv : Int32.ofNat (pN S a) = v) (hdg : decode cc pc = .ok (.arraylength, 1)) (kk : W p l e R s m args below meth c H locs cells slots Q (F0 m (pc + 1) ls (.int v :: rest))) : W p l e R s m args below meth c H locs cells slots Q (F0 m pc ls (.ref a :: rest)) := by
  obtain ⟨k, -, h2⟩ := kge_RAisle (g := g) ob
  exact va_alen (D := kD g) F.1 F.2.1 hK hP k 3 h2 rfl hv hdg kk
theorem rd_Aisle {i : Int32} (F : CallFix p m c cc nL s args wsL_law own) (hK : va_K (kD g) vwCl (kT g) s) (hP : va_P (kD g) vwCl (kW g S) H) (ob : Ob S 11 a) (hi : vp_in i (pN S a)) (hdg : decode cc pc = .ok (.aaload, 1)) (kk : W p l e R s m args below meth c H locs cells slots Q (F0 m (pc + 1) ls (va_rf (pY S a i.toNatClampNeg) :: rest))) : W p l e R s m args below meth c H locs cells slots Q (F0 m pc ls (.int i :: .ref a :: rest)) := by
  obtain ⟨k, -, h2⟩ := kge_RAisle (g := g) ob
  exact va_aldq (D := kD g) F.1 F.2.1 hK hP k 3 h2 rfl hi hdg kk
theorem rds_Aisle {i : Int32} {b : Nat} (F : CallFix p m c cc nL s args wsL_law own) (hK : va_K (kD g) vwCl (kT g) s) (hP : va_P (kD g) vwCl (kW g S) H) (ob : Ob S 11 a) (hi : vp_in i (pN S a)) (hv : pY S a i.toNatClampNeg = some b) (hdg : decode cc pc = .ok (.aaload, 1)) (kk : W p l e R s m args below meth c H locs cells slots Q (F0 m (pc + 1) ls (.ref b :: rest))) : W p l e R s m args below meth c H locs cells slots Q (F0 m pc ls (.int i :: .ref a :: rest)) := by
  refine rd_Aisle F hK hP ob hi hdg ?_
  rw [hv]
  exact kk
theorem kat_RRobot (h : pK S a = 12) : kF g S a = .inl (g.2.2 4, pN S a, .inr (.inr (.inr (.inr (pY S a))))) := by unfold kF; rw [h]; rfl
theorem kge_RRobot (ob : Ob S 12 a) : ∃ k : Nat, (kW g S)[k]? = some (a, kF g S a) ∧ (kW g S)[k]? = some (a, .inl (g.2.2 4, pN S a, .inr (.inr (.inr (.inr (pY S a)))))) := by
  obtain ⟨k, hk⟩ := kW_get (g := g) ob.1
  exact ⟨k, hk, hk.trans (congrArg (fun x => some (a, x)) (kat_RRobot ob.2))⟩
theorem rl_Robot {v : Int32} (F : CallFix p m c cc nL s args wsL_law own) (hK : va_K (kD g) vwCl (kT g) s) (hP : va_P (kD g) vwCl (kW g S) H) (ob : Ob S 12 a) (hv : Int32.ofNat (pN S a) = v) (hdg : decode cc pc = .ok (.arraylength, 1)) (kk : W p l e R s m args below meth c H locs cells slots Q (F0 m (pc + 1) ls (.int v :: rest))) : W p l e R s m args below meth c H locs cells slots Q (F0 m pc ls (.ref a :: rest)) := by
  obtain ⟨k, -, h2⟩ := kge_RRobot (g := g) ob
  exact va_alen (D := kD g) F.1 F.2.1 hK hP k 4 h2 rfl hv hdg kk
theorem rd_Robot {i : Int32} (F : CallFix p m c cc nL s args wsL_law own) (hK : va_K (kD g) vwCl (kT g) s) (hP : va_P (kD g) vwCl (kW g S) H) (ob : Ob S 12 a) (hi : vp_in i (pN S a)) (hdg : decode cc pc = .ok (.aaload, 1)) (kk : W p l e R s m args below meth c H locs cells slots Q (F0 m (pc + 1) ls (va_rf (pY S a i.toNatClampNeg) :: rest))) : W p l e R s m args below meth c H locs cells slots Q (F0 m pc ls (.int i :: .ref a :: rest)) := by
  obtain ⟨k, -, h2⟩ := kge_RRobot (g := g) ob
  exact va_aldq (D := kD g) F.1 F.2.1 hK hP k 4 h2 rfl hi hdg kk
theorem rds_Robot {i : Int32} {b : Nat} (F : CallFix p m c cc nL s args wsL_law own) (hK : va_K (kD g) vwCl (kT g) s) (hP : va_P (kD g) vwCl (kW g S) H) (ob : Ob S 12 a) (hi : vp_in i (pN S a)) (hv : pY S a i.toNatClampNeg = some b) (hdg : decode cc pc = .ok (.aaload, 1)) (kk : W p l e R s m args below meth c H locs cells slots Q (F0 m (pc + 1) ls (.ref b :: rest))) : W p l e R s m args below meth c H locs cells slots Q (F0 m pc ls (.int i :: .ref a :: rest)) := by
  refine rd_Robot F hK hP ob hi hdg ?_
  rw [hv]
  exact kk
theorem kat_RObject (h : pK S a = 13) : kF g S a = .inl (g.2.2 5, pN S a, .inr (.inr (.inr (.inr (pY S a))))) := by unfold kF; rw [h]; rfl
theorem kge_RObject (ob : Ob S 13 a) : ∃ k : Nat, (kW g S)[k]? = some (a, kF g S a) ∧ (kW g S)[k]? = some (a, .inl (g.2.2 5, pN S a, .inr (.inr (.inr (.inr (pY S a)))))) := by
  obtain ⟨k, hk⟩ := kW_get (g := g) ob.1
  exact ⟨k, hk, hk.trans (congrArg (fun x => some (a, x)) (kat_RObject ob.2))⟩
theorem rl_Object {v : Int32} (F : CallFix p m c cc nL s args wsL_law own) (hK : va_K (kD g) vwCl (kT g) s) (hP : va_P (kD g) vwCl (kW g S) H) (ob : Ob S 13 a) (hv : Int32.ofNat (pN S a) = v) (hdg : decode cc pc = .ok (.arraylength, 1)) (kk : W p l e R s m args below meth c H locs cells slots Q (F0 m (pc + 1) ls (.int v :: rest))) : W p l e R s m args below meth c H locs cells slots Q (F0 m pc ls (.ref a :: rest)) := by
  obtain ⟨k, -, h2⟩ := kge_RObject (g := g) ob
  exact va_alen (D := kD g) F.1 F.2.1 hK hP k 5 h2 rfl hv hdg kk
theorem rd_Object {i : Int32} (F : CallFix p m c cc nL s args wsL_law own) (hK : va_K (kD g) vwCl (kT g) s) (hP : va_P (kD g) vwCl (kW g S) H) (ob : Ob S 13 a) (hi : vp_in i (pN S a)) (hdg : decode cc pc = .ok (.aaload, 1)) (kk : W p l e R s m args below meth c H locs cells slots Q (F0 m (pc + 1) ls (va_rf (pY S a i.toNatClampNeg) :: rest))) : W p l e R s m args below meth c H locs cells slots Q (F0 m pc ls (.int i :: .ref a :: rest)) := by
  obtain ⟨k, -, h2⟩ := kge_RObject (g := g) ob
  exact va_aldq (D := kD g) F.1 F.2.1 hK hP k 5 h2 rfl hi hdg kk
theorem rds_Object {i : Int32} {b : Nat} (F : CallFix p m c cc nL s args wsL_law own) (hK : va_K (kD g) vwCl (kT g) s) (hP : va_P (kD g) vwCl (kW g S) H) (ob : Ob S 13 a) (hi : vp_in i (pN S a)) (hv : pY S a i.toNatClampNeg = some b) (hdg : decode cc pc = .ok (.aaload, 1)) (kk : W p l e R s m args below meth c H locs cells slots Q (F0 m (pc + 1) ls (.ref b :: rest))) : W p l e R s m args below meth c H locs cells slots Q (F0 m pc ls (.int i :: .ref a :: rest)) := by
  refine rd_Object F hK hP ob hi hdg ?_
  rw [hv]
  exact kk
theorem rt_Aisle_Aisle {i : Int32} {v : Nat} (F : CallFix p m c cc nL s args wsL_law own) (hK : va_K (kD g) vwCl (kT g) s) (hP : va_P (kD g) vwCl (kW g S) H) (hD : va_D A (kW g S)) (hS : va_S A H0 H locs) (ob : Ob S 11 a) (ov : Ob S 0 v) (hi : vp_in i (pN S a)) (hdg : decode cc pc = .ok (.aastore, 1)) (kk : ∀ (H1 : Heap) (locs1 : List Loc), va_P (kD g) vwCl (kW g (setY S a (va_up (pY S a) i.toNatClampNeg (some v)))) H1 → va_D A (kW g (setY S a (va_up (pY S a) i.toNatClampNeg (some v)))) → va_S A H0 H1 locs1 → W p l e R s m args below meth c H1 locs1 cells slots Q (F0 m (pc + 1) ls rest)) : W p l e R s m args below meth c H locs cells slots Q (F0 m pc ls (.ref v :: .int i :: .ref a :: rest)) := by
  obtain ⟨k, h1, h2⟩ := kge_RAisle (g := g) ob
  obtain ⟨k2, -, h4⟩ := kge_Aisle (g := g) ov
  have e : (kW g S).set k (a, .inl (g.2.2 3, pN S a, .inr (.inr (.inr (.inr (va_up (pY S a) i.toNatClampNeg (some v))))))) = kW g (setY S a (va_up (pY S a) i.toNatClampNeg (some v))) := kW_set hD ob.1 h1 rfl (by rw [show kF g (setY S a (va_up (pY S a) i.toNatClampNeg (some v))) a = .inl (g.2.2 3, pN S a, .inr (.inr (.inr (.inr (va_up (pY S) a (va_up (pY S a) i.toNatClampNeg (some v)) a))))) from kat_RAisle (S := setY S a (va_up (pY S a) i.toNatClampNeg (some v))) ob.2, va_up_self]) (fun b hb => kF_Y hb)
  exact va_astq (D := kD g) F.1 F.2.1 hK hP hD hS k 3 k2 1 (r := (RX0, TX0, 3)) h2 rfl h4 rfl hi hdg (fun H1 locs1 a1 a2 a3 => kk H1 locs1 (Eq.mp (congrArg (fun w => va_P (kD g) vwCl w H1) e) a1) (Eq.mp (congrArg (fun w => va_D A w) e) a2) a3)
theorem rt_Robot_Robot {i : Int32} {v : Nat} (F : CallFix p m c cc nL s args wsL_law own) (hK : va_K (kD g) vwCl (kT g) s) (hP : va_P (kD g) vwCl (kW g S) H) (hD : va_D A (kW g S)) (hS : va_S A H0 H locs) (ob : Ob S 12 a) (ov : Ob S 3 v) (hi : vp_in i (pN S a)) (hdg : decode cc pc = .ok (.aastore, 1)) (kk : ∀ (H1 : Heap) (locs1 : List Loc), va_P (kD g) vwCl (kW g (setY S a (va_up (pY S a) i.toNatClampNeg (some v)))) H1 → va_D A (kW g (setY S a (va_up (pY S a) i.toNatClampNeg (some v)))) → va_S A H0 H1 locs1 → W p l e R s m args below meth c H1 locs1 cells slots Q (F0 m (pc + 1) ls rest)) : W p l e R s m args below meth c H locs cells slots Q (F0 m pc ls (.ref v :: .int i :: .ref a :: rest)) := by
  obtain ⟨k, h1, h2⟩ := kge_RRobot (g := g) ob
  obtain ⟨k2, -, h4⟩ := kge_Robot (g := g) ov
  have e : (kW g S).set k (a, .inl (g.2.2 4, pN S a, .inr (.inr (.inr (.inr (va_up (pY S a) i.toNatClampNeg (some v))))))) = kW g (setY S a (va_up (pY S a) i.toNatClampNeg (some v))) := kW_set hD ob.1 h1 rfl (by rw [show kF g (setY S a (va_up (pY S a) i.toNatClampNeg (some v))) a = .inl (g.2.2 4, pN S a, .inr (.inr (.inr (.inr (va_up (pY S) a (va_up (pY S a) i.toNatClampNeg (some v)) a))))) from kat_RRobot (S := setY S a (va_up (pY S a) i.toNatClampNeg (some v))) ob.2, va_up_self]) (fun b hb => kF_Y hb)
  exact va_astq (D := kD g) F.1 F.2.1 hK hP hD hS k 4 k2 4 (r := (RX3, TX3, 3)) h2 rfl h4 rfl hi hdg (fun H1 locs1 a1 a2 a3 => kk H1 locs1 (Eq.mp (congrArg (fun w => va_P (kD g) vwCl w H1) e) a1) (Eq.mp (congrArg (fun w => va_D A w) e) a2) a3)
theorem rt_Object_Article {i : Int32} {v : Nat} (F : CallFix p m c cc nL s args wsL_law own) (hK : va_K (kD g) vwCl (kT g) s) (hP : va_P (kD g) vwCl (kW g S) H) (hD : va_D A (kW g S)) (hS : va_S A H0 H locs) (ob : Ob S 13 a) (ov : Ob S 1 v) (hca : va_Nw (.castable RX1 "java/lang/Object") s) (hi : vp_in i (pN S a)) (hdg : decode cc pc = .ok (.aastore, 1)) (kk : ∀ (H1 : Heap) (locs1 : List Loc), va_P (kD g) vwCl (kW g (setY S a (va_up (pY S a) i.toNatClampNeg (some v)))) H1 → va_D A (kW g (setY S a (va_up (pY S a) i.toNatClampNeg (some v)))) → va_S A H0 H1 locs1 → W p l e R s m args below meth c H1 locs1 cells slots Q (F0 m (pc + 1) ls rest)) : W p l e R s m args below meth c H locs cells slots Q (F0 m pc ls (.ref v :: .int i :: .ref a :: rest)) := by
  obtain ⟨k, h1, h2⟩ := kge_RObject (g := g) ob
  obtain ⟨k2, -, h4⟩ := kge_Article (g := g) ov
  have e : (kW g S).set k (a, .inl (g.2.2 5, pN S a, .inr (.inr (.inr (.inr (va_up (pY S a) i.toNatClampNeg (some v))))))) = kW g (setY S a (va_up (pY S a) i.toNatClampNeg (some v))) := kW_set hD ob.1 h1 rfl (by rw [show kF g (setY S a (va_up (pY S a) i.toNatClampNeg (some v))) a = .inl (g.2.2 5, pN S a, .inr (.inr (.inr (.inr (va_up (pY S) a (va_up (pY S a) i.toNatClampNeg (some v)) a))))) from kat_RObject (S := setY S a (va_up (pY S a) i.toNatClampNeg (some v))) ob.2, va_up_self]) (fun b hb => kF_Y hb)
  exact va_astqO (D := kD g) F.1 F.2.1 hK hP hD hS k 5 k2 2 (r := (RX1, TX1, 5)) h2 rfl hca h4 rfl hi hdg (fun H1 locs1 a1 a2 a3 => kk H1 locs1 (Eq.mp (congrArg (fun w => va_P (kD g) vwCl w H1) e) a1) (Eq.mp (congrArg (fun w => va_D A w) e) a2) a3)
theorem rt_Object_Line {i : Int32} {v : Nat} (F : CallFix p m c cc nL s args wsL_law own) (hK : va_K (kD g) vwCl (kT g) s) (hP : va_P (kD g) vwCl (kW g S) H) (hD : va_D A (kW g S)) (hS : va_S A H0 H locs) (ob : Ob S 13 a) (ov : Ob S 2 v) (hca : va_Nw (.castable RX2 "java/lang/Object") s) (hi : vp_in i (pN S a)) (hdg : decode cc pc = .ok (.aastore, 1)) (kk : ∀ (H1 : Heap) (locs1 : List Loc), va_P (kD g) vwCl (kW g (setY S a (va_up (pY S a) i.toNatClampNeg (some v)))) H1 → va_D A (kW g (setY S a (va_up (pY S a) i.toNatClampNeg (some v)))) → va_S A H0 H1 locs1 → W p l e R s m args below meth c H1 locs1 cells slots Q (F0 m (pc + 1) ls rest)) : W p l e R s m args below meth c H locs cells slots Q (F0 m pc ls (.ref v :: .int i :: .ref a :: rest)) := by
  obtain ⟨k, h1, h2⟩ := kge_RObject (g := g) ob
  obtain ⟨k2, -, h4⟩ := kge_Line (g := g) ov
  have e : (kW g S).set k (a, .inl (g.2.2 5, pN S a, .inr (.inr (.inr (.inr (va_up (pY S a) i.toNatClampNeg (some v))))))) = kW g (setY S a (va_up (pY S a) i.toNatClampNeg (some v))) := kW_set hD ob.1 h1 rfl (by rw [show kF g (setY S a (va_up (pY S a) i.toNatClampNeg (some v))) a = .inl (g.2.2 5, pN S a, .inr (.inr (.inr (.inr (va_up (pY S) a (va_up (pY S a) i.toNatClampNeg (some v)) a))))) from kat_RObject (S := setY S a (va_up (pY S a) i.toNatClampNeg (some v))) ob.2, va_up_self]) (fun b hb => kF_Y hb)
  exact va_astqO (D := kD g) F.1 F.2.1 hK hP hD hS k 5 k2 3 (r := (RX2, TX2, 6)) h2 rfl hca h4 rfl hi hdg (fun H1 locs1 a1 a2 a3 => kk H1 locs1 (Eq.mp (congrArg (fun w => va_P (kD g) vwCl w H1) e) a1) (Eq.mp (congrArg (fun w => va_D A w) e) a2) a3)
theorem rn_R_C {n : Int32} {N : Nat} (F : CallFix p m c cc nL s args wsL_law own) (hK : va_K (kD g) vwCl (kT g) s) (hP : va_P (kD g) vwCl (kW g S) H) (hD : va_D A (kW g S)) (hS : va_S A H0 H locs) (hA : ∀ q : Nat, H0.size ≤ q → A q) (w1 : Cond.arrayClass .char ∈ wsL_law) (hn : ¬ n < 0) (hN : n.toNatClampNeg = N) (hb : N * componentBytes .char ≤ 536870912) (hc : cells + 1 ≤ R.cells) (hs : slots + N ≤ R.slots) (hdg : decode cc pc = .ok (.newarray .char, 2)) (kk : ∀ (q : Nat) (H1 : Heap), q ∉ pL S → va_P (kD g) vwCl (kW g (newA S q 8 N)) H1 → va_D A (kW g (newA S q 8 N)) → va_S A H0 H1 locs → W p l e R s m args below meth c H1 locs (cells + 1) (slots + N) Q (F0 m (pc + 2) ls (.ref q :: rest))) : W p l e R s m args below meth c H locs cells slots Q (F0 m pc ls (.int n :: rest)) := by
  refine va_newa (D := kD g) (atype := .char) (ty := .char) (N' := N) (a0 := (N, .inl (fun _ => 0))) F.1 F.2.1 (F.2.2.2.2 _ w1) rfl hK hP hD hS hA (fun _ => rfl) hn hN hb hc hs hdg (fun q cA H1 a0 a1 a2 a3 => ?_)
  have hq : q ∉ pL S := va_pl_fresh2 (X := []) a2
  have h1 := (a0.2 8 (cA, .char) rfl).2
  have h2 := (hK.2 0 (g.2.2 0, .char) rfl).2
  cases Option.some.inj ((va_nm_char h1).symm.trans (va_nm_char h2))
  have e : kW g S ++ [(q, .inl (g.2.2 0, N, .inl (fun _ => 0)))] = kW g (newA S q 8 N) := kW_push hq rfl (by rw [show kF g (newA S q 8 N) q = .inl (g.2.2 0, va_up (pN S) q N q, .inl (va_up (pX S) q (fun _ => 0) q)) from kat_RC (S := newA S q 8 N) (va_up_self _ _ _), va_up_self, va_up_self]) (fun b hb => kF_A hb)
  exact kk q H1 hq (Eq.mp (congrArg (fun w => va_P (kD g) vwCl w H1) e) a1) (Eq.mp (congrArg (fun w => va_D A w) e) a2) a3
theorem rn_R_I {n : Int32} {N : Nat} (F : CallFix p m c cc nL s args wsL_law own) (hK : va_K (kD g) vwCl (kT g) s) (hP : va_P (kD g) vwCl (kW g S) H) (hD : va_D A (kW g S)) (hS : va_S A H0 H locs) (hA : ∀ q : Nat, H0.size ≤ q → A q) (w1 : Cond.arrayClass .int ∈ wsL_law) (hn : ¬ n < 0) (hN : n.toNatClampNeg = N) (hb : N * componentBytes .int ≤ 536870912) (hc : cells + 1 ≤ R.cells) (hs : slots + N ≤ R.slots) (hdg : decode cc pc = .ok (.newarray .int, 2)) (kk : ∀ (q : Nat) (H1 : Heap), q ∉ pL S → va_P (kD g) vwCl (kW g (newA S q 9 N)) H1 → va_D A (kW g (newA S q 9 N)) → va_S A H0 H1 locs → W p l e R s m args below meth c H1 locs (cells + 1) (slots + N) Q (F0 m (pc + 2) ls (.ref q :: rest))) : W p l e R s m args below meth c H locs cells slots Q (F0 m pc ls (.int n :: rest)) := by
  refine va_newa (D := kD g) (atype := .int) (ty := .int) (N' := N) (a0 := (N, .inl (fun _ => 0))) F.1 F.2.1 (F.2.2.2.2 _ w1) rfl hK hP hD hS hA (fun _ => rfl) hn hN hb hc hs hdg (fun q cA H1 a0 a1 a2 a3 => ?_)
  have hq : q ∉ pL S := va_pl_fresh2 (X := []) a2
  have h1 := (a0.2 8 (cA, .int) rfl).2
  have h2 := (hK.2 1 (g.2.2 1, .int) rfl).2
  cases Option.some.inj ((va_nm_int h1).symm.trans (va_nm_int h2))
  have e : kW g S ++ [(q, .inl (g.2.2 1, N, .inl (fun _ => 0)))] = kW g (newA S q 9 N) := kW_push hq rfl (by rw [show kF g (newA S q 9 N) q = .inl (g.2.2 1, va_up (pN S) q N q, .inl (va_up (pX S) q (fun _ => 0) q)) from kat_RI (S := newA S q 9 N) (va_up_self _ _ _), va_up_self, va_up_self]) (fun b hb => kF_A hb)
  exact kk q H1 hq (Eq.mp (congrArg (fun w => va_P (kD g) vwCl w H1) e) a1) (Eq.mp (congrArg (fun w => va_D A w) e) a2) a3
theorem rn_R_Aisle {n : Int32} {N : Nat} (F : CallFix p m c cc nL s args wsL_law own) (hK : va_K (kD g) vwCl (kT g) s) (hP : va_P (kD g) vwCl (kW g S) H) (hD : va_D A (kW g S)) (hS : va_S A H0 H locs) (hA : ∀ q : Nat, H0.size ≤ q → A q) (w1 : Cond.classLink own index RX0 ∈ wsL_law) (hao : va_AO RX0 s) (hn : ¬ n < 0) (hN : n.toNatClampNeg = N) (hb : N * 4 ≤ 536870912) (hc : cells + 1 ≤ R.cells) (hs : slots + N ≤ R.slots) (hdg : decode cc pc = .ok (.anewarray index, 3)) (kk : ∀ (q : Nat) (H1 : Heap), q ∉ pL S → va_P (kD g) vwCl (kW g (newA S q 11 N)) H1 → va_D A (kW g (newA S q 11 N)) → va_S A H0 H1 locs → W p l e R s m args below meth c H1 locs (cells + 1) (slots + N) Q (F0 m (pc + 3) ls (.ref q :: rest))) : W p l e R s m args below meth c H locs cells slots Q (F0 m pc ls (.int n :: rest)) := by
  refine va_newq (D := kD g) F.1 F.2.1 F.2.2.2.1 (F.2.2.2.2 _ w1) hao hK hP hD hS hA hn hN hb hc hs hdg (fun q cA H1 a0 a1 a2 a3 => ?_)
  have hq : q ∉ pL S := va_pl_fresh2 (X := []) a2
  have h1 := (a0.2 8 (cA, .object RX0) rfl).2
  have h2 := (hK.2 3 (g.2.2 3, .object RX0) rfl).2
  cases Option.some.inj ((va_nmO h1 rfl).symm.trans (va_nmO h2 rfl))
  have e : kW g S ++ [(q, .inl (g.2.2 3, N, .inr (.inr (.inr (.inr (fun _ => none))))))] = kW g (newA S q 11 N) := kW_push hq rfl (by rw [show kF g (newA S q 11 N) q = .inl (g.2.2 3, va_up (pN S) q N q, .inr (.inr (.inr (.inr (va_up (pY S) q (fun _ => none) q))))) from kat_RAisle (S := newA S q 11 N) (va_up_self _ _ _), va_up_self, va_up_self]) (fun b hb => kF_A hb)
  exact kk q H1 hq (Eq.mp (congrArg (fun w => va_P (kD g) vwCl w H1) e) a1) (Eq.mp (congrArg (fun w => va_D A w) e) a2) a3
theorem rn_R_Robot {n : Int32} {N : Nat} (F : CallFix p m c cc nL s args wsL_law own) (hK : va_K (kD g) vwCl (kT g) s) (hP : va_P (kD g) vwCl (kW g S) H) (hD : va_D A (kW g S)) (hS : va_S A H0 H locs) (hA : ∀ q : Nat, H0.size ≤ q → A q) (w1 : Cond.classLink own index RX3 ∈ wsL_law) (hao : va_AO RX3 s) (hn : ¬ n < 0) (hN : n.toNatClampNeg = N) (hb : N * 4 ≤ 536870912) (hc : cells + 1 ≤ R.cells) (hs : slots + N ≤ R.slots) (hdg : decode cc pc = .ok (.anewarray index, 3)) (kk : ∀ (q : Nat) (H1 : Heap), q ∉ pL S → va_P (kD g) vwCl (kW g (newA S q 12 N)) H1 → va_D A (kW g (newA S q 12 N)) → va_S A H0 H1 locs → W p l e R s m args below meth c H1 locs (cells + 1) (slots + N) Q (F0 m (pc + 3) ls (.ref q :: rest))) : W p l e R s m args below meth c H locs cells slots Q (F0 m pc ls (.int n :: rest)) := by
  refine va_newq (D := kD g) F.1 F.2.1 F.2.2.2.1 (F.2.2.2.2 _ w1) hao hK hP hD hS hA hn hN hb hc hs hdg (fun q cA H1 a0 a1 a2 a3 => ?_)
  have hq : q ∉ pL S := va_pl_fresh2 (X := []) a2
  have h1 := (a0.2 8 (cA, .object RX3) rfl).2
  have h2 := (hK.2 4 (g.2.2 4, .object RX3) rfl).2
  cases Option.some.inj ((va_nmO h1 rfl).symm.trans (va_nmO h2 rfl))
  have e : kW g S ++ [(q, .inl (g.2.2 4, N, .inr (.inr (.inr (.inr (fun _ => none))))))] = kW g (newA S q 12 N) := kW_push hq rfl (by rw [show kF g (newA S q 12 N) q = .inl (g.2.2 4, va_up (pN S) q N q, .inr (.inr (.inr (.inr (va_up (pY S) q (fun _ => none) q))))) from kat_RRobot (S := newA S q 12 N) (va_up_self _ _ _), va_up_self, va_up_self]) (fun b hb => kF_A hb)
  exact kk q H1 hq (Eq.mp (congrArg (fun w => va_P (kD g) vwCl w H1) e) a1) (Eq.mp (congrArg (fun w => va_D A w) e) a2) a3
theorem rn_R_Object {n : Int32} {N : Nat} (F : CallFix p m c cc nL s args wsL_law own) (hK : va_K (kD g) vwCl (kT g) s) (hP : va_P (kD g) vwCl (kW g S) H) (hD : va_D A (kW g S)) (hS : va_S A H0 H locs) (hA : ∀ q : Nat, H0.size ≤ q → A q) (w1 : Cond.classLink own index "java/lang/Object" ∈ wsL_law) (hao : va_AO "java/lang/Object" s) (hn : ¬ n < 0) (hN : n.toNatClampNeg = N) (hb : N * 4 ≤ 536870912) (hc : cells + 1 ≤ R.cells) (hs : slots + N ≤ R.slots) (hdg : decode cc pc = .ok (.anewarray index, 3)) (kk : ∀ (q : Nat) (H1 : Heap), q ∉ pL S → va_P (kD g) vwCl (kW g (newA S q 13 N)) H1 → va_D A (kW g (newA S q 13 N)) → va_S A H0 H1 locs → W p l e R s m args below meth c H1 locs (cells + 1) (slots + N) Q (F0 m (pc + 3) ls (.ref q :: rest))) : W p l e R s m args below meth c H locs cells slots Q (F0 m pc ls (.int n :: rest)) := by
  refine va_newq (D := kD g) F.1 F.2.1 F.2.2.2.1 (F.2.2.2.2 _ w1) hao hK hP hD hS hA hn hN hb hc hs hdg (fun q cA H1 a0 a1 a2 a3 => ?_)
  have hq : q ∉ pL S := va_pl_fresh2 (X := []) a2
  have h1 := (a0.2 8 (cA, .object "java/lang/Object") rfl).2
  have h2 := (hK.2 5 (g.2.2 5, .object "java/lang/Object") rfl).2
  cases Option.some.inj ((va_nmO h1 rfl).symm.trans (va_nmO h2 rfl))
  have e : kW g S ++ [(q, .inl (g.2.2 5, N, .inr (.inr (.inr (.inr (fun _ => none))))))] = kW g (newA S q 13 N) := kW_push hq rfl (by rw [show kF g (newA S q 13 N) q = .inl (g.2.2 5, va_up (pN S) q N q, .inr (.inr (.inr (.inr (va_up (pY S) q (fun _ => none) q))))) from kat_RObject (S := newA S q 13 N) (va_up_self _ _ _), va_up_self, va_up_self]) (fun b hb => kF_A hb)
  exact kk q H1 hq (Eq.mp (congrArg (fun w => va_P (kD g) vwCl w H1) e) a1) (Eq.mp (congrArg (fun w => va_D A w) e) a2) a3
theorem rra_Object (hK : va_K (kD g) vwCl (kT g) s) (hP : va_P (kD g) vwCl (kW g S) H) (ob : Ob S 13 a) : ∃ cell : Cell, H[a]? = some cell ∧ cell.vm.isStatics = false ∧ s.vm.findClass "[Ljava/lang/Object;" = some cell.cls := by
  obtain ⟨k, -, h2⟩ := kge_RObject (g := g) ob
  have h := hP k _ h2
  have h3 : H[a]? = some (vp_cell (g.2.2 5) (pN S a, .inr (.inr (.inr (.inr (pY S a)))))) := h
  exact ⟨_, h3, rfl, va_nmO (hK.2 5 (g.2.2 5, .object "java/lang/Object") rfl).2 rfl⟩
theorem rcopy {d : Nat} (F : CallFix p m c cc nL s args wsL_law own) (hK : va_K (kD g) vwCl (kT g) s) (hP : va_P (kD g) vwCl (kW g S) H) (hD : va_D A (kW g S)) (hS : va_S A H0 H locs) (od : Ob S 13 d) (oa : Ob S 13 a) (hn : 10 ≤ pN S d ∧ 10 ≤ pN S a) (hel : (∀ i y, i < 10 → pY S d i = some y → Ob S 2 y) ∧ va_Nw (.castable RX2 "java/lang/Object") s)
    (w1 : Cond.methodLink own index arraycopyName ∈ wsL_law) (w2 : Cond.native arraycopyName ∈ wsL_law) (w3 : Cond.static arraycopyName ∈ wsL_law) (w4 : Cond.initialized "java/lang/System" ∈ wsL_law) (hml : c.maxLocals = ls.size) (hfr : 1 ≤ R.frames) (hlo : (rest.map fun v => v.category).sum + 24 ≤ R.locals) (hdg : decode cc pc = .ok (.invokestatic index, 3))
    (kk : ∀ (H1 : Heap) (locs1 : List Loc), va_P (kD g) vwCl (kW g (setY S a (va_cpy (pY S d) (pY S a) 0 0 10))) H1 → va_D A (kW g (setY S a (va_cpy (pY S d) (pY S a) 0 0 10))) → va_S A H0 H1 locs1 → W p l e R s m args below meth c H1 locs1 cells slots Q (F0 m (pc + 3) ls rest)) : W p l e R s m args below meth c H locs cells slots Q (F0 m pc ls (.int 10 :: .int 0 :: .ref a :: .int 0 :: .ref d :: rest)) := by
  obtain ⟨k0, -, h0⟩ := kge_RObject (g := g) od
  obtain ⟨k1, g1, h1⟩ := kge_RObject (g := g) oa
  have e : (kW g S).set k1 (a, .inl (g.2.2 5, pN S a, .inr (.inr (.inr (.inr (va_cpy (pY S d) (pY S a) 0 0 10)))))) = kW g (setY S a (va_cpy (pY S d) (pY S a) 0 0 10)) := kW_set hD oa.1 g1 rfl (by rw [show kF g (setY S a (va_cpy (pY S d) (pY S a) 0 0 10)) a = .inl (g.2.2 5, pN S a, .inr (.inr (.inr (.inr (va_up (pY S) a (va_cpy (pY S d) (pY S a) 0 0 10) a))))) from kat_RObject (S := setY S a (va_cpy (pY S d) (pY S a) 0 0 10)) oa.2, va_up_self]) (fun b hb => kF_Y hb)
  have hnf : nativeFrameWords "java/lang/System" "arraycopy" 5 + 11 ≤ 24 := by decide
  refine va_copyq (D := kD g) (C := RX2) (E0 := "java/lang/Object") (E1 := "java/lang/Object") F.1 F.2.1 hml F.2.2.2.1 (F.2.2.2.2 _ w1) (F.2.2.2.2 _ w2) (F.2.2.2.2 _ w3) (F.2.2.2.2 _ w4) hK hP hD hS k0 k1 5 5 h0 h1 rfl rfl (by decide) (by decide) (by decide) hn.1 hn.2 (fun i hi y hy => ?_) (fun comp c0 f1 f2 => ?_) hfr (Nat.le_trans (Nat.add_le_add_left hnf _) hlo) hdg (fun H1 locs1 a1 a2 a3 => kk H1 locs1 (Eq.mp (congrArg (fun w => va_P (kD g) vwCl w H1) e) a1) (Eq.mp (congrArg (fun w => va_D A w) e) a2) a3)
  · rw [show (0 : Int32).toNatClampNeg = 0 from rfl, Nat.zero_add] at hy
    exact rr_Line hK hP (hel.1 i y hi hy)
  · obtain ⟨c3, c4, q1, q2, q3⟩ := Cond.castable_spec hel.2
    cases Option.some.inj (q1.symm.trans f2)
    cases Option.some.inj (q2.symm.trans f1)
    exact q3
end KR
end
section
/-! what a planner's pool is: the places z 0 .. z 14 (0 the planner, 1 its row of aisles, 2-5 aisles, 6 cut-offs, 7 row of robots, 8, 9 robots, 10 articles, 11 lines, 12 log, 13 numbers, 14 signs) -/
def kzK : Nat → Nat := fun i => match i with | 0 => 5 | 1 => 11 | 2 => 0 | 3 => 0 | 4 => 0 | 5 => 0 | 6 => 9 | 7 => 12 | 8 => 3 | 9 => 3 | 10 => 7 | 11 => 7 | 12 => 4 | 13 => 9 | _ => 8
def kCh (v : Int32) : Prop := narrow .char (.int v) = .int v ∧ fits .char (.int v) = true
def kBo (v : Int32) : Prop := v = 0 ∨ v = 1
/-- the list q holds n things of kind k -/
def LI (S : wPS) (e0 q k n : Nat) : Prop := pF S 72 q = nI n ∧ ((n = 0 ∧ pG S 71 q = some e0) ∨ ∃ d : Nat, pG S 71 q = some d ∧ Ob S 13 d ∧ (pN S d = 10 ∨ pN S d = 15) ∧ n ≤ pN S d ∧ ∀ i, i < n → ∃ b : Nat, pY S d i = some b ∧ Ob S k b)
def kI1 (z : Nat → Nat) (S : wPS) : Prop := (∀ i, i < 15 → Ob S (kzK i) (z i)) ∧ ∀ i j, i < 15 → j < 15 → z i = z j → i = j
def kI2 (z : Nat → Nat) (S : wPS) : Prop := pG S 50 (z 0) = some (z 1) ∧ pG S 51 (z 0) = some (z 6) ∧ pG S 52 (z 0) = some (z 7) ∧ pG S 53 (z 0) = some (z 10) ∧ pG S 54 (z 0) = some (z 11) ∧ pG S 55 (z 0) = some (z 12) ∧ pG S 40 (z 12) = some (z 13) ∧ pG S 41 (z 12) = some (z 14)
def kI3 (z : Nat → Nat) (S : wPS) : Prop := pN S (z 1) = 4 ∧ (∀ i, i < 4 → pY S (z 1) i = some (z (2 + i))) ∧ pN S (z 6) = 3 ∧ pN S (z 7) = 2 ∧ (∀ i, i < 2 → pY S (z 7) i = some (z (8 + i))) ∧ pN S (z 13) = 516 ∧ pN S (z 14) = 516
def kI4 (z : Nat → Nat) (S : wPS) : Prop := (∃ c, c ≤ 516 ∧ pF S 42 (z 12) = nI c) ∧ (∀ i, kCh (pX S (z 14) i)) ∧ (∀ i, i < 4 → kBo (pF S 1 (z (2 + i)))) ∧ ∀ a, Ob S 2 a → kCh (pF S 24 a)
def kI5 (z : Nat → Nat) (e0 : Nat) (S : wPS) : Prop := (∃ n, n ≤ 6 ∧ LI S e0 (z 10) 1 n) ∧ (∃ n, n ≤ 12 ∧ LI S e0 (z 11) 2 n) ∧ (∀ d, pG S 71 (z 10) = some d → pG S 71 (z 11) = some d → d = e0) ∧ e0 ∉ pL S
def kI6 (z : Nat → Nat) (S : wPS) : Prop := (∀ a, Ob S 1 a → ∃ j, j < 4 ∧ pG S 10 a = some (z (2 + j))) ∧ (∀ a, Ob S 2 a → ∃ b, pG S 21 a = some b ∧ Ob S 1 b) ∧ (∀ a, Ob S 3 a → pG S 30 a = none ∨ ∃ b, pG S 30 a = some b ∧ Ob S 1 b)
def Inv (z : Nat → Nat) (e0 : Nat) (S : wPS) : Prop := kI1 z S ∧ kI2 z S ∧ kI3 z S ∧ kI4 z S ∧ kI5 z e0 S ∧ kI6 z S
/-- only what no tracked call shows has changed -/
def Kq (z : Nat → Nat) (S T : wPS) : Prop := pL T = pL S ∧ pK T = pK S ∧ (∀ k, k ≠ 30 → pG T k = pG S k) ∧ (∀ a, pG T 30 a = pG S 30 a ∨ pG T 30 a = none) ∧ pN T = pN S ∧ pY T = pY S ∧ (∀ i, pX T (z 6) i = pX S (z 6) i) ∧ (∀ i, kCh (pX T (z 14) i)) ∧ pF T 72 = pF S 72 ∧ (∀ a, Ob S 2 a → kCh (pF T 24 a)) ∧ pF T 1 = pF S 1 ∧ pF T 2 = pF S 2 ∧ (∃ c, c ≤ 516 ∧ pF T 42 (z 12) = nI c)
def Kp (z : Nat → Nat) (S T : wPS) : Prop := Kq z S T ∧ pF T 56 = pF S 56 ∧ pF T 57 = pF S 57
theorem Ob.eq {S T : wPS} {k a : Nat} (h1 : pL T = pL S) (h2 : pK T = pK S) (h : Ob S k a) : Ob T k a := by
  obtain ⟨a1, a2⟩ := h
  exact ⟨by rw [h1]; exact a1, by rw [h2]; exact a2⟩
theorem Kq.ob {z : Nat → Nat} {S T : wPS} {k a : Nat} (h : Kq z S T) (o : Ob S k a) : Ob T k a := o.eq h.1 h.2.1
theorem Kq.bo {z : Nat → Nat} {S T : wPS} {k a : Nat} (h : Kq z S T) (o : Ob T k a) : Ob S k a := o.eq h.1.symm h.2.1.symm
theorem LI.keep {z : Nat → Nat} {S T : wPS} {e0 q k n : Nat} (K : Kq z S T) (h : LI S e0 q k n) : LI T e0 q k n := by
  have hob : ∀ {k a : Nat}, Ob S k a → Ob T k a := fun o => K.ob o
  obtain ⟨-, -, h3, -, h5, h6, -, -, h9, -⟩ := K
  obtain ⟨a1, a2⟩ := h
  refine ⟨by rw [h9]; exact a1, ?_⟩
  rcases a2 with ⟨b1, b2⟩ | ⟨d, b1, b2, b3, b4, b5⟩
  · exact Or.inl ⟨b1, by rw [h3 71 (by decide)]; exact b2⟩
  · exact Or.inr ⟨d, by rw [h3 71 (by decide)]; exact b1, hob b2, by rw [h5]; exact b3, by rw [h5]; exact b4, fun i hi => (b5 i hi).elim fun b c => ⟨b, by rw [h6]; exact c.1, hob c.2⟩⟩
theorem Inv.keep {z : Nat → Nat} {e0 : Nat} {S T : wPS} (h : Inv z e0 S) (K : Kq z S T) : Inv z e0 T := by
  obtain ⟨⟨a1, a2⟩, b, c, d, ⟨⟨n1, f1, f2⟩, ⟨n2, f3, f4⟩, f5, f6⟩, ⟨g1, g2, g3⟩⟩ := h
  have hob : ∀ {k a : Nat}, Ob S k a → Ob T k a := fun o => K.ob o
  have hbo : ∀ {k a : Nat}, Ob T k a → Ob S k a := fun o => K.bo o
  obtain ⟨l1, l2, l3, l4⟩ := d
  have L1 := LI.keep K f2
  have L2 := LI.keep K f4
  obtain ⟨h1, h2, h3, h4, h5, h6, h7, h8, h9, h10, h11, h12, h13⟩ := K
  refine ⟨⟨fun i hi => hob (a1 i hi), a2⟩, ?_, ?_, ⟨h13, h8, ?_, fun a ha => h10 a (hbo ha)⟩, ⟨⟨n1, f1, L1⟩, ⟨n2, f3, L2⟩, ?_, by rw [h1]; exact f6⟩, ⟨?_, ?_, ?_⟩⟩
  · unfold kI2
    rw [h3 50 (by decide), h3 51 (by decide), h3 52 (by decide), h3 53 (by decide), h3 54 (by decide), h3 55 (by decide), h3 40 (by decide), h3 41 (by decide)]
    exact b
  · unfold kI3
    rw [h5, h6]
    exact c
  · intro i hi
    rw [h11]
    exact l3 i hi
  · rw [h3 71 (by decide)]
    exact f5
  · intro a ha
    rw [h3 10 (by decide)]
    exact g1 a (hbo ha)
  · intro a ha
    rw [h3 21 (by decide)]
    obtain ⟨b, c1, c2⟩ := g2 a (hbo ha)
    exact ⟨b, c1, hob c2⟩
  · intro a ha
    rcases h4 a with e | e
    · rw [e]
      rcases g3 a (hbo ha) with q | ⟨b, c1, c2⟩
      · exact Or.inl q
      · exact Or.inr ⟨b, c1, hob c2⟩
    · exact Or.inl e
theorem Inv.kq {z : Nat → Nat} {e0 : Nat} {S : wPS} (h : Inv z e0 S) : Kq z S S := ⟨rfl, rfl, fun _ _ => rfl, fun _ => Or.inl rfl, rfl, rfl, fun _ => rfl, h.2.2.2.1.2.1, rfl, h.2.2.2.1.2.2.2, rfl, rfl, h.2.2.2.1.1⟩
theorem Inv.kp {z : Nat → Nat} {e0 : Nat} {S : wPS} (h : Inv z e0 S) : Kp z S S := ⟨h.kq, rfl, rfl⟩
theorem Kq.trans {z : Nat → Nat} {S T U : wPS} (h : Kq z S T) (k : Kq z T U) : Kq z S U := by
  have hob : ∀ {k a : Nat}, Ob S k a → Ob T k a := fun o => h.ob o
  obtain ⟨h1, h2, h3, h4, h5, h6, h7, h8, h9, h10, h11, h12, h13⟩ := h
  obtain ⟨k1, k2, k3, k4, k5, k6, k7, k8, k9, k10, k11, k12, k13⟩ := k
  refine ⟨k1.trans h1, k2.trans h2, fun j hj => (k3 j hj).trans (h3 j hj), fun a => ?_, k5.trans h5, k6.trans h6, fun i => (k7 i).trans (h7 i), k8, k9.trans h9, fun a ha => k10 a (hob ha), k11.trans h11, k12.trans h12, k13⟩
  rcases k4 a with e | e
  · rw [e]; exact h4 a
  · exact Or.inr e
theorem Kp.trans {z : Nat → Nat} {S T U : wPS} (h : Kp z S T) (k : Kp z T U) : Kp z S U := ⟨h.1.trans k.1, k.2.1.trans h.2.1, k.2.2.trans h.2.2⟩
/-- one whole-number field of no tracked kind is written -/
theorem kq_setF {z : Nat → Nat} {S T : wPS} {k a : Nat} {v : Int32} (h : Kq z S T) (h1 : k ≠ 72 ∧ k ≠ 24 ∧ k ≠ 1 ∧ k ≠ 2 ∧ k ≠ 42) : Kq z S (setF T k a v) := by
  obtain ⟨e1, e2, e3, e4, e5⟩ := h1
  have hf : ∀ j, j ≠ k → pF (setF T k a v) j = pF T j := fun j hj => va_up_ne _ _ hj
  obtain ⟨h1, h2, h3, h4, h5, h6, h7, h8, h9, h10, h11, h12, h13⟩ := h
  exact ⟨h1, h2, h3, h4, h5, h6, h7, h8, (hf 72 e1.symm).trans h9, fun b hb => by rw [hf 24 e2.symm]; exact h10 b hb, (hf 1 e3.symm).trans h11, (hf 2 e4.symm).trans h12, by rw [hf 42 e5.symm]; exact h13⟩
theorem kp_setF {z : Nat → Nat} {S T : wPS} {k a : Nat} {v : Int32} (h : Kp z S T) (h1 : k ≠ 72 ∧ k ≠ 24 ∧ k ≠ 1 ∧ k ≠ 2 ∧ k ≠ 42) (h2 : k ≠ 56 ∧ k ≠ 57) : Kp z S (setF T k a v) := ⟨kq_setF h.1 h1, (va_up_ne _ _ h2.1.symm).trans h.2.1, (va_up_ne _ _ h2.2.symm).trans h.2.2⟩
/-- the state of a line is written -/
theorem kp_setSt {z : Nat → Nat} {S T : wPS} {a : Nat} {v : Int32} (h : Kp z S T) (hv : kCh v) : Kp z S (setF T 24 a v) := by
  obtain ⟨⟨h1, h2, h3, h4, h5, h6, h7, h8, h9, h10, h11, h12, h13⟩, g1, g2⟩ := h
  refine ⟨⟨h1, h2, h3, h4, h5, h6, h7, h8, h9, fun b hb => ?_, h11, h12, h13⟩, g1, g2⟩
  by_cases e : b = a
  · rw [e, uF_at]; exact hv
  · rw [uF_ne e]; exact h10 b hb
theorem kp_setJ {z : Nat → Nat} {S T : wPS} {a : Nat} {v : Int64} (h : Kp z S T) : Kp z S (setJ T a v) := h
/-- a robot becomes idle -/
theorem kp_idle {z : Nat → Nat} {S T : wPS} {a : Nat} (h : Kp z S T) : Kp z S (setG T 30 a none) := by
  obtain ⟨⟨h1, h2, h3, h4, h5, h6, h7, h8, h9, h10, h11, h12, h13⟩, g1, g2⟩ := h
  refine ⟨⟨h1, h2, fun k hk => (show pG (setG T 30 a none) k = pG T k from va_up_ne _ _ hk).trans (h3 k hk), fun b => ?_, h5, h6, h7, h8, h9, h10, h11, h12, h13⟩, g1, g2⟩
  by_cases e : b = a
  · exact Or.inr (by rw [e]; exact uG_at)
  · rw [uG_ne e]; exact h4 b
theorem obO_old {S : wPS} {q kd k a : Nat} (hq : q ∉ pL S) (h : Ob S k a) : Ob (newO S q kd) k a := ⟨List.mem_append_left _ h.1, (va_up_ne _ _ (fun e : a = q => hq (by rw [← e]; exact h.1))).trans h.2⟩
theorem obO_new {S : wPS} {q kd : Nat} : Ob (newO S q kd) kd q := ⟨List.mem_append_right _ List.mem_cons_self, va_up_self _ _ _⟩
theorem obA_old {S : wPS} {q kd n k a : Nat} (hq : q ∉ pL S) (h : Ob S k a) : Ob (newA S q kd n) k a := ⟨List.mem_append_left _ h.1, (va_up_ne _ _ (fun e : a = q => hq (by rw [← e]; exact h.1))).trans h.2⟩
theorem obA_new {S : wPS} {q kd n : Nat} : Ob (newA S q kd n) kd q := ⟨List.mem_append_right _ List.mem_cons_self, va_up_self _ _ _⟩
theorem Inv.oa {z : Nat → Nat} {e0 : Nat} {S : wPS} (h : Inv z e0 S) {j : Nat} (hj : j < 4) : Ob S 0 (z (2 + j)) := by
  have h1 := h.1.1 (2 + j) (by omega)
  have : j = 0 ∨ j = 1 ∨ j = 2 ∨ j = 3 := by omega
  rcases this with rfl | rfl | rfl | rfl <;> exact h1
theorem Inv.or {z : Nat → Nat} {e0 : Nat} {S : wPS} (h : Inv z e0 S) {j : Nat} (hj : j < 2) : Ob S 3 (z (8 + j)) := by
  have h1 := h.1.1 (8 + j) (by omega)
  have : j = 0 ∨ j = 1 := by omega
  rcases this with rfl | rfl <;> exact h1
theorem kch_up {f : Nat → Int32} {i : Nat} {v : Int32} (h : ∀ i, kCh (f i)) (hv : kCh v) (j : Nat) : kCh (upd f i v j) := by
  unfold upd
  split
  · exact hv
  · exact h j
theorem kch_nar {v : Int32} (h : kCh v) : vp_nar .char v = v := by
  unfold vp_nar
  rw [h.1]
/-- the log is written at both rows, and counts on -/
theorem kp_write {z : Nat → Nat} {e0 : Nat} {S : wPS} {f : Nat → Int32} {i c : Nat} {sg v : Int32} (hI : Inv z e0 S) (hsg : kCh sg) (hc : c ≤ 516) (hv : v = nI c) : Kp z S (setF (setX (setX S (z 13) f) (z 14) (upd (pX (setX S (z 13) f) (z 14)) i (vp_nar .char sg))) 42 (z 12) v) := by
  have n13 : z 6 ≠ z 13 := fun h => absurd (hI.1.2 6 13 (by decide) (by decide) h) (by decide)
  have n14 : z 6 ≠ z 14 := fun h => absurd (hI.1.2 6 14 (by decide) (by decide) h) (by decide)
  have n34 : z 14 ≠ z 13 := fun h => absurd (hI.1.2 14 13 (by decide) (by decide) h) (by decide)
  have hr : ∀ a, a ≠ z 13 → a ≠ z 14 → pX (setF (setX (setX S (z 13) f) (z 14) (upd (pX (setX S (z 13) f) (z 14)) i (vp_nar .char sg))) 42 (z 12) v) a = pX S a := fun a h1 h2 => (va_up_ne _ _ h2).trans (va_up_ne _ _ h1)
  refine ⟨⟨rfl, rfl, fun _ _ => rfl, fun _ => Or.inl rfl, rfl, rfl, fun i => by rw [hr _ n13 n14], fun j => ?_, rfl, hI.2.2.2.1.2.2.2, rfl, rfl, ⟨c, hc, by rw [uF_at]; exact hv⟩⟩, rfl, rfl⟩
  have e : pX (setF (setX (setX S (z 13) f) (z 14) (upd (pX (setX S (z 13) f) (z 14)) i (vp_nar .char sg))) 42 (z 12) v) (z 14) = upd (pX S (z 14)) i sg := by
    show va_up _ (z 14) (upd (va_up (pX S) (z 13) f (z 14)) i (vp_nar .char sg)) (z 14) = _
    rw [va_up_self, kch_nar hsg, va_up_ne _ _ n34]
  rw [e]
  exact kch_up hI.2.2.2.1.2.1 hsg j
abbrev xI : String := "java/lang/IndexOutOfBoundsException"
abbrev xA : String := "java/lang/IllegalArgumentException"
abbrev xS : String := "java/lang/IllegalStateException"
abbrev xU : String := "java/lang/UnsupportedOperationException"
abbrev xN : String := "java/util/NoSuchElementException"
theorem kix {n M : Int32} {N : Nat} (hM : M = nI N) (hN : N < 2 ^ 31) (h0 : ¬ n < 0) (h1 : ¬ M ≤ n) : ∃ j, j < N ∧ n = nI j := by
  rcases pk_ix n hN with h | h | h
  · exact absurd h h0
  · exact absurd (by rw [hM]; exact h) h1
  · exact h
theorem kixlt {n M : Int32} {N : Nat} (hM : M = nI N) (hN : N < 2 ^ 31) (h0 : ¬ n < 0) (h1 : n < M) : ∃ j, j < N ∧ n = nI j := kix hM hN h0 (Int32.not_le.mpr h1)
theorem kbo1 {b : Bool} : kBo (if b then 1 else 0) := by cases b <;> simp [kBo]
theorem kbo_nar {v : Int32} (h : kBo v) : narrow .boolean (.int v) = .int v := by rcases h with rfl | rfl <;> rfl
theorem kbo_fit {v : Int32} (h : kBo v) : fits .boolean (.int v) = true := by rcases h with rfl | rfl <;> rfl
theorem Inv.lines {z : Nat → Nat} {e0 : Nat} {S : wPS} (h : Inv z e0 S) : ∃ n, n ≤ 12 ∧ LI S e0 (z 11) 2 n := h.2.2.2.2.1.2.1
theorem Inv.arts {z : Nat → Nat} {e0 : Nat} {S : wPS} (h : Inv z e0 S) : ∃ n, n ≤ 6 ∧ LI S e0 (z 10) 1 n := h.2.2.2.2.1.1
theorem Inv.bo {z : Nat → Nat} {e0 : Nat} {S : wPS} (h : Inv z e0 S) {j : Nat} (hj : j < 4) : kBo (pF S 1 (z (2 + j))) := h.2.2.2.1.2.2.1 j hj
theorem Inv.ch {z : Nat → Nat} {e0 : Nat} {S : wPS} (h : Inv z e0 S) {a : Nat} (ha : Ob S 2 a) : kCh (pF S 24 a) := h.2.2.2.1.2.2.2 a ha
theorem Inv.sg {z : Nat → Nat} {e0 : Nat} {S : wPS} (h : Inv z e0 S) (i : Nat) : kCh (pX S (z 14) i) := h.2.2.2.1.2.1 i
theorem kmin516 {x1 x2 x3 : Int32} (e2 : x2 = if (516 : Int32) < 516 then 516 else 516) (e3 : x3 = if x2 < x1 then x2 else x1) : x3 ≤ 516 := by
  have e : x2 = 516 := by rw [e2]; rfl
  rw [e] at e3
  rw [e3]
  by_cases h : (516 : Int32) < x1
  · rw [if_pos h]; decide
  · rw [if_neg h]; exact Int32.not_lt.mp h
end
section
/-! a thing is put behind a list: what the pool is then -/
def AddR (S T : wPS) (e0 q kd n : Nat) : Prop :=
  (∀ k a, Ob S k a → Ob T k a) ∧ (∀ k a, Ob T k a → Ob S k a ∨ k = 13) ∧ e0 ∉ pL T ∧ LI T e0 q kd (n + 1) ∧ (∀ d, pG T 71 q = some d → pG S 71 q = some d ∨ d ∉ pL S) ∧ pG T 71 q ≠ some e0 ∧
  (∀ k, k ≠ 71 → pG T k = pG S k) ∧ (∀ a, a ≠ q → pG T 71 a = pG S 71 a) ∧ (∀ k, k ≠ 70 → k ≠ 72 → pF T k = pF S k) ∧ (∀ a, a ≠ q → pF T 72 a = pF S 72 a) ∧ pJ T = pJ S ∧ (∀ a, a ∈ pL S → pN T a = pN S a ∧ pX T a = pX S a) ∧ (∀ a, a ∈ pL S → pG S 71 q ≠ some a → pY T a = pY S a)
/-- there is room -/
theorem addR_C {S : wPS} {e0 q kd n d b : Nat} {m v : Int32} {i : Nat} (he : e0 ∉ pL S) (oq : Ob S 7 q) (ob : Ob S kd b) (hd : pG S 71 q = some d) (od : Ob S 13 d) (hN : pN S d = 10 ∨ pN S d = 15) (hn : n < pN S d) (hx : ∀ i, i < n → ∃ b, pY S d i = some b ∧ Ob S kd b) (hi : i = n) (hv : v = nI (n + 1)) :
    AddR S (setF (setY (setF S 70 q m) d (va_up (pY (setF S 70 q m) d) i (some b))) 72 q v) e0 q kd n := by
  subst hi
  refine ⟨fun _ _ h => h, fun _ _ h => Or.inl h, he, ⟨by rw [uF_at]; exact hv, Or.inr ⟨d, hd, od, hN, hn, fun j hj => ?_⟩⟩, fun d2 h => Or.inl h, fun h => he (by rw [show pG S 71 q = some e0 from h] at hd; rw [Option.some.inj hd]; exact od.1), fun _ _ => rfl, fun _ _ => rfl, fun k h1 h2 => ?_, fun a ha => ?_, rfl, fun _ _ => ⟨rfl, rfl⟩, fun a ha h => ?_⟩
  · show ∃ b2, va_up (pY S) d (va_up (pY S d) i (some b)) d j = some b2 ∧ Ob S kd b2
    rw [va_up_self]
    by_cases e : j = i
    · rw [e, va_up_self]; exact ⟨b, rfl, ob⟩
    · rw [va_up_ne _ _ e]; exact hx j (by omega)
  · show va_up (va_up (pF S) 70 (va_up (pF S 70) q m)) 72 (va_up (va_up (pF S) 70 (va_up (pF S 70) q m) 72) q v) k = _
    rw [va_up_ne _ _ h2, va_up_ne _ _ h1]
  · rw [uF_ne ha]; rfl
  · show va_up (pY S) d _ a = pY S a
    exact va_up_ne _ _ (fun e => h (by rw [e]; exact hd))
/-- the first of all -/
theorem addR_A {S : wPS} {e0 q kd b d : Nat} {m v : Int32} {i : Nat} (he : e0 ∉ pL S) (oq : Ob S 7 q) (ob : Ob S kd b) (hd : pG S 71 q = some e0) (hq : d ∉ pL S) (hde : d ≠ e0) (hi : i = 0) (hv : v = nI 1) :
    AddR S (setF (setY (setG (newA (setF S 70 q m) d 13 10) 71 q (some d)) d (va_up (pY (setG (newA (setF S 70 q m) d 13 10) 71 q (some d)) d) i (some b))) 72 q v) e0 q kd 0 := by
  subst hi
  have hne : ∀ a, a ∈ pL S → a ≠ d := fun a ha e => hq (by rw [← e]; exact ha)
  have hold : ∀ {k a}, Ob S k a → Ob (newA (setF S 70 q m) d 13 10) k a := fun h => obA_old hq h
  refine ⟨fun _ _ h => hold h, fun k a h => ?_, ?_, ⟨by rw [uF_at]; exact hv, Or.inr ⟨d, uG_at (S := newA (setF S 70 q m) d 13 10) (k := 71) (a := q) (v := some d), obA_new (n := 10), Or.inl (va_up_self _ _ _), ?_, fun j hj => ?_⟩⟩, fun d2 h => Or.inr ?_, fun h => hde ?_, fun k hk => ?_, fun a ha => ?_, fun k h1 h2 => ?_, fun a ha => ?_, rfl, fun a ha => ⟨?_, ?_⟩, fun a ha h => ?_⟩
  · obtain ⟨h1, h2⟩ := h
    rcases List.mem_append.mp h1 with h3 | h3
    · exact Or.inl ⟨h3, by rw [← h2]; exact (va_up_ne _ _ (hne a h3)).symm⟩
    · refine Or.inr ?_
      rw [← h2, List.mem_singleton.mp h3]
      exact va_up_self _ _ _
  · intro h
    rcases List.mem_append.mp h with h3 | h3
    · exact he h3
    · exact hde (List.mem_singleton.mp h3).symm
  · show 0 + 1 ≤ va_up (pN S) d 10 d
    rw [va_up_self]; decide
  · have e : j = 0 := by omega
    subst e
    refine ⟨b, ?_, hold ob⟩
    show va_up _ d (va_up _ 0 (some b)) d 0 = some b
    rw [va_up_self, va_up_self]
  · rw [show pG (setF (setY (setG (newA (setF S 70 q m) d 13 10) 71 q (some d)) d (va_up (pY (setG (newA (setF S 70 q m) d 13 10) 71 q (some d)) d) 0 (some b))) 72 q v) 71 q = some d from uG_at (S := newA (setF S 70 q m) d 13 10) (k := 71) (a := q) (v := some d)] at h
    rw [← Option.some.inj h]; exact hq
  · rw [show pG (setF (setY (setG (newA (setF S 70 q m) d 13 10) 71 q (some d)) d (va_up (pY (setG (newA (setF S 70 q m) d 13 10) 71 q (some d)) d) 0 (some b))) 72 q v) 71 q = some d from uG_at (S := newA (setF S 70 q m) d 13 10) (k := 71) (a := q) (v := some d)] at h
    exact Option.some.inj h
  · exact va_up_ne _ _ hk
  · exact uG_ne (S := newA (setF S 70 q m) d 13 10) (k := 71) (v := some d) ha 71
  · show va_up (va_up (pF S) 70 (va_up (pF S 70) q m)) 72 (va_up (va_up (pF S) 70 (va_up (pF S 70) q m) 72) q v) k = _
    rw [va_up_ne _ _ h2, va_up_ne _ _ h1]
  · rw [uF_ne ha]; rfl
  · exact va_up_ne _ _ (hne a ha)
  · exact va_up_ne _ _ (hne a ha)
  · show va_up (va_up (pY S) d (fun _ => none)) d _ a = pY S a
    rw [va_up_ne _ _ (hne a ha), va_up_ne _ _ (hne a ha)]
/-- it was full at ten -/
theorem addR_B {S : wPS} {e0 q kd b d0 d : Nat} {m v : Int32} {i : Nat} {f : Nat → Option Nat} (he : e0 ∉ pL S) (oq : Ob S 7 q) (ob : Ob S kd b) (hd : pG S 71 q = some d0) (od : Ob S 13 d0) (hx : ∀ i, i < 10 → ∃ b, pY S d0 i = some b ∧ Ob S kd b) (hf : ∀ i, i < 10 → f i = pY S d0 i) (hq : d ∉ pL S) (hde : d ≠ e0) (hi : i = 10) (hv : v = nI 11) :
    AddR S (setF (setY (setG (setY (newA (setF S 70 q m) d 13 15) d f) 71 q (some d)) d (va_up (pY (setG (setY (newA (setF S 70 q m) d 13 15) d f) 71 q (some d)) d) i (some b))) 72 q v) e0 q kd 10 := by
  subst hi
  have hne : ∀ a, a ∈ pL S → a ≠ d := fun a ha e => hq (by rw [← e]; exact ha)
  have hold : ∀ {k a}, Ob S k a → Ob (newA (setF S 70 q m) d 13 15) k a := fun h => obA_old hq h
  have hg : pG (setF (setY (setG (setY (newA (setF S 70 q m) d 13 15) d f) 71 q (some d)) d (va_up (pY (setG (setY (newA (setF S 70 q m) d 13 15) d f) 71 q (some d)) d) 10 (some b))) 72 q v) 71 q = some d := uG_at (S := setY (newA (setF S 70 q m) d 13 15) d f) (k := 71) (a := q) (v := some d)
  refine ⟨fun _ _ h => hold h, fun k a h => ?_, ?_, ⟨by rw [uF_at]; exact hv, Or.inr ⟨d, hg, obA_new (n := 15), Or.inr (va_up_self _ _ _), ?_, fun j hj => ?_⟩⟩, fun d2 h => Or.inr ?_, fun h => hde ?_, fun k hk => ?_, fun a ha => ?_, fun k h1 h2 => ?_, fun a ha => ?_, rfl, fun a ha => ⟨?_, ?_⟩, fun a ha h => ?_⟩
  · obtain ⟨h1, h2⟩ := h
    rcases List.mem_append.mp h1 with h3 | h3
    · exact Or.inl ⟨h3, by rw [← h2]; exact (va_up_ne _ _ (hne a h3)).symm⟩
    · refine Or.inr ?_
      rw [← h2, List.mem_singleton.mp h3]
      exact va_up_self _ _ _
  · intro h
    rcases List.mem_append.mp h with h3 | h3
    · exact he h3
    · exact hde (List.mem_singleton.mp h3).symm
  · show 10 + 1 ≤ va_up (pN S) d 15 d
    rw [va_up_self]; decide
  · show ∃ b2, va_up _ d (va_up (va_up (va_up (pY S) d (fun _ => none)) d f d) 10 (some b)) d j = some b2 ∧ _
    rw [va_up_self, va_up_self]
    by_cases e : j = 10
    · rw [e, va_up_self]; exact ⟨b, rfl, hold ob⟩
    · rw [va_up_ne _ _ e, hf j (by omega)]
      obtain ⟨b2, g1, g2⟩ := hx j (by omega)
      exact ⟨b2, g1, hold g2⟩
  · rw [hg] at h
    rw [← Option.some.inj h]; exact hq
  · rw [hg] at h
    exact Option.some.inj h
  · exact va_up_ne _ _ hk
  · exact uG_ne (S := setY (newA (setF S 70 q m) d 13 15) d f) (k := 71) (v := some d) ha 71
  · show va_up (va_up (pF S) 70 (va_up (pF S 70) q m)) 72 (va_up (va_up (pF S) 70 (va_up (pF S 70) q m) 72) q v) k = _
    rw [va_up_ne _ _ h2, va_up_ne _ _ h1]
  · rw [uF_ne ha]; rfl
  · exact va_up_ne _ _ (hne a ha)
  · exact va_up_ne _ _ (hne a ha)
  · show va_up (va_up (va_up (pY S) d (fun _ => none)) d f) d _ a = pY S a
    rw [va_up_ne _ _ (hne a ha), va_up_ne _ _ (hne a ha), va_up_ne _ _ (hne a ha)]
theorem LI.add {S T : wPS} {e0 q q2 kd k2 n n2 : Nat} (R : AddR S T e0 q kd n) (hq : q2 ≠ q) (hap : ∀ d, pG S 71 q2 = some d → pG S 71 q = some d → d = e0) (he : e0 ∉ pL S) (h : LI S e0 q2 k2 n2) : LI T e0 q2 k2 n2 := by
  obtain ⟨r1, -, -, -, -, -, -, r8, -, r10, -, r12, r13⟩ := R
  obtain ⟨a1, a2⟩ := h
  refine ⟨by rw [r10 _ hq]; exact a1, ?_⟩
  rcases a2 with ⟨b1, b2⟩ | ⟨d, b1, b2, b3, b4, b5⟩
  · exact Or.inl ⟨b1, by rw [r8 _ hq]; exact b2⟩
  · have hN := (r12 d b2.1).1
    refine Or.inr ⟨d, by rw [r8 _ hq]; exact b1, r1 _ _ b2, by rw [hN]; exact b3, by rw [hN]; exact b4, fun i hi => ?_⟩
    obtain ⟨b, c1, c2⟩ := b5 i hi
    exact ⟨b, by rw [r13 d b2.1 (fun e => he (by rw [← hap d b1 e]; exact b2.1))]; exact c1, r1 _ _ c2⟩
/-- a planner stays one when a thing comes behind its list of articles (q = z 10) or lines (q = z 11) -/
theorem Inv.add {z : Nat → Nat} {e0 : Nat} {S T : wPS} {kd n w : Nat} (h : Inv z e0 S) (hw : (w = 10 ∧ kd = 1 ∧ n + 1 ≤ 6) ∨ (w = 11 ∧ kd = 2 ∧ n + 1 ≤ 12)) (R : AddR S T e0 (z w) kd n) : Inv z e0 T := by
  have I := h
  obtain ⟨⟨a1, a2⟩, b, c, d, ⟨⟨n1, f1, f2⟩, ⟨n2, f3, f4⟩, f5, f6⟩, ⟨g1, g2, g3⟩⟩ := h
  have hL : ∀ i, i < 15 → z i ∈ pL S := fun i hi => (a1 i hi).1
  have hrow : ∀ i, i < 15 → kzK i ≠ 13 → pY T (z i) = pY S (z i) := fun i hi hk => by
    refine R.2.2.2.2.2.2.2.2.2.2.2.2 (z i) (hL i hi) (fun e => ?_)
    have : ∃ n, LI S e0 (z w) kd n := by
      rcases hw with ⟨rfl, rfl, -⟩ | ⟨rfl, rfl, -⟩
      · exact ⟨_, f2⟩
      · exact ⟨_, f4⟩
    obtain ⟨m, -, ⟨-, q2⟩ | ⟨x, q1, q2, -⟩⟩ := this
    · rw [q2] at e; exact f6 (by rw [Option.some.inj e]; exact hL i hi)
    · rw [q1] at e
      have e2 := Option.some.inj e
      exact hk ((a1 i hi).2.symm.trans (by rw [← e2]; exact q2.2))
  have L10 : ∃ n, n ≤ 6 ∧ LI T e0 (z 10) 1 n := by
    rcases hw with ⟨rfl, rfl, hn⟩ | ⟨rfl, rfl, hn⟩
    · exact ⟨n + 1, hn, R.2.2.2.1⟩
    · exact ⟨n1, f1, LI.add R (fun e => absurd (a2 10 11 (by decide) (by decide) e) (by decide)) f5 f6 f2⟩
  have L11 : ∃ n, n ≤ 12 ∧ LI T e0 (z 11) 2 n := by
    rcases hw with ⟨rfl, rfl, hn⟩ | ⟨rfl, rfl, hn⟩
    · exact ⟨n2, f3, LI.add R (fun e => absurd (a2 11 10 (by decide) (by decide) e) (by decide)) (fun d h1 h2 => f5 d h2 h1) f6 f4⟩
    · exact ⟨n + 1, hn, R.2.2.2.1⟩
  have hap : ∀ d, pG T 71 (z 10) = some d → pG T 71 (z 11) = some d → d = e0 := by
    intro d h1 h2
    rcases hw with ⟨rfl, rfl, -⟩ | ⟨rfl, rfl, -⟩
    · have h3 := R.2.2.2.2.2.2.2.1 (z 11) (fun e => absurd (a2 11 10 (by decide) (by decide) e) (by decide))
      rw [h3] at h2
      rcases R.2.2.2.2.1 d h1 with h4 | h4
      · exact f5 d h4 h2
      · obtain ⟨-, ⟨-, q2⟩ | ⟨x, q1, q2, -⟩⟩ := f4
        · rw [q2] at h2; exact (Option.some.inj h2).symm
        · rw [q1] at h2; exact absurd (by rw [← Option.some.inj h2]; exact q2.1) h4
    · have h3 := R.2.2.2.2.2.2.2.1 (z 10) (fun e => absurd (a2 10 11 (by decide) (by decide) e) (by decide))
      rw [h3] at h1
      rcases R.2.2.2.2.1 d h2 with h4 | h4
      · exact f5 d h1 h4
      · obtain ⟨-, ⟨-, q2⟩ | ⟨x, q1, q2, -⟩⟩ := f2
        · rw [q2] at h1; exact (Option.some.inj h1).symm
        · rw [q1] at h1; exact absurd (by rw [← Option.some.inj h1]; exact q2.1) h4
  obtain ⟨r1, r2, r3, -, -, -, r7, -, r9, -, -, r12, -⟩ := R
  have hN : ∀ i, i < 15 → pN T (z i) = pN S (z i) := fun i hi => (r12 _ (hL i hi)).1
  have hX : ∀ i, i < 15 → pX T (z i) = pX S (z i) := fun i hi => (r12 _ (hL i hi)).2
  refine ⟨⟨fun i hi => r1 _ _ (a1 i hi), a2⟩, ?_, ?_, ?_, ⟨L10, L11, hap, r3⟩, ⟨fun a ha => ?_, fun a ha => ?_, fun a ha => ?_⟩⟩
  · unfold kI2
    rw [r7 50 (by decide), r7 51 (by decide), r7 52 (by decide), r7 53 (by decide), r7 54 (by decide), r7 55 (by decide), r7 40 (by decide), r7 41 (by decide)]
    exact b
  · unfold kI3
    rw [hN 1 (by decide), hN 6 (by decide), hN 7 (by decide), hN 13 (by decide), hN 14 (by decide), hrow 1 (by decide) (by decide), hrow 7 (by decide) (by decide)]
    exact c
  · unfold kI4
    rw [r9 42 (by decide) (by decide), r9 1 (by decide) (by decide), r9 24 (by decide) (by decide), hX 14 (by decide)]
    exact ⟨d.1, d.2.1, d.2.2.1, fun a ha => d.2.2.2 a ((r2 _ _ ha).resolve_right (by decide))⟩
  · rw [r7 10 (by decide)]
    exact g1 a ((r2 _ _ ha).resolve_right (by decide))
  · rw [r7 21 (by decide)]
    obtain ⟨b, c1, c2⟩ := g2 a ((r2 _ _ ha).resolve_right (by decide))
    exact ⟨b, c1, r1 _ _ c2⟩
  · rw [r7 30 (by decide)]
    rcases g3 a ((r2 _ _ ha).resolve_right (by decide)) with e | ⟨b, c1, c2⟩
    · exact Or.inl e
    · exact Or.inr ⟨b, c1, r1 _ _ c2⟩
/-- what tracked calls show is the same -/
def Tk (z : Nat → Nat) (S T : wPS) : Prop := pF T 72 (z 10) = pF S 72 (z 10) ∧ (∀ i, i < 4 → pF T 1 (z (2 + i)) = pF S 1 (z (2 + i)) ∧ pF T 2 (z (2 + i)) = pF S 2 (z (2 + i))) ∧ (∀ i, i < 3 → pX T (z 6) i = pX S (z 6) i) ∧ pF T 56 (z 0) = pF S 56 (z 0) ∧ pF T 57 (z 0) = pF S 57 (z 0)
theorem Kp.tk {z : Nat → Nat} {S T : wPS} (h : Kp z S T) : Tk z S T := by
  obtain ⟨⟨-, -, -, -, -, -, h7, -, h9, -, h11, h12, -⟩, g1, g2⟩ := h
  exact ⟨by rw [h9], fun i _ => ⟨by rw [h11], by rw [h12]⟩, fun i _ => h7 i, by rw [g1], by rw [g2]⟩
theorem Tk.trans {z : Nat → Nat} {S T U : wPS} (h : Tk z S T) (k : Tk z T U) : Tk z S U := ⟨k.1.trans h.1, fun i hi => ⟨(k.2.1 i hi).1.trans (h.2.1 i hi).1, (k.2.1 i hi).2.trans (h.2.1 i hi).2⟩, fun i hi => (k.2.2.1 i hi).trans (h.2.2.1 i hi), k.2.2.2.1.trans h.2.2.2.1, k.2.2.2.2.trans h.2.2.2.2⟩
theorem Tk.rf {z : Nat → Nat} {S : wPS} : Tk z S S := ⟨rfl, fun _ _ => ⟨rfl, rfl⟩, fun _ _ => rfl, rfl, rfl⟩
end
section
theorem dX1_freeUnits_0 : decode cX1_freeUnits 0 = .ok (.aload_n 0, 1) := by decide +kernel
theorem dX1_freeUnits_1 : decode cX1_freeUnits 1 = .ok (.getfield 13, 3) := by decide +kernel
theorem dX1_freeUnits_4 : decode cX1_freeUnits 4 = .ok (.aload_n 0, 1) := by decide +kernel
theorem dX1_freeUnits_5 : decode cX1_freeUnits 5 = .ok (.getfield 23, 3) := by decide +kernel
theorem dX1_freeUnits_8 : decode cX1_freeUnits 8 = .ok (.isub, 1) := by decide +kernel
theorem dX1_freeUnits_9 : decode cX1_freeUnits 9 = .ok (.ireturn, 1) := by decide +kernel
set_option maxHeartbeats 4000000 in
set_option maxRecDepth 100000 in
theorem c_X1_freeUnits (l : Launch) (hl0 : l.stackTraces = false) (g : kG) (e0 : Nat) (S : wPS) (sz : Nat) (a : Nat) (oa : Ob S 1 a) : kM l g e0 yX1_freeUnits cX1_freeUnits 1 (some .int) 0 0 0 0 [.ref a] S sz (pI (fun r T => T = S ∧ r = pF S 12 a - pF S 14 a)) (fun E => False) := by
  refine kM.of (by decide) (Nat.le_of_ble_eq_true rfl) ?_
  intro p e s m below meth c ls B hin
  obtain ⟨F, hr, hlk, hte, hP, hK, hD, hE, hS, hA, hl, hsz⟩ := B
  subst hsz
  have hx := F.1
  have hb := F.2.1
  have hl : lv_has ls 1 [(0, .ref a)] := hl
  refine lv_aload_n hx hb dX1_freeUnits_0 rfl (lv_at hl 0 rfl) ?_
  refine rg_Article_stock F hK hP oa kw_119 dX1_freeUnits_1 ?_
  refine lv_topi (fun x1 ex1 => ?_)
  refine lv_aload_n hx hb dX1_freeUnits_4 rfl (lv_at hl 0 rfl) ?_
  refine rg_Article_promisedUnits F hK hP oa kw_254 dX1_freeUnits_5 ?_
  refine lv_topi (fun x2 ex2 => ?_)
  refine lv_isub hx hb dX1_freeUnits_8 ?_
  refine lv_topi (fun x3 ex3 => ?_)
  exact kEndI F hr rfl hlk hP hD hS (Nat.le_of_ble_eq_true rfl) (Nat.le_of_ble_eq_true rfl) dX1_freeUnits_9 ⟨_, rfl, ⟨rfl, by subst_vars; rfl⟩⟩
theorem dX1_roomLeft_0 : decode cX1_roomLeft 0 = .ok (.aload_n 0, 1) := by decide +kernel
theorem dX1_roomLeft_1 : decode cX1_roomLeft 1 = .ok (.getfield 20, 3) := by decide +kernel
theorem dX1_roomLeft_4 : decode cX1_roomLeft 4 = .ok (.aload_n 0, 1) := by decide +kernel
theorem dX1_roomLeft_5 : decode cX1_roomLeft 5 = .ok (.getfield 13, 3) := by decide +kernel
theorem dX1_roomLeft_8 : decode cX1_roomLeft 8 = .ok (.isub, 1) := by decide +kernel
theorem dX1_roomLeft_9 : decode cX1_roomLeft 9 = .ok (.ireturn, 1) := by decide +kernel
set_option maxHeartbeats 4000000 in
set_option maxRecDepth 100000 in
theorem c_X1_roomLeft (l : Launch) (hl0 : l.stackTraces = false) (g : kG) (e0 : Nat) (S : wPS) (sz : Nat) (a : Nat) (oa : Ob S 1 a) : kM l g e0 yX1_roomLeft cX1_roomLeft 1 (some .int) 0 0 0 0 [.ref a] S sz (pI (fun r T => T = S ∧ r = pF S 11 a - pF S 12 a)) (fun E => False) := by
  refine kM.of (by decide) (Nat.le_of_ble_eq_true rfl) ?_
  intro p e s m below meth c ls B hin
  obtain ⟨F, hr, hlk, hte, hP, hK, hD, hE, hS, hA, hl, hsz⟩ := B
  subst hsz
  have hx := F.1
  have hb := F.2.1
  have hl : lv_has ls 1 [(0, .ref a)] := hl
  refine lv_aload_n hx hb dX1_roomLeft_0 rfl (lv_at hl 0 rfl) ?_
  refine rg_Article_room F hK hP oa kw_121 dX1_roomLeft_1 ?_
  refine lv_topi (fun x1 ex1 => ?_)
  refine lv_aload_n hx hb dX1_roomLeft_4 rfl (lv_at hl 0 rfl) ?_
  refine rg_Article_stock F hK hP oa kw_119 dX1_roomLeft_5 ?_
  refine lv_topi (fun x2 ex2 => ?_)
  refine lv_isub hx hb dX1_roomLeft_8 ?_
  refine lv_topi (fun x3 ex3 => ?_)
  exact kEndI F hr rfl hlk hP hD hS (Nat.le_of_ble_eq_true rfl) (Nat.le_of_ble_eq_true rfl) dX1_roomLeft_9 ⟨_, rfl, ⟨rfl, by subst_vars; rfl⟩⟩
theorem dX1_putAway_0 : decode cX1_putAway 0 = .ok (.iload_n 1, 1) := by decide +kernel
theorem dX1_putAway_1 : decode cX1_putAway 1 = .ok (.aload_n 0, 1) := by decide +kernel
theorem dX1_putAway_2 : decode cX1_putAway 2 = .ok (.invokevirtual 26, 3) := by decide +kernel
theorem dX1_putAway_5 : decode cX1_putAway 5 = .ok (.invokestatic 30, 3) := by decide +kernel
theorem dX1_putAway_8 : decode cX1_putAway 8 = .ok (.istore_n 2, 1) := by decide +kernel
theorem dX1_putAway_9 : decode cX1_putAway 9 = .ok (.aload_n 0, 1) := by decide +kernel
theorem dX1_putAway_10 : decode cX1_putAway 10 = .ok (.dup, 1) := by decide +kernel
theorem dX1_putAway_11 : decode cX1_putAway 11 = .ok (.getfield 13, 3) := by decide +kernel
theorem dX1_putAway_14 : decode cX1_putAway 14 = .ok (.iload_n 2, 1) := by decide +kernel
theorem dX1_putAway_15 : decode cX1_putAway 15 = .ok (.iadd, 1) := by decide +kernel
theorem dX1_putAway_16 : decode cX1_putAway 16 = .ok (.putfield 13, 3) := by decide +kernel
theorem dX1_putAway_19 : decode cX1_putAway 19 = .ok (.aload_n 0, 1) := by decide +kernel
theorem dX1_putAway_20 : decode cX1_putAway 20 = .ok (.dup, 1) := by decide +kernel
theorem dX1_putAway_21 : decode cX1_putAway 21 = .ok (.getfield 17, 3) := by decide +kernel
theorem dX1_putAway_24 : decode cX1_putAway 24 = .ok (.iload_n 1, 1) := by decide +kernel
theorem dX1_putAway_25 : decode cX1_putAway 25 = .ok (.iload_n 2, 1) := by decide +kernel
theorem dX1_putAway_26 : decode cX1_putAway 26 = .ok (.isub, 1) := by decide +kernel
theorem dX1_putAway_27 : decode cX1_putAway 27 = .ok (.iadd, 1) := by decide +kernel
theorem dX1_putAway_28 : decode cX1_putAway 28 = .ok (.putfield 17, 3) := by decide +kernel
theorem dX1_putAway_31 : decode cX1_putAway 31 = .ok (.iload_n 2, 1) := by decide +kernel
theorem dX1_putAway_32 : decode cX1_putAway 32 = .ok (.ireturn, 1) := by decide +kernel
set_option maxHeartbeats 4000000 in
set_option maxRecDepth 100000 in
theorem c_X1_putAway (l : Launch) (hl0 : l.stackTraces = false) (g : kG) (e0 : Nat) (z : Nat → Nat) (S : wPS) (sz : Nat) (hI : Inv z e0 S) (a : Nat) (oa : Ob S 1 a) (u : Int32) : kM l g e0 yX1_putAway cX1_putAway 3 (some .int) 1 20 0 0 [.ref a, .int u] S sz (pI (fun r T => Kp z S T)) (fun E => False) := by
  refine kM.of (by decide) (Nat.le_of_ble_eq_true rfl) ?_
  intro p e s m below meth c ls B hin
  obtain ⟨F, hr, hlk, hte, hP, hK, hD, hE, hS, hA, hl, hsz⟩ := B
  subst hsz
  have hx := F.1
  have hb := F.2.1
  have hl : lv_has ls 3 [(0, .ref a), (1, .int u)] := hl
  refine lv_iload_n hx hb dX1_putAway_0 rfl (lv_at hl 1 rfl) ?_
  refine lv_aload_n hx hb dX1_putAway_1 rfl (lv_at hl 0 rfl) ?_
  refine kcallI (kV (n := 0) (As := []) (rest := [.int u]) (b := a) (C := RX1) F hE hK hP hD hS hA (c_X1_roomLeft l hl0 g e0 S _ a oa) (rr_Article hK hP oa) kw_382 kw_374 kw_375 kw_101 kw_376 (by decide +kernel) ⟨Nat.le_of_ble_eq_true rfl, Nat.le_of_ble_eq_true rfl⟩ rfl hl.1 rfl (Nat.le_of_ble_eq_true rfl) dX1_putAway_2 ⟨Nat.le_of_ble_eq_true rfl, Nat.le_of_ble_eq_true rfl⟩) rfl hD hS hA (fun _ _ _ _ _ h => False.elim h) (fun r1 T1 H locs hp hP hD hS => ?_)
  obtain ⟨hT, hp2⟩ := hp
  have hT := hT.symm
  subst hT
  refine va_mmin hx hb (by rw [F.2.2.1]; exact hl.1.symm) F.2.2.2.1 (F.2.2.2.2 _ kw_381) (F.2.2.2.2 _ kw_168) (F.2.2.2.2 _ kw_142) (F.2.2.2.2 _ kw_169) (Nat.le_of_ble_eq_true rfl) (Nat.le_of_ble_eq_true rfl) (Nat.le_of_ble_eq_true rfl) (Nat.le_of_ble_eq_true rfl) dX1_putAway_5 ?_
  refine lv_topi (fun x3 ex3 => ?_)
  refine lv_istore_n (lv' := [(2, .int x3), (0, .ref a), (1, .int u)]) hx hb dX1_putAway_8 rfl hl (by decide) rfl (fun ls hl => ?_)
  refine lv_aload_n hx hb dX1_putAway_9 rfl (lv_at hl 1 rfl) ?_
  refine lv_dup hx hb dX1_putAway_10 rfl ?_
  refine rg_Article_stock F hK hP oa kw_119 dX1_putAway_11 ?_
  refine lv_topi (fun x4 ex4 => ?_)
  refine lv_iload_n hx hb dX1_putAway_14 rfl (lv_at hl 0 rfl) ?_
  refine lv_iadd hx hb dX1_putAway_15 ?_
  refine lv_topi (fun x5 ex5 => ?_)
  refine rp_Article_stock F hK hP hD hS oa kw_119 dX1_putAway_16 (fun H locs hP hD hS => ?_)
  refine lv_aload_n hx hb dX1_putAway_19 rfl (lv_at hl 1 rfl) ?_
  refine lv_dup hx hb dX1_putAway_20 rfl ?_
  refine rg_Article_reserve F hK hP oa kw_120 dX1_putAway_21 ?_
  refine lv_topi (fun x6 ex6 => ?_)
  refine lv_iload_n hx hb dX1_putAway_24 rfl (lv_at hl 2 rfl) ?_
  refine lv_iload_n hx hb dX1_putAway_25 rfl (lv_at hl 0 rfl) ?_
  refine lv_isub hx hb dX1_putAway_26 ?_
  refine lv_topi (fun x7 ex7 => ?_)
  refine lv_iadd hx hb dX1_putAway_27 ?_
  refine lv_topi (fun x8 ex8 => ?_)
  refine rp_Article_reserve F hK hP hD hS oa kw_120 dX1_putAway_28 (fun H locs hP hD hS => ?_)
  refine lv_iload_n hx hb dX1_putAway_31 rfl (lv_at hl 0 rfl) ?_
  exact kEndI F hr rfl hlk hP hD hS (Nat.le_of_ble_eq_true rfl) (Nat.le_of_ble_eq_true rfl) dX1_putAway_32 ⟨_, rfl, (kp_setF (kp_setF hI.kp (by decide) (by decide)) (by decide) (by decide))⟩
theorem dX4_write_0 : decode cX4_write 0 = .ok (.aload_n 0, 1) := by decide +kernel
theorem dX4_write_1 : decode cX4_write 1 = .ok (.getfield 19, 3) := by decide +kernel
theorem dX4_write_4 : decode cX4_write 4 = .ok (.aload_n 0, 1) := by decide +kernel
theorem dX4_write_5 : decode cX4_write 5 = .ok (.getfield 9, 3) := by decide +kernel
theorem dX4_write_8 : decode cX4_write 8 = .ok (.arraylength, 1) := by decide +kernel
theorem dX4_write_9 : decode cX4_write 9 = .ok (.if_icmp .ge 45, 3) := by decide +kernel
theorem dX4_write_12 : decode cX4_write 12 = .ok (.aload_n 0, 1) := by decide +kernel
theorem dX4_write_13 : decode cX4_write 13 = .ok (.getfield 19, 3) := by decide +kernel
theorem dX4_write_16 : decode cX4_write 16 = .ok (.aload_n 0, 1) := by decide +kernel
theorem dX4_write_17 : decode cX4_write 17 = .ok (.getfield 15, 3) := by decide +kernel
theorem dX4_write_20 : decode cX4_write 20 = .ok (.arraylength, 1) := by decide +kernel
theorem dX4_write_21 : decode cX4_write 21 = .ok (.if_icmp .ge 33, 3) := by decide +kernel
theorem dX4_write_24 : decode cX4_write 24 = .ok (.aload_n 0, 1) := by decide +kernel
theorem dX4_write_25 : decode cX4_write 25 = .ok (.getfield 9, 3) := by decide +kernel
theorem dX4_write_28 : decode cX4_write 28 = .ok (.aload_n 0, 1) := by decide +kernel
theorem dX4_write_29 : decode cX4_write 29 = .ok (.getfield 19, 3) := by decide +kernel
theorem dX4_write_32 : decode cX4_write 32 = .ok (.iload_n 1, 1) := by decide +kernel
theorem dX4_write_33 : decode cX4_write 33 = .ok (.iastore, 1) := by decide +kernel
theorem dX4_write_34 : decode cX4_write 34 = .ok (.aload_n 0, 1) := by decide +kernel
theorem dX4_write_35 : decode cX4_write 35 = .ok (.getfield 15, 3) := by decide +kernel
theorem dX4_write_38 : decode cX4_write 38 = .ok (.aload_n 0, 1) := by decide +kernel
theorem dX4_write_39 : decode cX4_write 39 = .ok (.getfield 19, 3) := by decide +kernel
theorem dX4_write_42 : decode cX4_write 42 = .ok (.iload_n 2, 1) := by decide +kernel
theorem dX4_write_43 : decode cX4_write 43 = .ok (.castore, 1) := by decide +kernel
theorem dX4_write_44 : decode cX4_write 44 = .ok (.aload_n 0, 1) := by decide +kernel
theorem dX4_write_45 : decode cX4_write 45 = .ok (.dup, 1) := by decide +kernel
theorem dX4_write_46 : decode cX4_write 46 = .ok (.getfield 19, 3) := by decide +kernel
theorem dX4_write_49 : decode cX4_write 49 = .ok (.iconst 1, 1) := by decide +kernel
theorem dX4_write_50 : decode cX4_write 50 = .ok (.iadd, 1) := by decide +kernel
theorem dX4_write_51 : decode cX4_write 51 = .ok (.putfield 19, 3) := by decide +kernel
theorem dX4_write_54 : decode cX4_write 54 = .ok (.return_, 1) := by decide +kernel
set_option maxHeartbeats 4000000 in
set_option maxRecDepth 100000 in
theorem c_X4_write (l : Launch) (hl0 : l.stackTraces = false) (g : kG) (e0 : Nat) (z : Nat → Nat) (S : wPS) (sz : Nat) (hI : Inv z e0 S) (n sg : Int32) (hsg : kCh sg) : kM l g e0 yX4_write cX4_write 3 none 0 0 0 0 [.ref (z 12), .int n, .int sg] S sz (pU (fun T => Kp z S T)) (fun E => False) := by
  refine kM.of (by decide) (Nat.le_of_ble_eq_true rfl) ?_
  intro p e s m below meth c ls B hin
  obtain ⟨F, hr, hlk, hte, hP, hK, hD, hE, hS, hA, hl, hsz⟩ := B
  subst hsz
  have hx := F.1
  have hb := F.2.1
  have hl : lv_has ls 3 [(0, .ref (z 12)), (1, .int n), (2, .int sg)] := hl
  obtain ⟨ct, hct1, hct2⟩ := hI.2.2.2.1.1
  refine lv_aload_n hx hb dX4_write_0 rfl (lv_at hl 0 rfl) ?_
  refine rg_ScanLog_count F hK hP (hI.1.1 12 (by decide)) kw_299 dX4_write_1 ?_
  refine lv_topi (fun x1 ex1 => ?_)
  refine lv_aload_n hx hb dX4_write_4 rfl (lv_at hl 0 rfl) ?_
  refine rs_ScanLog_numbers (b := z 13) F hK hP (hI.1.1 12 (by decide)) hI.2.1.2.2.2.2.2.2.1 kw_60 dX4_write_5 ?_
  refine rl_I (v := 516) F hK hP (hI.1.1 13 (by decide)) (congrArg Int32.ofNat (show pN S (z 13) = 516 from hI.2.2.1.2.2.2.2.2.1)) dX4_write_8 ?_
  refine lv_icmp_ge (tgt := 54) hx hb dX4_write_9 (by decide) (fun c2 => ?_) (fun c2 => ?_)
  · exact kEndV F hr hlk hP hD hS (Nat.le_of_ble_eq_true rfl) (Nat.le_of_ble_eq_true rfl) dX4_write_54 ⟨rfl, hI.kp⟩
  · have hlt : ct < 516 := by
      rcases Nat.lt_or_ge ct 516 with h | h
      · exact h
      · exact absurd (by rw [ex1, hct2]; exact nI_le h (by omega)) c2
    refine lv_aload_n hx hb dX4_write_12 rfl (lv_at hl 0 rfl) ?_
    refine rg_ScanLog_count F hK hP (hI.1.1 12 (by decide)) kw_299 dX4_write_13 ?_
    refine lv_topi (fun x3 ex3 => ?_)
    refine lv_aload_n hx hb dX4_write_16 rfl (lv_at hl 0 rfl) ?_
    refine rs_ScanLog_signs (b := z 14) F hK hP (hI.1.1 12 (by decide)) hI.2.1.2.2.2.2.2.2.2 kw_62 dX4_write_17 ?_
    refine rl_C (v := 516) F hK hP (hI.1.1 14 (by decide)) (congrArg Int32.ofNat (show pN S (z 14) = 516 from hI.2.2.1.2.2.2.2.2.2)) dX4_write_20 ?_
    refine lv_icmp_ge (tgt := 54) hx hb dX4_write_21 (by decide) (fun c4 => ?_) (fun c4 => ?_)
    · exact kEndV F hr hlk hP hD hS (Nat.le_of_ble_eq_true rfl) (Nat.le_of_ble_eq_true rfl) dX4_write_54 ⟨rfl, hI.kp⟩
    · refine lv_aload_n hx hb dX4_write_24 rfl (lv_at hl 0 rfl) ?_
      refine rs_ScanLog_numbers (b := z 13) F hK hP (hI.1.1 12 (by decide)) hI.2.1.2.2.2.2.2.2.1 kw_60 dX4_write_25 ?_
      refine lv_aload_n hx hb dX4_write_28 rfl (lv_at hl 0 rfl) ?_
      refine rg_ScanLog_count F hK hP (hI.1.1 12 (by decide)) kw_299 dX4_write_29 ?_
      refine lv_topi (fun x5 ex5 => ?_)
      refine lv_iload_n hx hb dX4_write_32 rfl (lv_at hl 1 rfl) ?_
      refine rt_I F hK hP hD hS (hI.1.1 13 (by decide)) (by rw [ex5]; show vp_in (pF S 42 (z 12)) (pN S (z 13)); rw [hct2, show pN S (z 13) = 516 from hI.2.2.1.2.2.2.2.2.1]; exact vp_in_nI hlt (by decide)) dX4_write_33 (fun H locs hP hD hS => ?_)
      refine lv_aload_n hx hb dX4_write_34 rfl (lv_at hl 0 rfl) ?_
      refine rs_ScanLog_signs (b := z 14) F hK hP (hI.1.1 12 (by decide)) hI.2.1.2.2.2.2.2.2.2 kw_62 dX4_write_35 ?_
      refine lv_aload_n hx hb dX4_write_38 rfl (lv_at hl 0 rfl) ?_
      refine rg_ScanLog_count F hK hP (hI.1.1 12 (by decide)) kw_299 dX4_write_39 ?_
      refine lv_topi (fun x6 ex6 => ?_)
      refine lv_iload_n hx hb dX4_write_42 rfl (lv_at hl 2 rfl) ?_
      refine rt_C F hK hP hD hS (hI.1.1 14 (by decide)) (by rw [ex6]; show vp_in (pF S 42 (z 12)) (pN S (z 14)); rw [hct2, show pN S (z 14) = 516 from hI.2.2.1.2.2.2.2.2.2]; exact vp_in_nI hlt (by decide)) dX4_write_43 (fun H locs hP hD hS => ?_)
      refine lv_aload_n hx hb dX4_write_44 rfl (lv_at hl 0 rfl) ?_
      refine lv_dup hx hb dX4_write_45 rfl ?_
      refine rg_ScanLog_count F hK hP (hI.1.1 12 (by decide)) kw_299 dX4_write_46 ?_
      refine lv_topi (fun x7 ex7 => ?_)
      refine lv_iconst (v := 1) hx hb dX4_write_49 (by decide) ?_
      refine lv_iadd hx hb dX4_write_50 ?_
      refine lv_topi (fun x8 ex8 => ?_)
      refine rp_ScanLog_count F hK hP hD hS (hI.1.1 12 (by decide)) kw_299 dX4_write_51 (fun H locs hP hD hS => ?_)
      exact kEndV F hr hlk hP hD hS (Nat.le_of_ble_eq_true rfl) (Nat.le_of_ble_eq_true rfl) dX4_write_54 ⟨rfl, kp_write hI hsg (c := ct + 1) hlt (by rw [ex8, ex7]; show pF S 42 (z 12) + 1 = _; rw [hct2]; exact nI_1 ct)⟩
theorem dX4_has_0 : decode cX4_has 0 = .ok (.iload_n 1, 1) := by decide +kernel
theorem dX4_has_1 : decode cX4_has 1 = .ok (.ifCond .lt 33, 3) := by decide +kernel
theorem dX4_has_4 : decode cX4_has 4 = .ok (.iload_n 1, 1) := by decide +kernel
theorem dX4_has_5 : decode cX4_has 5 = .ok (.aload_n 0, 1) := by decide +kernel
theorem dX4_has_6 : decode cX4_has 6 = .ok (.getfield 19, 3) := by decide +kernel
theorem dX4_has_9 : decode cX4_has 9 = .ok (.if_icmp .ge 25, 3) := by decide +kernel
theorem dX4_has_12 : decode cX4_has 12 = .ok (.iload_n 1, 1) := by decide +kernel
theorem dX4_has_13 : decode cX4_has 13 = .ok (.aload_n 0, 1) := by decide +kernel
theorem dX4_has_14 : decode cX4_has 14 = .ok (.getfield 9, 3) := by decide +kernel
theorem dX4_has_17 : decode cX4_has 17 = .ok (.arraylength, 1) := by decide +kernel
theorem dX4_has_18 : decode cX4_has 18 = .ok (.if_icmp .ge 16, 3) := by decide +kernel
theorem dX4_has_21 : decode cX4_has 21 = .ok (.iload_n 1, 1) := by decide +kernel
theorem dX4_has_22 : decode cX4_has 22 = .ok (.aload_n 0, 1) := by decide +kernel
theorem dX4_has_23 : decode cX4_has 23 = .ok (.getfield 15, 3) := by decide +kernel
theorem dX4_has_26 : decode cX4_has 26 = .ok (.arraylength, 1) := by decide +kernel
theorem dX4_has_27 : decode cX4_has 27 = .ok (.if_icmp .ge 7, 3) := by decide +kernel
theorem dX4_has_30 : decode cX4_has 30 = .ok (.iconst 1, 1) := by decide +kernel
theorem dX4_has_31 : decode cX4_has 31 = .ok (.goto 4, 3) := by decide +kernel
theorem dX4_has_34 : decode cX4_has 34 = .ok (.iconst 0, 1) := by decide +kernel
theorem dX4_has_35 : decode cX4_has 35 = .ok (.ireturn, 1) := by decide +kernel
set_option maxHeartbeats 4000000 in
set_option maxRecDepth 100000 in
theorem c_X4_has (l : Launch) (hl0 : l.stackTraces = false) (g : kG) (e0 : Nat) (z : Nat → Nat) (S : wPS) (sz : Nat) (hI : Inv z e0 S) (n : Int32) : kM l g e0 yX4_has cX4_has 2 (some .boolean) 0 0 0 0 [.ref (z 12), .int n] S sz (pI (fun r T => T = S ∧ (r = 0 ∨ (r = 1 ∧ ¬ n < 0 ∧ n < pF S 42 (z 12) ∧ n < 516)))) (fun E => False) := by
  refine kM.of (by decide) (Nat.le_of_ble_eq_true rfl) ?_
  intro p e s m below meth c ls B hin
  obtain ⟨F, hr, hlk, hte, hP, hK, hD, hE, hS, hA, hl, hsz⟩ := B
  subst hsz
  have hx := F.1
  have hb := F.2.1
  have hl : lv_has ls 2 [(0, .ref (z 12)), (1, .int n)] := hl
  refine lv_iload_n hx hb dX4_has_0 rfl (lv_at hl 1 rfl) ?_
  refine lv_if_lt (tgt := 34) hx hb dX4_has_1 (by decide) (fun c1 => ?_) (fun c1 => ?_)
  · refine lv_iconst (v := 0) hx hb dX4_has_34 (by decide) ?_
    exact kEndI F hr rfl hlk hP hD hS (Nat.le_of_ble_eq_true rfl) (Nat.le_of_ble_eq_true rfl) dX4_has_35 ⟨_, rfl, ⟨rfl, Or.inl rfl⟩⟩
  · refine lv_iload_n hx hb dX4_has_4 rfl (lv_at hl 1 rfl) ?_
    refine lv_aload_n hx hb dX4_has_5 rfl (lv_at hl 0 rfl) ?_
    refine rg_ScanLog_count F hK hP (hI.1.1 12 (by decide)) kw_299 dX4_has_6 ?_
    refine lv_topi (fun x2 ex2 => ?_)
    refine lv_icmp_ge (tgt := 34) hx hb dX4_has_9 (by decide) (fun c3 => ?_) (fun c3 => ?_)
    · refine lv_iconst (v := 0) hx hb dX4_has_34 (by decide) ?_
      exact kEndI F hr rfl hlk hP hD hS (Nat.le_of_ble_eq_true rfl) (Nat.le_of_ble_eq_true rfl) dX4_has_35 ⟨_, rfl, ⟨rfl, Or.inl rfl⟩⟩
    · refine lv_iload_n hx hb dX4_has_12 rfl (lv_at hl 1 rfl) ?_
      refine lv_aload_n hx hb dX4_has_13 rfl (lv_at hl 0 rfl) ?_
      refine rs_ScanLog_numbers (b := z 13) F hK hP (hI.1.1 12 (by decide)) hI.2.1.2.2.2.2.2.2.1 kw_60 dX4_has_14 ?_
      refine rl_I (v := 516) F hK hP (hI.1.1 13 (by decide)) (congrArg Int32.ofNat (show pN S (z 13) = 516 from hI.2.2.1.2.2.2.2.2.1)) dX4_has_17 ?_
      refine lv_icmp_ge (tgt := 34) hx hb dX4_has_18 (by decide) (fun c4 => ?_) (fun c4 => ?_)
      · refine lv_iconst (v := 0) hx hb dX4_has_34 (by decide) ?_
        exact kEndI F hr rfl hlk hP hD hS (Nat.le_of_ble_eq_true rfl) (Nat.le_of_ble_eq_true rfl) dX4_has_35 ⟨_, rfl, ⟨rfl, Or.inl rfl⟩⟩
      · refine lv_iload_n hx hb dX4_has_21 rfl (lv_at hl 1 rfl) ?_
        refine lv_aload_n hx hb dX4_has_22 rfl (lv_at hl 0 rfl) ?_
        refine rs_ScanLog_signs (b := z 14) F hK hP (hI.1.1 12 (by decide)) hI.2.1.2.2.2.2.2.2.2 kw_62 dX4_has_23 ?_
        refine rl_C (v := 516) F hK hP (hI.1.1 14 (by decide)) (congrArg Int32.ofNat (show pN S (z 14) = 516 from hI.2.2.1.2.2.2.2.2.2)) dX4_has_26 ?_
        refine lv_icmp_ge (tgt := 34) hx hb dX4_has_27 (by decide) (fun c5 => ?_) (fun c5 => ?_)
        · refine lv_iconst (v := 0) hx hb dX4_has_34 (by decide) ?_
          exact kEndI F hr rfl hlk hP hD hS (Nat.le_of_ble_eq_true rfl) (Nat.le_of_ble_eq_true rfl) dX4_has_35 ⟨_, rfl, ⟨rfl, Or.inl rfl⟩⟩
        · refine lv_iconst (v := 1) hx hb dX4_has_30 (by decide) ?_
          refine lv_goto (tgt := 35) hx hb dX4_has_31 (by decide) ?_
          exact kEndI F hr rfl hlk hP hD hS (Nat.le_of_ble_eq_true rfl) (Nat.le_of_ble_eq_true rfl) dX4_has_35 ⟨_, rfl, ⟨rfl, Or.inr ⟨rfl, c1, by rw [← ex2]; exact Int32.not_le.mp c3, Int32.not_le.mp c4⟩⟩⟩
theorem dX5_isBetween_0 : decode cX5_isBetween 0 = .ok (.iload_n 0, 1) := by decide +kernel
theorem dX5_isBetween_1 : decode cX5_isBetween 1 = .ok (.iload_n 1, 1) := by decide +kernel
theorem dX5_isBetween_2 : decode cX5_isBetween 2 = .ok (.if_icmp .lt 12, 3) := by decide +kernel
theorem dX5_isBetween_5 : decode cX5_isBetween 5 = .ok (.iload_n 0, 1) := by decide +kernel
theorem dX5_isBetween_6 : decode cX5_isBetween 6 = .ok (.iload_n 2, 1) := by decide +kernel
theorem dX5_isBetween_7 : decode cX5_isBetween 7 = .ok (.if_icmp .gt 7, 3) := by decide +kernel
theorem dX5_isBetween_10 : decode cX5_isBetween 10 = .ok (.iconst 1, 1) := by decide +kernel
theorem dX5_isBetween_11 : decode cX5_isBetween 11 = .ok (.goto 4, 3) := by decide +kernel
theorem dX5_isBetween_14 : decode cX5_isBetween 14 = .ok (.iconst 0, 1) := by decide +kernel
theorem dX5_isBetween_15 : decode cX5_isBetween 15 = .ok (.ireturn, 1) := by decide +kernel
set_option maxHeartbeats 4000000 in
set_option maxRecDepth 100000 in
theorem c_X5_isBetween (l : Launch) (hl0 : l.stackTraces = false) (g : kG) (e0 : Nat) (S : wPS) (sz : Nat) (n lo hi : Int32) : kM l g e0 yX5_isBetween cX5_isBetween 3 (some .boolean) 0 0 0 0 [.int n, .int lo, .int hi] S sz (pI (fun r T => T = S ∧ ((r = 1 ∧ ¬ n < lo ∧ ¬ hi < n) ∨ (r = 0 ∧ (n < lo ∨ hi < n))))) (fun E => False) := by
  refine kM.of (by decide) (Nat.le_of_ble_eq_true rfl) ?_
  intro p e s m below meth c ls B hin
  obtain ⟨F, hr, hlk, hte, hP, hK, hD, hE, hS, hA, hl, hsz⟩ := B
  subst hsz
  have hx := F.1
  have hb := F.2.1
  have hl : lv_has ls 3 [(0, .int n), (1, .int lo), (2, .int hi)] := hl
  refine lv_iload_n hx hb dX5_isBetween_0 rfl (lv_at hl 0 rfl) ?_
  refine lv_iload_n hx hb dX5_isBetween_1 rfl (lv_at hl 1 rfl) ?_
  refine lv_icmp_lt (tgt := 14) hx hb dX5_isBetween_2 (by decide) (fun c1 => ?_) (fun c1 => ?_)
  · refine lv_iconst (v := 0) hx hb dX5_isBetween_14 (by decide) ?_
    exact kEndI F hr rfl hlk hP hD hS (Nat.le_of_ble_eq_true rfl) (Nat.le_of_ble_eq_true rfl) dX5_isBetween_15 ⟨_, rfl, ⟨rfl, Or.inr ⟨rfl, Or.inl c1⟩⟩⟩
  · refine lv_iload_n hx hb dX5_isBetween_5 rfl (lv_at hl 0 rfl) ?_
    refine lv_iload_n hx hb dX5_isBetween_6 rfl (lv_at hl 2 rfl) ?_
    refine lv_icmp_gt (tgt := 14) hx hb dX5_isBetween_7 (by decide) (fun c2 => ?_) (fun c2 => ?_)
    · refine lv_iconst (v := 0) hx hb dX5_isBetween_14 (by decide) ?_
      exact kEndI F hr rfl hlk hP hD hS (Nat.le_of_ble_eq_true rfl) (Nat.le_of_ble_eq_true rfl) dX5_isBetween_15 ⟨_, rfl, ⟨rfl, Or.inr ⟨rfl, Or.inr c2⟩⟩⟩
    · refine lv_iconst (v := 1) hx hb dX5_isBetween_10 (by decide) ?_
      refine lv_goto (tgt := 15) hx hb dX5_isBetween_11 (by decide) ?_
      exact kEndI F hr rfl hlk hP hD hS (Nat.le_of_ble_eq_true rfl) (Nat.le_of_ble_eq_true rfl) dX5_isBetween_15 ⟨_, rfl, ⟨rfl, Or.inl ⟨rfl, c1, c2⟩⟩⟩
theorem dX5_isAisle_0 : decode cX5_isAisle 0 = .ok (.iload_n 1, 1) := by decide +kernel
theorem dX5_isAisle_1 : decode cX5_isAisle 1 = .ok (.ifCond .lt 16, 3) := by decide +kernel
theorem dX5_isAisle_4 : decode cX5_isAisle 4 = .ok (.iload_n 1, 1) := by decide +kernel
theorem dX5_isAisle_5 : decode cX5_isAisle 5 = .ok (.aload_n 0, 1) := by decide +kernel
theorem dX5_isAisle_6 : decode cX5_isAisle 6 = .ok (.getfield 11, 3) := by decide +kernel
theorem dX5_isAisle_9 : decode cX5_isAisle 9 = .ok (.arraylength, 1) := by decide +kernel
theorem dX5_isAisle_10 : decode cX5_isAisle 10 = .ok (.if_icmp .ge 7, 3) := by decide +kernel
theorem dX5_isAisle_13 : decode cX5_isAisle 13 = .ok (.iconst 1, 1) := by decide +kernel
theorem dX5_isAisle_14 : decode cX5_isAisle 14 = .ok (.goto 4, 3) := by decide +kernel
theorem dX5_isAisle_17 : decode cX5_isAisle 17 = .ok (.iconst 0, 1) := by decide +kernel
theorem dX5_isAisle_18 : decode cX5_isAisle 18 = .ok (.ireturn, 1) := by decide +kernel
set_option maxHeartbeats 4000000 in
set_option maxRecDepth 100000 in
theorem c_X5_isAisle (l : Launch) (hl0 : l.stackTraces = false) (g : kG) (e0 : Nat) (z : Nat → Nat) (S : wPS) (sz : Nat) (hI : Inv z e0 S) (n : Int32) : kM l g e0 yX5_isAisle cX5_isAisle 2 (some .boolean) 0 0 0 0 [.ref (z 0), .int n] S sz (pI (fun r T => T = S ∧ ((r = 1 ∧ ¬ n < 0 ∧ ¬ 4 ≤ n) ∨ (r = 0 ∧ (n < 0 ∨ 4 ≤ n))))) (fun E => False) := by
  refine kM.of (by decide) (Nat.le_of_ble_eq_true rfl) ?_
  intro p e s m below meth c ls B hin
  obtain ⟨F, hr, hlk, hte, hP, hK, hD, hE, hS, hA, hl, hsz⟩ := B
  subst hsz
  have hx := F.1
  have hb := F.2.1
  have hl : lv_has ls 2 [(0, .ref (z 0)), (1, .int n)] := hl
  refine lv_iload_n hx hb dX5_isAisle_0 rfl (lv_at hl 1 rfl) ?_
  refine lv_if_lt (tgt := 17) hx hb dX5_isAisle_1 (by decide) (fun c1 => ?_) (fun c1 => ?_)
  · refine lv_iconst (v := 0) hx hb dX5_isAisle_17 (by decide) ?_
    exact kEndI F hr rfl hlk hP hD hS (Nat.le_of_ble_eq_true rfl) (Nat.le_of_ble_eq_true rfl) dX5_isAisle_18 ⟨_, rfl, ⟨rfl, Or.inr ⟨rfl, Or.inl c1⟩⟩⟩
  · refine lv_iload_n hx hb dX5_isAisle_4 rfl (lv_at hl 1 rfl) ?_
    refine lv_aload_n hx hb dX5_isAisle_5 rfl (lv_at hl 0 rfl) ?_
    refine rs_Pickwave_aisles (b := z 1) F hK hP (hI.1.1 0 (by decide)) hI.2.1.1 kw_15 dX5_isAisle_6 ?_
    refine rl_Aisle (v := 4) F hK hP (hI.1.1 1 (by decide)) (congrArg Int32.ofNat (show pN S (z 1) = 4 from hI.2.2.1.1)) dX5_isAisle_9 ?_
    refine lv_icmp_ge (tgt := 17) hx hb dX5_isAisle_10 (by decide) (fun c2 => ?_) (fun c2 => ?_)
    · refine lv_iconst (v := 0) hx hb dX5_isAisle_17 (by decide) ?_
      exact kEndI F hr rfl hlk hP hD hS (Nat.le_of_ble_eq_true rfl) (Nat.le_of_ble_eq_true rfl) dX5_isAisle_18 ⟨_, rfl, ⟨rfl, Or.inr ⟨rfl, Or.inr c2⟩⟩⟩
    · refine lv_iconst (v := 1) hx hb dX5_isAisle_13 (by decide) ?_
      refine lv_goto (tgt := 18) hx hb dX5_isAisle_14 (by decide) ?_
      exact kEndI F hr rfl hlk hP hD hS (Nat.le_of_ble_eq_true rfl) (Nat.le_of_ble_eq_true rfl) dX5_isAisle_18 ⟨_, rfl, ⟨rfl, Or.inl ⟨rfl, c1, c2⟩⟩⟩
theorem dX5_isCarrier_0 : decode cX5_isCarrier 0 = .ok (.iload_n 1, 1) := by decide +kernel
theorem dX5_isCarrier_1 : decode cX5_isCarrier 1 = .ok (.ifCond .lt 16, 3) := by decide +kernel
theorem dX5_isCarrier_4 : decode cX5_isCarrier 4 = .ok (.iload_n 1, 1) := by decide +kernel
theorem dX5_isCarrier_5 : decode cX5_isCarrier 5 = .ok (.aload_n 0, 1) := by decide +kernel
theorem dX5_isCarrier_6 : decode cX5_isCarrier 6 = .ok (.getfield 18, 3) := by decide +kernel
theorem dX5_isCarrier_9 : decode cX5_isCarrier 9 = .ok (.arraylength, 1) := by decide +kernel
theorem dX5_isCarrier_10 : decode cX5_isCarrier 10 = .ok (.if_icmp .ge 7, 3) := by decide +kernel
theorem dX5_isCarrier_13 : decode cX5_isCarrier 13 = .ok (.iconst 1, 1) := by decide +kernel
theorem dX5_isCarrier_14 : decode cX5_isCarrier 14 = .ok (.goto 4, 3) := by decide +kernel
theorem dX5_isCarrier_17 : decode cX5_isCarrier 17 = .ok (.iconst 0, 1) := by decide +kernel
theorem dX5_isCarrier_18 : decode cX5_isCarrier 18 = .ok (.ireturn, 1) := by decide +kernel
set_option maxHeartbeats 4000000 in
set_option maxRecDepth 100000 in
theorem c_X5_isCarrier (l : Launch) (hl0 : l.stackTraces = false) (g : kG) (e0 : Nat) (z : Nat → Nat) (S : wPS) (sz : Nat) (hI : Inv z e0 S) (n : Int32) : kM l g e0 yX5_isCarrier cX5_isCarrier 2 (some .boolean) 0 0 0 0 [.ref (z 0), .int n] S sz (pI (fun r T => T = S ∧ ((r = 1 ∧ ¬ n < 0 ∧ ¬ 3 ≤ n) ∨ (r = 0 ∧ (n < 0 ∨ 3 ≤ n))))) (fun E => False) := by
  refine kM.of (by decide) (Nat.le_of_ble_eq_true rfl) ?_
  intro p e s m below meth c ls B hin
  obtain ⟨F, hr, hlk, hte, hP, hK, hD, hE, hS, hA, hl, hsz⟩ := B
  subst hsz
  have hx := F.1
  have hb := F.2.1
  have hl : lv_has ls 2 [(0, .ref (z 0)), (1, .int n)] := hl
  refine lv_iload_n hx hb dX5_isCarrier_0 rfl (lv_at hl 1 rfl) ?_
  refine lv_if_lt (tgt := 17) hx hb dX5_isCarrier_1 (by decide) (fun c1 => ?_) (fun c1 => ?_)
  · refine lv_iconst (v := 0) hx hb dX5_isCarrier_17 (by decide) ?_
    exact kEndI F hr rfl hlk hP hD hS (Nat.le_of_ble_eq_true rfl) (Nat.le_of_ble_eq_true rfl) dX5_isCarrier_18 ⟨_, rfl, ⟨rfl, Or.inr ⟨rfl, Or.inl c1⟩⟩⟩
  · refine lv_iload_n hx hb dX5_isCarrier_4 rfl (lv_at hl 1 rfl) ?_
    refine lv_aload_n hx hb dX5_isCarrier_5 rfl (lv_at hl 0 rfl) ?_
    refine rs_Pickwave_cutOffs (b := z 6) F hK hP (hI.1.1 0 (by decide)) hI.2.1.2.1 kw_19 dX5_isCarrier_6 ?_
    refine rl_I (v := 3) F hK hP (hI.1.1 6 (by decide)) (congrArg Int32.ofNat (show pN S (z 6) = 3 from hI.2.2.1.2.2.1)) dX5_isCarrier_9 ?_
    refine lv_icmp_ge (tgt := 17) hx hb dX5_isCarrier_10 (by decide) (fun c2 => ?_) (fun c2 => ?_)
    · refine lv_iconst (v := 0) hx hb dX5_isCarrier_17 (by decide) ?_
      exact kEndI F hr rfl hlk hP hD hS (Nat.le_of_ble_eq_true rfl) (Nat.le_of_ble_eq_true rfl) dX5_isCarrier_18 ⟨_, rfl, ⟨rfl, Or.inr ⟨rfl, Or.inr c2⟩⟩⟩
    · refine lv_iconst (v := 1) hx hb dX5_isCarrier_13 (by decide) ?_
      refine lv_goto (tgt := 18) hx hb dX5_isCarrier_14 (by decide) ?_
      exact kEndI F hr rfl hlk hP hD hS (Nat.le_of_ble_eq_true rfl) (Nat.le_of_ble_eq_true rfl) dX5_isCarrier_18 ⟨_, rfl, ⟨rfl, Or.inl ⟨rfl, c1, c2⟩⟩⟩
theorem dX5_stateAfter_0 : decode cX5_stateAfter 0 = .ok (.iload_n 0, 1) := by decide +kernel
theorem dX5_stateAfter_1 : decode cX5_stateAfter 1 = .ok (.bipush 110, 2) := by decide +kernel
theorem dX5_stateAfter_3 : decode cX5_stateAfter 3 = .ok (.if_icmp .eq 9, 3) := by decide +kernel
theorem dX5_stateAfter_6 : decode cX5_stateAfter 6 = .ok (.iload_n 0, 1) := by decide +kernel
theorem dX5_stateAfter_7 : decode cX5_stateAfter 7 = .ok (.bipush 117, 2) := by decide +kernel
theorem dX5_stateAfter_9 : decode cX5_stateAfter 9 = .ok (.if_icmp .ne 8, 3) := by decide +kernel
theorem dX5_stateAfter_12 : decode cX5_stateAfter 12 = .ok (.bipush 111, 2) := by decide +kernel
theorem dX5_stateAfter_14 : decode cX5_stateAfter 14 = .ok (.goto 4, 3) := by decide +kernel
theorem dX5_stateAfter_17 : decode cX5_stateAfter 17 = .ok (.iload_n 0, 1) := by decide +kernel
theorem dX5_stateAfter_18 : decode cX5_stateAfter 18 = .ok (.ireturn, 1) := by decide +kernel
set_option maxHeartbeats 4000000 in
set_option maxRecDepth 100000 in
theorem c_X5_stateAfter (l : Launch) (hl0 : l.stackTraces = false) (g : kG) (e0 : Nat) (S : wPS) (sz : Nat) (sg : Int32) (hsg : kCh sg) : kM l g e0 yX5_stateAfter cX5_stateAfter 1 (some .char) 0 0 0 0 [.int sg] S sz (pI (fun r T => T = S ∧ kCh r)) (fun E => False) := by
  refine kM.of (by decide) (Nat.le_of_ble_eq_true rfl) ?_
  intro p e s m below meth c ls B hin
  obtain ⟨F, hr, hlk, hte, hP, hK, hD, hE, hS, hA, hl, hsz⟩ := B
  subst hsz
  have hx := F.1
  have hb := F.2.1
  have hl : lv_has ls 1 [(0, .int sg)] := hl
  refine lv_iload_n hx hb dX5_stateAfter_0 rfl (lv_at hl 0 rfl) ?_
  refine lv_bipush (v := 110) hx hb dX5_stateAfter_1 (by decide) ?_
  refine lv_icmp_eq (tgt := 12) hx hb dX5_stateAfter_3 (by decide) (fun c1 => ?_) (fun c1 => ?_)
  · refine lv_bipush (v := 111) hx hb dX5_stateAfter_12 (by decide) ?_
    refine lv_goto (tgt := 18) hx hb dX5_stateAfter_14 (by decide) ?_
    exact kEndI F hr rfl hlk hP hD hS (Nat.le_of_ble_eq_true rfl) (Nat.le_of_ble_eq_true rfl) dX5_stateAfter_18 ⟨_, rfl, ⟨rfl, rfl, rfl⟩⟩
  · refine lv_iload_n hx hb dX5_stateAfter_6 rfl (lv_at hl 0 rfl) ?_
    refine lv_bipush (v := 117) hx hb dX5_stateAfter_7 (by decide) ?_
    refine lv_icmp_ne (tgt := 17) hx hb dX5_stateAfter_9 (by decide) (fun c2 => ?_) (fun c2 => ?_)
    · refine lv_iload_n hx hb dX5_stateAfter_17 rfl (lv_at hl 0 rfl) ?_
      exact kEndI F hr hsg.1 hlk hP hD hS (Nat.le_of_ble_eq_true rfl) (Nat.le_of_ble_eq_true rfl) dX5_stateAfter_18 ⟨_, rfl, ⟨rfl, hsg⟩⟩
    · refine lv_bipush (v := 111) hx hb dX5_stateAfter_12 (by decide) ?_
      refine lv_goto (tgt := 18) hx hb dX5_stateAfter_14 (by decide) ?_
      exact kEndI F hr rfl hlk hP hD hS (Nat.le_of_ble_eq_true rfl) (Nat.le_of_ble_eq_true rfl) dX5_stateAfter_18 ⟨_, rfl, ⟨rfl, rfl, rfl⟩⟩
theorem dX4_lastSignOf_0 : decode cX4_lastSignOf 0 = .ok (.bipush 110, 2) := by decide +kernel
theorem dX4_lastSignOf_2 : decode cX4_lastSignOf 2 = .ok (.istore_n 2, 1) := by decide +kernel
theorem dX4_lastSignOf_3 : decode cX4_lastSignOf 3 = .ok (.aload_n 0, 1) := by decide +kernel
theorem dX4_lastSignOf_4 : decode cX4_lastSignOf 4 = .ok (.getfield 19, 3) := by decide +kernel
theorem dX4_lastSignOf_7 : decode cX4_lastSignOf 7 = .ok (.aload_n 0, 1) := by decide +kernel
theorem dX4_lastSignOf_8 : decode cX4_lastSignOf 8 = .ok (.getfield 9, 3) := by decide +kernel
theorem dX4_lastSignOf_11 : decode cX4_lastSignOf 11 = .ok (.arraylength, 1) := by decide +kernel
theorem dX4_lastSignOf_12 : decode cX4_lastSignOf 12 = .ok (.aload_n 0, 1) := by decide +kernel
theorem dX4_lastSignOf_13 : decode cX4_lastSignOf 13 = .ok (.getfield 15, 3) := by decide +kernel
theorem dX4_lastSignOf_16 : decode cX4_lastSignOf 16 = .ok (.arraylength, 1) := by decide +kernel
theorem dX4_lastSignOf_17 : decode cX4_lastSignOf 17 = .ok (.invokestatic 23, 3) := by decide +kernel
theorem dX4_lastSignOf_20 : decode cX4_lastSignOf 20 = .ok (.invokestatic 23, 3) := by decide +kernel
theorem dX4_lastSignOf_23 : decode cX4_lastSignOf 23 = .ok (.istore_n 3, 1) := by decide +kernel
theorem dX4_lastSignOf_24 : decode cX4_lastSignOf 24 = .ok (.iconst 0, 1) := by decide +kernel
theorem dX4_lastSignOf_25 : decode cX4_lastSignOf 25 = .ok (.istore 4, 2) := by decide +kernel
theorem dX4_lastSignOf_27 : decode cX4_lastSignOf 27 = .ok (.iload 4, 2) := by decide +kernel
theorem dX4_lastSignOf_29 : decode cX4_lastSignOf 29 = .ok (.iload_n 3, 1) := by decide +kernel
theorem dX4_lastSignOf_30 : decode cX4_lastSignOf 30 = .ok (.if_icmp .ge 28, 3) := by decide +kernel
theorem dX4_lastSignOf_33 : decode cX4_lastSignOf 33 = .ok (.aload_n 0, 1) := by decide +kernel
theorem dX4_lastSignOf_34 : decode cX4_lastSignOf 34 = .ok (.getfield 9, 3) := by decide +kernel
theorem dX4_lastSignOf_37 : decode cX4_lastSignOf 37 = .ok (.iload 4, 2) := by decide +kernel
theorem dX4_lastSignOf_39 : decode cX4_lastSignOf 39 = .ok (.iaload, 1) := by decide +kernel
theorem dX4_lastSignOf_40 : decode cX4_lastSignOf 40 = .ok (.iload_n 1, 1) := by decide +kernel
theorem dX4_lastSignOf_41 : decode cX4_lastSignOf 41 = .ok (.if_icmp .ne 11, 3) := by decide +kernel
theorem dX4_lastSignOf_44 : decode cX4_lastSignOf 44 = .ok (.aload_n 0, 1) := by decide +kernel
theorem dX4_lastSignOf_45 : decode cX4_lastSignOf 45 = .ok (.getfield 15, 3) := by decide +kernel
theorem dX4_lastSignOf_48 : decode cX4_lastSignOf 48 = .ok (.iload 4, 2) := by decide +kernel
theorem dX4_lastSignOf_50 : decode cX4_lastSignOf 50 = .ok (.caload, 1) := by decide +kernel
theorem dX4_lastSignOf_51 : decode cX4_lastSignOf 51 = .ok (.istore_n 2, 1) := by decide +kernel
theorem dX4_lastSignOf_52 : decode cX4_lastSignOf 52 = .ok (.iinc 4 1, 3) := by decide +kernel
theorem dX4_lastSignOf_55 : decode cX4_lastSignOf 55 = .ok (.goto (-28), 3) := by decide +kernel
theorem dX4_lastSignOf_58 : decode cX4_lastSignOf 58 = .ok (.iload_n 2, 1) := by decide +kernel
theorem dX4_lastSignOf_59 : decode cX4_lastSignOf 59 = .ok (.ireturn, 1) := by decide +kernel
set_option maxHeartbeats 4000000 in
set_option maxRecDepth 100000 in
theorem c_X4_lastSignOf (l : Launch) (hl0 : l.stackTraces = false) (g : kG) (e0 : Nat) (z : Nat → Nat) (S : wPS) (sz : Nat) (hI : Inv z e0 S) (n : Int32) : kM l g e0 yX4_lastSignOf cX4_lastSignOf 5 (some .char) 1 14 0 0 [.ref (z 12), .int n] S sz (pI (fun r T => T = S ∧ kCh r)) (fun E => False) := by
  refine kM.of (by decide) (Nat.le_of_ble_eq_true rfl) ?_
  intro p e s m below meth c ls B hin
  obtain ⟨F, hr, hlk, hte, hP, hK, hD, hE, hS, hA, hl, hsz⟩ := B
  subst hsz
  have hx := F.1
  have hb := F.2.1
  have hl : lv_has ls 5 [(0, .ref (z 12)), (1, .int n)] := hl
  refine lv_bipush (v := 110) hx hb dX4_lastSignOf_0 (by decide) ?_
  refine lv_istore_n (lv' := [(2, .int 110), (0, .ref (z 12)), (1, .int n)]) hx hb dX4_lastSignOf_2 rfl hl (by decide) rfl (fun ls hl => ?_)
  refine lv_aload_n hx hb dX4_lastSignOf_3 rfl (lv_at hl 1 rfl) ?_
  refine rg_ScanLog_count F hK hP (hI.1.1 12 (by decide)) kw_299 dX4_lastSignOf_4 ?_
  refine lv_topi (fun x1 ex1 => ?_)
  refine lv_aload_n hx hb dX4_lastSignOf_7 rfl (lv_at hl 1 rfl) ?_
  refine rs_ScanLog_numbers (b := z 13) F hK hP (hI.1.1 12 (by decide)) hI.2.1.2.2.2.2.2.2.1 kw_60 dX4_lastSignOf_8 ?_
  refine rl_I (v := 516) F hK hP (hI.1.1 13 (by decide)) (congrArg Int32.ofNat (show pN S (z 13) = 516 from hI.2.2.1.2.2.2.2.2.1)) dX4_lastSignOf_11 ?_
  refine lv_aload_n hx hb dX4_lastSignOf_12 rfl (lv_at hl 1 rfl) ?_
  refine rs_ScanLog_signs (b := z 14) F hK hP (hI.1.1 12 (by decide)) hI.2.1.2.2.2.2.2.2.2 kw_62 dX4_lastSignOf_13 ?_
  refine rl_C (v := 516) F hK hP (hI.1.1 14 (by decide)) (congrArg Int32.ofNat (show pN S (z 14) = 516 from hI.2.2.1.2.2.2.2.2.2)) dX4_lastSignOf_16 ?_
  refine va_mmin hx hb (by rw [F.2.2.1]; exact hl.1.symm) F.2.2.2.1 (F.2.2.2.2 _ kw_300) (F.2.2.2.2 _ kw_168) (F.2.2.2.2 _ kw_142) (F.2.2.2.2 _ kw_169) (Nat.le_of_ble_eq_true rfl) (Nat.le_of_ble_eq_true rfl) (Nat.le_of_ble_eq_true rfl) (Nat.le_of_ble_eq_true rfl) dX4_lastSignOf_17 ?_
  refine lv_topi (fun x2 ex2 => ?_)
  refine va_mmin hx hb (by rw [F.2.2.1]; exact hl.1.symm) F.2.2.2.1 (F.2.2.2.2 _ kw_300) (F.2.2.2.2 _ kw_168) (F.2.2.2.2 _ kw_142) (F.2.2.2.2 _ kw_169) (Nat.le_of_ble_eq_true rfl) (Nat.le_of_ble_eq_true rfl) (Nat.le_of_ble_eq_true rfl) (Nat.le_of_ble_eq_true rfl) dX4_lastSignOf_20 ?_
  refine lv_topi (fun x3 ex3 => ?_)
  have hx3 : x3 ≤ 516 := kmin516 ex2 ex3
  refine lv_istore_n (lv' := [(3, .int x3), (2, .int 110), (0, .ref (z 12)), (1, .int n)]) hx hb dX4_lastSignOf_23 rfl hl (by decide) rfl (fun ls hl => ?_)
  refine lv_iconst (v := 0) hx hb dX4_lastSignOf_24 (by decide) ?_
  refine lv_istore (lv' := [(4, .int 0), (3, .int x3), (2, .int 110), (0, .ref (z 12)), (1, .int n)]) hx hb dX4_lastSignOf_25 hl (by decide) rfl (fun ls hl => ?_)
  have loop : ∀ (fu : Nat) (i : Nat) (sg xi : Int32) (H : Heap) (locs : List Loc) (ls : Array Slot), va_P (kD g) vwCl (kW g S) H → va_D (kA (pL S) s.heap.size) (kW g S) → va_S (kA (pL S) s.heap.size) s.heap H locs → lv_has ls 5 [(4, .int xi), (3, .int x3), (2, .int sg), (0, .ref (z 12)), (1, .int n)] → 516 - i < fu → (xi = nI i) → (i ≤ 516) → (kCh sg) → W p l e ({ frames := 1, cells := 0, slots := 0, locals := 14 }) s m ([.ref (z 12), .int n] : List Value).toArray below meth c H locs 0 0 (vx_MQ below (kQ g S s.heap.size (pI (fun r T => T = S ∧ kCh r))) (kX g S s.heap.size (fun E => False)) ([.ref (z 12), .int n] : List Value).toArray s 0 0 (kA (pL S) s.heap.size)) (F0 m 27 ls []) := by
    intro fu
    induction fu with
    | zero => intro i sg xi H locs ls hP hD hS hl hn hi hi0 hg; exact absurd hn (Nat.not_lt_zero _)
    | succ fu ih =>
      intro i sg xi H locs ls hP hD hS hl hn hi hi0 hg
      refine lv_iload hx hb dX4_lastSignOf_27 (lv_at hl 0 rfl) ?_
      refine lv_iload_n hx hb dX4_lastSignOf_29 rfl (lv_at hl 1 rfl) ?_
      refine lv_icmp_ge (tgt := 58) hx hb dX4_lastSignOf_30 (by decide) (fun c4 => ?_) (fun c4 => ?_)
      · refine lv_iload_n hx hb dX4_lastSignOf_58 rfl (lv_at hl 2 rfl) ?_
        exact kEndI F hr hg.1 hlk hP hD hS (Nat.le_of_ble_eq_true rfl) (Nat.le_of_ble_eq_true rfl) dX4_lastSignOf_59 ⟨_, rfl, ⟨rfl, hg⟩⟩
      · have hi5 : i < 516 := by
          rcases Nat.lt_or_ge i 516 with q | q
          · exact q
          · exact absurd (by rw [hi, show i = 516 by omega]; exact hx3) c4
        refine lv_aload_n hx hb dX4_lastSignOf_33 rfl (lv_at hl 3 rfl) ?_
        refine rs_ScanLog_numbers (b := z 13) F hK hP (hI.1.1 12 (by decide)) hI.2.1.2.2.2.2.2.2.1 kw_60 dX4_lastSignOf_34 ?_
        refine lv_iload hx hb dX4_lastSignOf_37 (lv_at hl 0 rfl) ?_
        refine rd_I F hK hP (hI.1.1 13 (by decide)) (by rw [hi]; show vp_in (nI i) (pN S (z 13)); rw [show pN S (z 13) = 516 from hI.2.2.1.2.2.2.2.2.1]; exact vp_in_nI hi5 (by decide)) dX4_lastSignOf_39 ?_
        refine lv_topi (fun x5 ex5 => ?_)
        refine lv_iload_n hx hb dX4_lastSignOf_40 rfl (lv_at hl 4 rfl) ?_
        refine lv_icmp_ne (tgt := 52) hx hb dX4_lastSignOf_41 (by decide) (fun c6 => ?_) (fun c6 => ?_)
        · obtain ⟨x7, ex7⟩ : ∃ y : Int32, y = xi + 1 := ⟨_, rfl⟩
          refine lv_iinc (v := x7) (lv' := [(4, .int x7), (3, .int x3), (2, .int sg), (0, .ref (z 12)), (1, .int n)]) hx hb dX4_lastSignOf_52 hl (k := 0) rfl (by rw [ex7]; rfl) (by decide) rfl (fun ls hl => ?_)
          refine lv_goto (tgt := 27) hx hb dX4_lastSignOf_55 (by decide) ?_
          exact ih (i + 1) sg x7 H locs ls hP hD hS (lv_sub hl [0, 1, 2, 3, 4] rfl) (by omega) (by rw [ex7, hi]; exact nI_1 i) hi5 hg
        · refine lv_aload_n hx hb dX4_lastSignOf_44 rfl (lv_at hl 3 rfl) ?_
          refine rs_ScanLog_signs (b := z 14) F hK hP (hI.1.1 12 (by decide)) hI.2.1.2.2.2.2.2.2.2 kw_62 dX4_lastSignOf_45 ?_
          refine lv_iload hx hb dX4_lastSignOf_48 (lv_at hl 0 rfl) ?_
          refine rd_C F hK hP (hI.1.1 14 (by decide)) (by rw [hi]; show vp_in (nI i) (pN S (z 14)); rw [show pN S (z 14) = 516 from hI.2.2.1.2.2.2.2.2.2]; exact vp_in_nI hi5 (by decide)) dX4_lastSignOf_50 ?_
          refine lv_topi (fun x8 ex8 => ?_)
          have hg2 : kCh x8 := by rw [ex8]; exact hI.sg _
          refine lv_istore_n (lv' := [(2, .int x8), (4, .int xi), (3, .int x3), (0, .ref (z 12)), (1, .int n)]) hx hb dX4_lastSignOf_51 rfl hl (by decide) rfl (fun ls hl => ?_)
          obtain ⟨x9, ex9⟩ : ∃ y : Int32, y = xi + 1 := ⟨_, rfl⟩
          refine lv_iinc (v := x9) (lv' := [(4, .int x9), (2, .int x8), (3, .int x3), (0, .ref (z 12)), (1, .int n)]) hx hb dX4_lastSignOf_52 hl (k := 1) rfl (by rw [ex9]; rfl) (by decide) rfl (fun ls hl => ?_)
          refine lv_goto (tgt := 27) hx hb dX4_lastSignOf_55 (by decide) ?_
          exact ih (i + 1) x8 x9 H locs ls hP hD hS (lv_sub hl [0, 2, 1, 3, 4] rfl) (by omega) (by rw [ex9, hi]; exact nI_1 i) hi5 hg2
  exact loop 517 0 110 0 _ _ _ hP hD hS (lv_sub hl [0, 1, 2, 3, 4] rfl) (by decide) rfl (by decide) ⟨rfl, rfl⟩
end
section
theorem dJx4a65c_size_8abf5_0 : decode cJx4a65c_size_8abf5 0 = .ok (.aload_n 0, 1) := by decide +kernel
theorem dJx4a65c_size_8abf5_1 : decode cJx4a65c_size_8abf5 1 = .ok (.getfield 48, 3) := by decide +kernel
theorem dJx4a65c_size_8abf5_4 : decode cJx4a65c_size_8abf5 4 = .ok (.ireturn, 1) := by decide +kernel
set_option maxHeartbeats 4000000 in
set_option maxRecDepth 100000 in
theorem c_Jx4a65c_size_8abf5 (l : Launch) (hl0 : l.stackTraces = false) (g : kG) (e0 : Nat) (S : wPS) (sz : Nat) (q : Nat) (oq : Ob S 7 q) : kM l g e0 yJx4a65c_size_8abf5 cJx4a65c_size_8abf5 1 (some .int) 0 0 0 0 [.ref q] S sz (pI (fun r T => T = S ∧ r = pF S 72 q)) (fun E => False) := by
  refine kM.of (by decide) (Nat.le_of_ble_eq_true rfl) ?_
  intro p e s m below meth c ls B hin
  obtain ⟨F, hr, hlk, hte, hP, hK, hD, hE, hS, hA, hl, hsz⟩ := B
  subst hsz
  have hx := F.1
  have hb := F.2.1
  have hl : lv_has ls 1 [(0, .ref q)] := hl
  refine lv_aload_n hx hb dJx4a65c_size_8abf5_0 rfl (lv_at hl 0 rfl) ?_
  refine rg_ArrayList_size F hK hP oq kw_113 dJx4a65c_size_8abf5_1 ?_
  refine lv_topi (fun x1 ex1 => ?_)
  exact kEndI F hr rfl hlk hP hD hS (Nat.le_of_ble_eq_true rfl) (Nat.le_of_ble_eq_true rfl) dJx4a65c_size_8abf5_4 ⟨_, rfl, ⟨rfl, ex1⟩⟩
theorem dJ3_checkIndex_8e157_0 : decode cJ3_checkIndex_8e157 0 = .ok (.iload_n 0, 1) := by decide +kernel
theorem dJ3_checkIndex_8e157_1 : decode cJ3_checkIndex_8e157 1 = .ok (.ifCond .lt 8, 3) := by decide +kernel
theorem dJ3_checkIndex_8e157_4 : decode cJ3_checkIndex_8e157 4 = .ok (.iload_n 0, 1) := by decide +kernel
theorem dJ3_checkIndex_8e157_5 : decode cJ3_checkIndex_8e157 5 = .ok (.iload_n 1, 1) := by decide +kernel
theorem dJ3_checkIndex_8e157_6 : decode cJ3_checkIndex_8e157 6 = .ok (.if_icmp .lt 10, 3) := by decide +kernel
theorem dJ3_checkIndex_8e157_9 : decode cJ3_checkIndex_8e157 9 = .ok (.aload_n 2, 1) := by decide +kernel
theorem dJ3_checkIndex_8e157_10 : decode cJ3_checkIndex_8e157 10 = .ok (.iload_n 0, 1) := by decide +kernel
theorem dJ3_checkIndex_8e157_11 : decode cJ3_checkIndex_8e157 11 = .ok (.iload_n 1, 1) := by decide +kernel
theorem dJ3_checkIndex_8e157_12 : decode cJ3_checkIndex_8e157 12 = .ok (.invokestatic 95, 3) := by decide +kernel
theorem dJ3_checkIndex_8e157_15 : decode cJ3_checkIndex_8e157 15 = .ok (.athrow, 1) := by decide +kernel
theorem dJ3_checkIndex_8e157_16 : decode cJ3_checkIndex_8e157 16 = .ok (.iload_n 0, 1) := by decide +kernel
theorem dJ3_checkIndex_8e157_17 : decode cJ3_checkIndex_8e157 17 = .ok (.ireturn, 1) := by decide +kernel
set_option maxHeartbeats 4000000 in
set_option maxRecDepth 100000 in
theorem c_J3_checkIndex_8e157 (l : Launch) (hl0 : l.stackTraces = false) (g : kG) (e0 : Nat) (S : wPS) (sz : Nat) (i n : Int32) (h0 : ¬ i < 0) (h1 : i < n) : kM l g e0 yJ3_checkIndex_8e157 cJ3_checkIndex_8e157 3 (some .int) 0 0 0 0 [.int i, .int n, .null] S sz (pI (fun r T => T = S ∧ r = i)) (fun E => False) := by
  refine kM.of (by decide) (Nat.le_of_ble_eq_true rfl) ?_
  intro p e s m below meth c ls B hin
  obtain ⟨F, hr, hlk, hte, hP, hK, hD, hE, hS, hA, hl, hsz⟩ := B
  subst hsz
  have hx := F.1
  have hb := F.2.1
  have hl : lv_has ls 3 [(0, .int i), (1, .int n), (2, .null)] := hl
  refine lv_iload_n hx hb dJ3_checkIndex_8e157_0 rfl (lv_at hl 0 rfl) ?_
  refine lv_if_lt (tgt := 9) hx hb dJ3_checkIndex_8e157_1 (by decide) (fun c1 => ?_) (fun c1 => ?_)
  · exact absurd c1 h0
  · refine lv_iload_n hx hb dJ3_checkIndex_8e157_4 rfl (lv_at hl 0 rfl) ?_
    refine lv_iload_n hx hb dJ3_checkIndex_8e157_5 rfl (lv_at hl 1 rfl) ?_
    refine lv_icmp_lt (tgt := 16) hx hb dJ3_checkIndex_8e157_6 (by decide) (fun c2 => ?_) (fun c2 => ?_)
    · refine lv_iload_n hx hb dJ3_checkIndex_8e157_16 rfl (lv_at hl 0 rfl) ?_
      exact kEndI F hr rfl hlk hP hD hS (Nat.le_of_ble_eq_true rfl) (Nat.le_of_ble_eq_true rfl) dJ3_checkIndex_8e157_17 ⟨_, rfl, ⟨rfl, rfl⟩⟩
    · exact absurd h1 c2
theorem dJ15_checkIndex_7cf53_0 : decode cJ15_checkIndex_7cf53 0 = .ok (.iload_n 0, 1) := by decide +kernel
theorem dJ15_checkIndex_7cf53_1 : decode cJ15_checkIndex_7cf53 1 = .ok (.iload_n 1, 1) := by decide +kernel
theorem dJ15_checkIndex_7cf53_2 : decode cJ15_checkIndex_7cf53 2 = .ok (.aconst_null, 1) := by decide +kernel
theorem dJ15_checkIndex_7cf53_3 : decode cJ15_checkIndex_7cf53 3 = .ok (.invokestatic 105, 3) := by decide +kernel
theorem dJ15_checkIndex_7cf53_6 : decode cJ15_checkIndex_7cf53 6 = .ok (.ireturn, 1) := by decide +kernel
set_option maxHeartbeats 4000000 in
set_option maxRecDepth 100000 in
theorem c_J15_checkIndex_7cf53 (l : Launch) (hl0 : l.stackTraces = false) (g : kG) (e0 : Nat) (S : wPS) (sz : Nat) (i n : Int32) (h0 : ¬ i < 0) (h1 : i < n) : kM l g e0 yJ15_checkIndex_7cf53 cJ15_checkIndex_7cf53 2 (some .int) 1 22 0 0 [.int i, .int n] S sz (pI (fun r T => T = S ∧ r = i)) (fun E => False) := by
  refine kM.of (by decide) (Nat.le_of_ble_eq_true rfl) ?_
  intro p e s m below meth c ls B hin
  obtain ⟨F, hr, hlk, hte, hP, hK, hD, hE, hS, hA, hl, hsz⟩ := B
  subst hsz
  have hx := F.1
  have hb := F.2.1
  have hl : lv_has ls 2 [(0, .int i), (1, .int n)] := hl
  refine lv_iload_n hx hb dJ15_checkIndex_7cf53_0 rfl (lv_at hl 0 rfl) ?_
  refine lv_iload_n hx hb dJ15_checkIndex_7cf53_1 rfl (lv_at hl 1 rfl) ?_
  refine lv_null hx hb dJ15_checkIndex_7cf53_2 ?_
  refine kcallI (kSt (n := 3) (As := [.int i, .int n, .null]) (rest := []) F hE hK hP hD hS hA (c_J3_checkIndex_8e157 l hl0 g e0 S _ i n h0 h1) kw_215 kw_216 kw_217 kw_218 (by decide +kernel) ⟨Nat.le_of_ble_eq_true rfl, Nat.le_of_ble_eq_true rfl⟩ rfl hl.1 rfl (Nat.le_of_ble_eq_true rfl) dJ15_checkIndex_7cf53_3 ⟨Nat.le_of_ble_eq_true rfl, Nat.le_of_ble_eq_true rfl⟩) rfl hD hS hA (fun _ _ _ _ _ h => False.elim h) (fun r1 T1 H locs hp hP hD hS => ?_)
  obtain ⟨hT, hp2⟩ := hp
  have hT := hT.symm
  subst hT
  exact kEndI F hr rfl hlk hP hD hS (Nat.le_of_ble_eq_true rfl) (Nat.le_of_ble_eq_true rfl) dJ15_checkIndex_7cf53_6 ⟨_, rfl, ⟨rfl, hp2⟩⟩
theorem dJx4a65c_elementData_915e3_0 : decode cJx4a65c_elementData_915e3 0 = .ok (.aload_n 0, 1) := by decide +kernel
theorem dJx4a65c_elementData_915e3_1 : decode cJx4a65c_elementData_915e3 1 = .ok (.getfield 9, 3) := by decide +kernel
theorem dJx4a65c_elementData_915e3_4 : decode cJx4a65c_elementData_915e3 4 = .ok (.iload_n 1, 1) := by decide +kernel
theorem dJx4a65c_elementData_915e3_5 : decode cJx4a65c_elementData_915e3 5 = .ok (.aaload, 1) := by decide +kernel
theorem dJx4a65c_elementData_915e3_6 : decode cJx4a65c_elementData_915e3 6 = .ok (.areturn, 1) := by decide +kernel
set_option maxHeartbeats 4000000 in
set_option maxRecDepth 100000 in
theorem c_Jx4a65c_elementData_915e3 (l : Launch) (hl0 : l.stackTraces = false) (g : kG) (e0 : Nat) (S : wPS) (sz : Nat) (q d x : Nat) (i : Int32) (oq : Ob S 7 q) (hd : pG S 71 q = some d) (od : Ob S 13 d) (hi : vp_in i (pN S d)) (hx9 : pY S d i.toNatClampNeg = some x) : kM l g e0 yJx4a65c_elementData_915e3 cJx4a65c_elementData_915e3 2 (some (.object "java/lang/Object")) 0 0 0 0 [.ref q, .int i] S sz (pR (fun b T => T = S ∧ b = x)) (fun E => False) := by
  refine kM.of (by decide) (Nat.le_of_ble_eq_true rfl) ?_
  intro p e s m below meth c ls B hin
  obtain ⟨F, hr, hlk, hte, hP, hK, hD, hE, hS, hA, hl, hsz⟩ := B
  subst hsz
  have hx := F.1
  have hb := F.2.1
  have hl : lv_has ls 2 [(0, .ref q), (1, .int i)] := hl
  refine lv_aload_n hx hb dJx4a65c_elementData_915e3_0 rfl (lv_at hl 0 rfl) ?_
  refine rs_ArrayList_elementData (b := d) F hK hP oq hd kw_45 dJx4a65c_elementData_915e3_1 ?_
  refine lv_iload_n hx hb dJx4a65c_elementData_915e3_4 rfl (lv_at hl 1 rfl) ?_
  refine rds_Object (b := x) F hK hP od hi hx9 dJx4a65c_elementData_915e3_5 ?_
  exact kEndR F hr (Or.inl ⟨_, rfl⟩) (Or.inr ⟨_, rfl⟩) hlk hP hD hS (Nat.le_of_ble_eq_true rfl) (Nat.le_of_ble_eq_true rfl) dJx4a65c_elementData_915e3_6 ⟨_, rfl, ⟨rfl, rfl⟩⟩
theorem dJx4a65c_get_915e3_0 : decode cJx4a65c_get_915e3 0 = .ok (.iload_n 1, 1) := by decide +kernel
theorem dJx4a65c_get_915e3_1 : decode cJx4a65c_get_915e3 1 = .ok (.aload_n 0, 1) := by decide +kernel
theorem dJx4a65c_get_915e3_2 : decode cJx4a65c_get_915e3 2 = .ok (.getfield 48, 3) := by decide +kernel
theorem dJx4a65c_get_915e3_5 : decode cJx4a65c_get_915e3 5 = .ok (.invokestatic 118, 3) := by decide +kernel
theorem dJx4a65c_get_915e3_8 : decode cJx4a65c_get_915e3 8 = .ok (.pop, 1) := by decide +kernel
theorem dJx4a65c_get_915e3_9 : decode cJx4a65c_get_915e3 9 = .ok (.aload_n 0, 1) := by decide +kernel
theorem dJx4a65c_get_915e3_10 : decode cJx4a65c_get_915e3 10 = .ok (.iload_n 1, 1) := by decide +kernel
theorem dJx4a65c_get_915e3_11 : decode cJx4a65c_get_915e3 11 = .ok (.invokevirtual 123, 3) := by decide +kernel
theorem dJx4a65c_get_915e3_14 : decode cJx4a65c_get_915e3 14 = .ok (.areturn, 1) := by decide +kernel
set_option maxHeartbeats 4000000 in
set_option maxRecDepth 100000 in
theorem c_Jx4a65c_get_915e3 (l : Launch) (hl0 : l.stackTraces = false) (g : kG) (e0 : Nat) (S : wPS) (sz : Nat) (q kd n : Nat) (i : Int32) (oq : Ob S 7 q) (hL : LI S e0 q kd n) (h0 : ¬ i < 0) (h1 : i < pF S 72 q) (hn : n < 2 ^ 20) : kM l g e0 yJx4a65c_get_915e3 cJx4a65c_get_915e3 2 (some (.object "java/lang/Object")) 2 43 0 0 [.ref q, .int i] S sz (pR (fun b T => T = S ∧ Ob S kd b ∧ ∃ d, pG S 71 q = some d ∧ pY S d i.toNatClampNeg = some b)) (fun E => False) := by
  refine kM.of (by decide) (Nat.le_of_ble_eq_true rfl) ?_
  intro p e s m below meth c ls B hin
  obtain ⟨F, hr, hlk, hte, hP, hK, hD, hE, hS, hA, hl, hsz⟩ := B
  subst hsz
  have hx := F.1
  have hb := F.2.1
  have hl : lv_has ls 2 [(0, .ref q), (1, .int i)] := hl
  obtain ⟨hs, hdat⟩ := hL
  obtain ⟨j, hj, hij⟩ := kixlt hs (by omega) h0 h1
  rcases hdat with ⟨hz, -⟩ | ⟨d, hd1, hd2, hd3, hd4, hd5⟩
  · exact absurd hj (by omega)
  obtain ⟨x, hx1, hx2⟩ := hd5 j hj
  refine lv_iload_n hx hb dJx4a65c_get_915e3_0 rfl (lv_at hl 1 rfl) ?_
  refine lv_aload_n hx hb dJx4a65c_get_915e3_1 rfl (lv_at hl 0 rfl) ?_
  refine rg_ArrayList_size F hK hP oq kw_113 dJx4a65c_get_915e3_2 ?_
  refine lv_topi (fun x1 ex1 => ?_)
  refine kcallI (kSt (n := 2) (As := [.int i, .int x1]) (rest := []) F hE hK hP hD hS hA (c_J15_checkIndex_7cf53 l hl0 g e0 S _ i x1 h0 (by rw [ex1]; exact h1)) kw_211 kw_212 kw_213 kw_214 (by decide +kernel) ⟨Nat.le_of_ble_eq_true rfl, Nat.le_of_ble_eq_true rfl⟩ rfl hl.1 rfl (Nat.le_of_ble_eq_true rfl) dJx4a65c_get_915e3_5 ⟨Nat.le_of_ble_eq_true rfl, Nat.le_of_ble_eq_true rfl⟩) rfl hD hS hA (fun _ _ _ _ _ h => False.elim h) (fun r2 T2 H locs hp hP hD hS => ?_)
  obtain ⟨hT, hp3⟩ := hp
  have hT := hT.symm
  subst hT
  refine lv_pop hx hb dJx4a65c_get_915e3_8 rfl ?_
  refine lv_aload_n hx hb dJx4a65c_get_915e3_9 rfl (lv_at hl 0 rfl) ?_
  refine lv_iload_n hx hb dJx4a65c_get_915e3_10 rfl (lv_at hl 1 rfl) ?_
  refine kcallR (kV (n := 1) (As := [.int i]) (rest := []) (b := q) (C := RJx4a65c) F hE hK hP hD hS hA (c_Jx4a65c_elementData_915e3 l hl0 g e0 S _ q d x i oq hd1 hd2 (by rw [hij]; exact vp_in_nI (Nat.lt_of_lt_of_le hj hd4) (by omega)) (by rw [hij, nI_clamp (by omega)]; exact hx1)) (rr_ArrayList hK hP oq) kw_219 kw_220 kw_221 kw_26 kw_222 (by decide +kernel) ⟨Nat.le_of_ble_eq_true rfl, Nat.le_of_ble_eq_true rfl⟩ rfl hl.1 rfl (Nat.le_of_ble_eq_true rfl) dJx4a65c_get_915e3_11 ⟨Nat.le_of_ble_eq_true rfl, Nat.le_of_ble_eq_true rfl⟩) rfl hD hS hA (fun _ _ _ _ _ h => False.elim h) (fun b4 T4 H locs hp hP hD hS => ?_)
  obtain ⟨hT, hp5⟩ := hp
  have hT := hT.symm
  subst hT
  exact kEndR F hr (Or.inl ⟨_, rfl⟩) (Or.inr ⟨_, rfl⟩) hlk hP hD hS (Nat.le_of_ble_eq_true rfl) (Nat.le_of_ble_eq_true rfl) dJx4a65c_get_915e3_14 ⟨_, rfl, ⟨rfl, by rw [hp5]; exact ⟨hx2, d, hd1, by rw [hij, nI_clamp (by omega)]; exact hx1⟩⟩⟩
theorem dJ8_newLength_cabcc_0 : decode cJ8_newLength_cabcc 0 = .ok (.iload_n 0, 1) := by decide +kernel
theorem dJ8_newLength_cabcc_1 : decode cJ8_newLength_cabcc 1 = .ok (.iload_n 1, 1) := by decide +kernel
theorem dJ8_newLength_cabcc_2 : decode cJ8_newLength_cabcc 2 = .ok (.iload_n 2, 1) := by decide +kernel
theorem dJ8_newLength_cabcc_3 : decode cJ8_newLength_cabcc 3 = .ok (.invokestatic 194, 3) := by decide +kernel
theorem dJ8_newLength_cabcc_6 : decode cJ8_newLength_cabcc 6 = .ok (.iadd, 1) := by decide +kernel
theorem dJ8_newLength_cabcc_7 : decode cJ8_newLength_cabcc 7 = .ok (.istore_n 3, 1) := by decide +kernel
theorem dJ8_newLength_cabcc_8 : decode cJ8_newLength_cabcc 8 = .ok (.iconst 0, 1) := by decide +kernel
theorem dJ8_newLength_cabcc_9 : decode cJ8_newLength_cabcc 9 = .ok (.iload_n 3, 1) := by decide +kernel
theorem dJ8_newLength_cabcc_10 : decode cJ8_newLength_cabcc 10 = .ok (.if_icmp .ge 11, 3) := by decide +kernel
theorem dJ8_newLength_cabcc_13 : decode cJ8_newLength_cabcc 13 = .ok (.iload_n 3, 1) := by decide +kernel
theorem dJ8_newLength_cabcc_14 : decode cJ8_newLength_cabcc 14 = .ok (.ldc 200, 2) := by decide +kernel
theorem dJ8_newLength_cabcc_16 : decode cJ8_newLength_cabcc 16 = .ok (.if_icmp .gt 5, 3) := by decide +kernel
theorem dJ8_newLength_cabcc_19 : decode cJ8_newLength_cabcc 19 = .ok (.iload_n 3, 1) := by decide +kernel
theorem dJ8_newLength_cabcc_20 : decode cJ8_newLength_cabcc 20 = .ok (.ireturn, 1) := by decide +kernel
theorem dJ8_newLength_cabcc_21 : decode cJ8_newLength_cabcc 21 = .ok (.iload_n 0, 1) := by decide +kernel
theorem dJ8_newLength_cabcc_22 : decode cJ8_newLength_cabcc 22 = .ok (.iload_n 1, 1) := by decide +kernel
theorem dJ8_newLength_cabcc_23 : decode cJ8_newLength_cabcc 23 = .ok (.invokestatic 201, 3) := by decide +kernel
theorem dJ8_newLength_cabcc_26 : decode cJ8_newLength_cabcc 26 = .ok (.ireturn, 1) := by decide +kernel
set_option maxHeartbeats 4000000 in
set_option maxRecDepth 100000 in
theorem c_J8_newLength_cabcc (l : Launch) (hl0 : l.stackTraces = false) (g : kG) (e0 : Nat) (S : wPS) (sz : Nat)  : kM l g e0 yJ8_newLength_cabcc cJ8_newLength_cabcc 4 (some .int) 1 14 0 0 [.int 10, .int 1, .int 5] S sz (pI (fun r T => T = S ∧ r = 15)) (fun E => False) := by
  refine kM.of (by decide) (Nat.le_of_ble_eq_true rfl) ?_
  intro p e s m below meth c ls B hin
  obtain ⟨F, hr, hlk, hte, hP, hK, hD, hE, hS, hA, hl, hsz⟩ := B
  subst hsz
  have hx := F.1
  have hb := F.2.1
  have hl : lv_has ls 4 [(0, .int 10), (1, .int 1), (2, .int 5)] := hl
  refine lv_iload_n hx hb dJ8_newLength_cabcc_0 rfl (lv_at hl 0 rfl) ?_
  refine lv_iload_n hx hb dJ8_newLength_cabcc_1 rfl (lv_at hl 1 rfl) ?_
  refine lv_iload_n hx hb dJ8_newLength_cabcc_2 rfl (lv_at hl 2 rfl) ?_
  refine va_mmax hx hb (by rw [F.2.2.1]; exact hl.1.symm) F.2.2.2.1 (F.2.2.2.2 _ kw_149) (F.2.2.2.2 _ kw_141) (F.2.2.2.2 _ kw_142) (F.2.2.2.2 _ kw_143) (Nat.le_of_ble_eq_true rfl) (Nat.le_of_ble_eq_true rfl) (Nat.le_of_ble_eq_true rfl) (Nat.le_of_ble_eq_true rfl) dJ8_newLength_cabcc_3 ?_
  refine lv_topi (fun x1 ex1 => ?_)
  refine lv_iadd hx hb dJ8_newLength_cabcc_6 ?_
  refine lv_topi (fun x2 ex2 => ?_)
  have h15 : x2 = 15 := by rw [ex2, ex1]; rfl
  refine lv_istore_n (lv' := [(3, .int x2), (0, .int 10), (1, .int 1), (2, .int 5)]) hx hb dJ8_newLength_cabcc_7 rfl hl (by decide) rfl (fun ls hl => ?_)
  refine lv_iconst (v := 0) hx hb dJ8_newLength_cabcc_8 (by decide) ?_
  refine lv_iload_n hx hb dJ8_newLength_cabcc_9 rfl (lv_at hl 0 rfl) ?_
  refine lv_icmp_ge (tgt := 21) hx hb dJ8_newLength_cabcc_10 (by decide) (fun c3 => ?_) (fun c3 => ?_)
  · exact absurd c3 (by rw [h15]; decide)
  · refine lv_iload_n hx hb dJ8_newLength_cabcc_13 rfl (lv_at hl 0 rfl) ?_
    refine lv_ldc hx hb F.2.2.2.1 (F.2.2.2.2 _ kw_150) dJ8_newLength_cabcc_14 ?_
    refine lv_icmp_gt (tgt := 21) hx hb dJ8_newLength_cabcc_16 (by decide) (fun c4 => ?_) (fun c4 => ?_)
    · exact absurd c4 (by rw [h15]; decide)
    · refine lv_iload_n hx hb dJ8_newLength_cabcc_19 rfl (lv_at hl 0 rfl) ?_
      exact kEndI F hr rfl hlk hP hD hS (Nat.le_of_ble_eq_true rfl) (Nat.le_of_ble_eq_true rfl) dJ8_newLength_cabcc_20 ⟨_, rfl, ⟨rfl, h15⟩⟩
theorem dJ7_copyOf_6403c_0 : decode cJ7_copyOf_6403c 0 = .ok (.aload_n 2, 1) := by decide +kernel
theorem dJ7_copyOf_6403c_1 : decode cJ7_copyOf_6403c 1 = .ok (.ldc 110, 2) := by decide +kernel
theorem dJ7_copyOf_6403c_3 : decode cJ7_copyOf_6403c 3 = .ok (.if_acmp .ne 10, 3) := by decide +kernel
theorem dJ7_copyOf_6403c_6 : decode cJ7_copyOf_6403c 6 = .ok (.iload_n 1, 1) := by decide +kernel
theorem dJ7_copyOf_6403c_7 : decode cJ7_copyOf_6403c 7 = .ok (.anewarray 2, 3) := by decide +kernel
theorem dJ7_copyOf_6403c_10 : decode cJ7_copyOf_6403c 10 = .ok (.goto 14, 3) := by decide +kernel
theorem dJ7_copyOf_6403c_13 : decode cJ7_copyOf_6403c 13 = .ok (.aload_n 2, 1) := by decide +kernel
theorem dJ7_copyOf_6403c_14 : decode cJ7_copyOf_6403c 14 = .ok (.invokevirtual 90, 3) := by decide +kernel
theorem dJ7_copyOf_6403c_17 : decode cJ7_copyOf_6403c 17 = .ok (.iload_n 1, 1) := by decide +kernel
theorem dJ7_copyOf_6403c_18 : decode cJ7_copyOf_6403c 18 = .ok (.invokestatic 95, 3) := by decide +kernel
theorem dJ7_copyOf_6403c_21 : decode cJ7_copyOf_6403c 21 = .ok (.checkcast 110, 3) := by decide +kernel
theorem dJ7_copyOf_6403c_24 : decode cJ7_copyOf_6403c 24 = .ok (.astore_n 3, 1) := by decide +kernel
theorem dJ7_copyOf_6403c_25 : decode cJ7_copyOf_6403c 25 = .ok (.aload_n 0, 1) := by decide +kernel
theorem dJ7_copyOf_6403c_26 : decode cJ7_copyOf_6403c 26 = .ok (.iconst 0, 1) := by decide +kernel
theorem dJ7_copyOf_6403c_27 : decode cJ7_copyOf_6403c 27 = .ok (.aload_n 3, 1) := by decide +kernel
theorem dJ7_copyOf_6403c_28 : decode cJ7_copyOf_6403c 28 = .ok (.iconst 0, 1) := by decide +kernel
theorem dJ7_copyOf_6403c_29 : decode cJ7_copyOf_6403c 29 = .ok (.aload_n 0, 1) := by decide +kernel
theorem dJ7_copyOf_6403c_30 : decode cJ7_copyOf_6403c 30 = .ok (.arraylength, 1) := by decide +kernel
theorem dJ7_copyOf_6403c_31 : decode cJ7_copyOf_6403c 31 = .ok (.iload_n 1, 1) := by decide +kernel
theorem dJ7_copyOf_6403c_32 : decode cJ7_copyOf_6403c 32 = .ok (.invokestatic 304, 3) := by decide +kernel
theorem dJ7_copyOf_6403c_35 : decode cJ7_copyOf_6403c 35 = .ok (.invokestatic 150, 3) := by decide +kernel
theorem dJ7_copyOf_6403c_38 : decode cJ7_copyOf_6403c 38 = .ok (.aload_n 3, 1) := by decide +kernel
theorem dJ7_copyOf_6403c_39 : decode cJ7_copyOf_6403c 39 = .ok (.areturn, 1) := by decide +kernel
set_option maxHeartbeats 4000000 in
set_option maxRecDepth 100000 in
theorem c_J7_copyOf_6403c (l : Launch) (hl0 : l.stackTraces = false) (g : kG) (e0 : Nat) (S : wPS) (sz : Nat) (d : Nat) (od : Ob S 13 d) (hN : pN S d = 10) (hel : ∀ i y, i < 10 → pY S d i = some y → Ob S 2 y) : kM l g e0 yJ7_copyOf_6403c cJ7_copyOf_6403c 4 (some (.array (.object "java/lang/Object"))) 1 24 1 15 [.ref d, .int 15, .ref (g.2.2 9)] S sz (pR (fun b T => b ∉ pL S ∧ T = setY (newA S b 13 15) b (va_cpy (pY S d) (fun _ => none) 0 0 10))) (fun E => False) := by
  refine kM.of (by decide) (Nat.le_of_ble_eq_true rfl) ?_
  intro p e s m below meth c ls B hin
  obtain ⟨F, hr, hlk, hte, hP, hK, hD, hE, hS, hA, hl, hsz⟩ := B
  subst hsz
  have hx := F.1
  have hb := F.2.1
  have hl : lv_has ls 4 [(0, .ref d), (1, .int 15), (2, .ref (g.2.2 9))] := hl
  refine lv_aload_n hx hb dJ7_copyOf_6403c_0 rfl (lv_at hl 2 rfl) ?_
  refine va_ldcM (C := "[Ljava/lang/Object;") (mi := g.2.2 9) hx hb F.2.2.2.1 (F.2.2.2.2 _ kw_165) hE.2.2.2.2.2.2.2.2.1 dJ7_copyOf_6403c_1 ?_
  refine lv_acmp_ne (rx := (some (g.2.2 9))) (ry := (some (g.2.2 9))) (tgt := 13) hx hb dJ7_copyOf_6403c_3 (by decide) (fun c1 => ?_) (fun c1 => ?_)
  · exact absurd rfl c1
  · refine lv_iload_n hx hb dJ7_copyOf_6403c_6 rfl (lv_at hl 1 rfl) ?_
    refine rn_R_Object (N := 15) F hK hP hD hS hA kw_166 hE.2.2.2.2.2.2.2.1 (by decide) rfl (by decide) (Nat.le_of_ble_eq_true rfl) (Nat.le_of_ble_eq_true rfl) dJ7_copyOf_6403c_7 (fun q2 H hq2 hP hD hS => ?_)
    refine lv_goto (tgt := 24) hx hb dJ7_copyOf_6403c_10 (by decide) ?_
    refine lv_astore_n (lv' := [(3, .ref q2), (0, .ref d), (1, .int 15), (2, .ref (g.2.2 9))]) hx hb dJ7_copyOf_6403c_24 rfl hl (by decide) rfl (fun ls hl => ?_)
    refine lv_aload_n hx hb dJ7_copyOf_6403c_25 rfl (lv_at hl 1 rfl) ?_
    refine lv_iconst (v := 0) hx hb dJ7_copyOf_6403c_26 (by decide) ?_
    refine lv_aload_n hx hb dJ7_copyOf_6403c_27 rfl (lv_at hl 0 rfl) ?_
    refine lv_iconst (v := 0) hx hb dJ7_copyOf_6403c_28 (by decide) ?_
    refine lv_aload_n hx hb dJ7_copyOf_6403c_29 rfl (lv_at hl 1 rfl) ?_
    refine rl_Object (v := 10) F hK hP (obA_old (kd := 13) (n := 15) hq2 od) (congrArg Int32.ofNat (show pN (newA S q2 13 15) d = 10 from (va_up_ne _ _ (fun e : d = q2 => hq2 (by rw [← e]; exact od.1))).trans hN)) dJ7_copyOf_6403c_30 ?_
    refine lv_iload_n hx hb dJ7_copyOf_6403c_31 rfl (lv_at hl 2 rfl) ?_
    refine va_mmin hx hb (by rw [F.2.2.1]; exact hl.1.symm) F.2.2.2.1 (F.2.2.2.2 _ kw_167) (F.2.2.2.2 _ kw_168) (F.2.2.2.2 _ kw_142) (F.2.2.2.2 _ kw_169) (Nat.le_of_ble_eq_true rfl) (Nat.le_of_ble_eq_true rfl) (Nat.le_of_ble_eq_true rfl) (Nat.le_of_ble_eq_true rfl) dJ7_copyOf_6403c_32 ?_
    refine lv_topi (fun x3 ex3 => ?_)
    have hcp : x3 = 10 := by rw [ex3]; rfl
    rw [hcp]
    have hnd : d ≠ q2 := fun e => hq2 (by rw [← e]; exact od.1)
    have hnq : 10 ≤ pN (newA S q2 13 15) d ∧ 10 ≤ pN (newA S q2 13 15) q2 := ⟨by rw [show pN (newA S q2 13 15) d = pN S d from va_up_ne _ _ hnd, hN]; decide, by rw [show pN (newA S q2 13 15) q2 = 15 from va_up_self _ _ _]; decide⟩
    refine rcopy F hK hP hD hS (obA_old (kd := 13) (n := 15) hq2 od) (obA_new (S := S) (q := q2) (kd := 13) (n := 15)) hnq ⟨fun i y hi hy => obA_old (kd := 13) (n := 15) hq2 (hel i y hi (by rw [← hy]; exact (congrFun (va_up_ne (pY S) _ hnd) i).symm)), hE.2.2.2.2.2.2.2.2.2.2.2.1⟩ kw_170 kw_171 kw_172 kw_173 (by rw [F.2.2.1]; exact hl.1.symm) (Nat.le_of_ble_eq_true rfl) (Nat.le_of_ble_eq_true rfl) dJ7_copyOf_6403c_35 (fun H locs hP hD hS => ?_)
    refine lv_aload_n hx hb dJ7_copyOf_6403c_38 rfl (lv_at hl 0 rfl) ?_
    exact kEndR F hr (Or.inr ⟨_, rfl⟩) (Or.inr ⟨_, rfl⟩) hlk hP hD hS (Nat.le_of_ble_eq_true rfl) (Nat.le_of_ble_eq_true rfl) dJ7_copyOf_6403c_39 ⟨_, rfl, ⟨hq2, by rw [show pY (newA S q2 13 15) d = pY S d from va_up_ne _ _ hnd, show pY (newA S q2 13 15) q2 = (fun _ => none) from va_up_self _ _ _]⟩⟩
theorem dJ7_copyOf_1904c_0 : decode cJ7_copyOf_1904c 0 = .ok (.aload_n 0, 1) := by decide +kernel
theorem dJ7_copyOf_1904c_1 : decode cJ7_copyOf_1904c 1 = .ok (.iload_n 1, 1) := by decide +kernel
theorem dJ7_copyOf_1904c_2 : decode cJ7_copyOf_1904c 2 = .ok (.aload_n 0, 1) := by decide +kernel
theorem dJ7_copyOf_1904c_3 : decode cJ7_copyOf_1904c 3 = .ok (.invokevirtual 86, 3) := by decide +kernel
theorem dJ7_copyOf_1904c_6 : decode cJ7_copyOf_1904c 6 = .ok (.invokestatic 300, 3) := by decide +kernel
theorem dJ7_copyOf_1904c_9 : decode cJ7_copyOf_1904c 9 = .ok (.areturn, 1) := by decide +kernel
set_option maxHeartbeats 4000000 in
set_option maxRecDepth 100000 in
theorem c_J7_copyOf_1904c (l : Launch) (hl0 : l.stackTraces = false) (g : kG) (e0 : Nat) (S : wPS) (sz : Nat) (d : Nat) (od : Ob S 13 d) (hN : pN S d = 10) (hel : ∀ i y, i < 10 → pY S d i = some y → Ob S 2 y) : kM l g e0 yJ7_copyOf_1904c cJ7_copyOf_1904c 2 (some (.array (.object "java/lang/Object"))) 2 47 1 15 [.ref d, .int 15] S sz (pR (fun b T => b ∉ pL S ∧ T = setY (newA S b 13 15) b (va_cpy (pY S d) (fun _ => none) 0 0 10))) (fun E => False) := by
  refine kM.of (by decide) (Nat.le_of_ble_eq_true rfl) ?_
  intro p e s m below meth c ls B hin
  obtain ⟨F, hr, hlk, hte, hP, hK, hD, hE, hS, hA, hl, hsz⟩ := B
  subst hsz
  have hx := F.1
  have hb := F.2.1
  have hl : lv_has ls 2 [(0, .ref d), (1, .int 15)] := hl
  refine lv_aload_n hx hb dJ7_copyOf_1904c_0 rfl (lv_at hl 0 rfl) ?_
  refine lv_iload_n hx hb dJ7_copyOf_1904c_1 rfl (lv_at hl 1 rfl) ?_
  refine lv_aload_n hx hb dJ7_copyOf_1904c_2 rfl (lv_at hl 0 rfl) ?_
  refine va_getC (C := "[Ljava/lang/Object;") (mi := g.2.2 9) hx hb (by rw [F.2.2.1]; exact hl.1.symm) F.2.2.2.1 (F.2.2.2.2 _ kw_158) (va_Dc.use hE.2.2.2.2.2.2.2.2.2.1) (F.2.2.2.2 _ kw_159) (F.2.2.2.2 _ kw_160) (F.2.2.2.2 _ kw_161) hE.2.2.2.2.2.2.2.2.1 (rra_Object hK hP od) (Nat.le_of_ble_eq_true rfl) (Nat.le_of_ble_eq_true rfl) dJ7_copyOf_1904c_3 ?_
  refine kcallR (kSt (n := 3) (As := [.ref d, .int 15, .ref (g.2.2 9)]) (rest := []) F hE hK hP hD hS hA (c_J7_copyOf_6403c l hl0 g e0 S _ d od hN hel) kw_162 kw_163 kw_156 kw_164 (by decide +kernel) ⟨Nat.le_of_ble_eq_true rfl, Nat.le_of_ble_eq_true rfl⟩ rfl hl.1 rfl (Nat.le_of_ble_eq_true rfl) dJ7_copyOf_1904c_6 ⟨Nat.le_of_ble_eq_true rfl, Nat.le_of_ble_eq_true rfl⟩) rfl hD hS hA (fun _ _ _ _ _ h => False.elim h) (fun b1 T1 H locs hp hP hD hS => ?_)
  obtain ⟨hq9, hT⟩ := hp
  subst hT
  exact kEndR F hr (Or.inr ⟨_, rfl⟩) (Or.inr ⟨_, rfl⟩) hlk hP hD hS (Nat.le_of_ble_eq_true rfl) (Nat.le_of_ble_eq_true rfl) dJ7_copyOf_1904c_9 ⟨_, rfl, ⟨hq9, rfl⟩⟩
theorem dJx4a65c_grow_92f84_0 : decode cJx4a65c_grow_92f84 0 = .ok (.aload_n 0, 1) := by decide +kernel
theorem dJx4a65c_grow_92f84_1 : decode cJx4a65c_grow_92f84 1 = .ok (.getfield 9, 3) := by decide +kernel
theorem dJx4a65c_grow_92f84_4 : decode cJx4a65c_grow_92f84 4 = .ok (.arraylength, 1) := by decide +kernel
theorem dJx4a65c_grow_92f84_5 : decode cJx4a65c_grow_92f84 5 = .ok (.istore_n 2, 1) := by decide +kernel
theorem dJx4a65c_grow_92f84_6 : decode cJx4a65c_grow_92f84 6 = .ok (.iload_n 2, 1) := by decide +kernel
theorem dJx4a65c_grow_92f84_7 : decode cJx4a65c_grow_92f84 7 = .ok (.ifCond .gt 13, 3) := by decide +kernel
theorem dJx4a65c_grow_92f84_10 : decode cJx4a65c_grow_92f84 10 = .ok (.aload_n 0, 1) := by decide +kernel
theorem dJx4a65c_grow_92f84_11 : decode cJx4a65c_grow_92f84 11 = .ok (.getfield 9, 3) := by decide +kernel
theorem dJx4a65c_grow_92f84_14 : decode cJx4a65c_grow_92f84 14 = .ok (.getstatic 39, 3) := by decide +kernel
theorem dJx4a65c_grow_92f84_17 : decode cJx4a65c_grow_92f84 17 = .ok (.if_acmp .eq 28, 3) := by decide +kernel
theorem dJx4a65c_grow_92f84_20 : decode cJx4a65c_grow_92f84 20 = .ok (.iload_n 2, 1) := by decide +kernel
theorem dJx4a65c_grow_92f84_21 : decode cJx4a65c_grow_92f84 21 = .ok (.iload_n 1, 1) := by decide +kernel
theorem dJx4a65c_grow_92f84_22 : decode cJx4a65c_grow_92f84 22 = .ok (.iload_n 2, 1) := by decide +kernel
theorem dJx4a65c_grow_92f84_23 : decode cJx4a65c_grow_92f84 23 = .ok (.isub, 1) := by decide +kernel
theorem dJx4a65c_grow_92f84_24 : decode cJx4a65c_grow_92f84 24 = .ok (.iload_n 2, 1) := by decide +kernel
theorem dJx4a65c_grow_92f84_25 : decode cJx4a65c_grow_92f84 25 = .ok (.iconst 1, 1) := by decide +kernel
theorem dJx4a65c_grow_92f84_26 : decode cJx4a65c_grow_92f84 26 = .ok (.ishr, 1) := by decide +kernel
theorem dJx4a65c_grow_92f84_27 : decode cJx4a65c_grow_92f84 27 = .ok (.invokestatic 73, 3) := by decide +kernel
theorem dJx4a65c_grow_92f84_30 : decode cJx4a65c_grow_92f84 30 = .ok (.istore_n 3, 1) := by decide +kernel
theorem dJx4a65c_grow_92f84_31 : decode cJx4a65c_grow_92f84 31 = .ok (.aload_n 0, 1) := by decide +kernel
theorem dJx4a65c_grow_92f84_32 : decode cJx4a65c_grow_92f84 32 = .ok (.aload_n 0, 1) := by decide +kernel
theorem dJx4a65c_grow_92f84_33 : decode cJx4a65c_grow_92f84 33 = .ok (.getfield 9, 3) := by decide +kernel
theorem dJx4a65c_grow_92f84_36 : decode cJx4a65c_grow_92f84 36 = .ok (.iload_n 3, 1) := by decide +kernel
theorem dJx4a65c_grow_92f84_37 : decode cJx4a65c_grow_92f84 37 = .ok (.invokestatic 66, 3) := by decide +kernel
theorem dJx4a65c_grow_92f84_40 : decode cJx4a65c_grow_92f84 40 = .ok (.dup_x1, 1) := by decide +kernel
theorem dJx4a65c_grow_92f84_41 : decode cJx4a65c_grow_92f84 41 = .ok (.putfield 9, 3) := by decide +kernel
theorem dJx4a65c_grow_92f84_44 : decode cJx4a65c_grow_92f84 44 = .ok (.areturn, 1) := by decide +kernel
theorem dJx4a65c_grow_92f84_45 : decode cJx4a65c_grow_92f84 45 = .ok (.aload_n 0, 1) := by decide +kernel
theorem dJx4a65c_grow_92f84_46 : decode cJx4a65c_grow_92f84 46 = .ok (.bipush 10, 2) := by decide +kernel
theorem dJx4a65c_grow_92f84_48 : decode cJx4a65c_grow_92f84 48 = .ok (.iload_n 1, 1) := by decide +kernel
theorem dJx4a65c_grow_92f84_49 : decode cJx4a65c_grow_92f84 49 = .ok (.invokestatic 79, 3) := by decide +kernel
theorem dJx4a65c_grow_92f84_52 : decode cJx4a65c_grow_92f84 52 = .ok (.anewarray 7, 3) := by decide +kernel
theorem dJx4a65c_grow_92f84_55 : decode cJx4a65c_grow_92f84 55 = .ok (.dup_x1, 1) := by decide +kernel
theorem dJx4a65c_grow_92f84_56 : decode cJx4a65c_grow_92f84 56 = .ok (.putfield 9, 3) := by decide +kernel
theorem dJx4a65c_grow_92f84_59 : decode cJx4a65c_grow_92f84 59 = .ok (.areturn, 1) := by decide +kernel
set_option maxHeartbeats 4000000 in
set_option maxRecDepth 100000 in
theorem c_Jx4a65c_grow_92f84_a (l : Launch) (hl0 : l.stackTraces = false) (g : kG) (e0 : Nat) (S : wPS) (sz : Nat) (q : Nat) (oq : Ob S 7 q) (hd : pG S 71 q = some e0) : kM l g e0 yJx4a65c_grow_92f84 cJx4a65c_grow_92f84 4 (some (.array (.object "java/lang/Object"))) 1 14 1 10 [.ref q, .int 1] S sz (pR (fun b T => b ∉ pL S ∧ T = setG (newA S b 13 10) 71 q (some b))) (fun E => False) := by
  refine kM.of (by decide) (Nat.le_of_ble_eq_true rfl) ?_
  intro p e s m below meth c ls B hin
  obtain ⟨F, hr, hlk, hte, hP, hK, hD, hE, hS, hA, hl, hsz⟩ := B
  subst hsz
  have hx := F.1
  have hb := F.2.1
  have hl : lv_has ls 4 [(0, .ref q), (1, .int 1)] := hl
  refine lv_aload_n hx hb dJx4a65c_grow_92f84_0 rfl (lv_at hl 0 rfl) ?_
  refine rs_ArrayList_elementData (b := e0) F hK hP oq hd kw_45 dJx4a65c_grow_92f84_1 ?_
  refine va_tlen (v := 0) hx hb hE.2.1 hS rfl dJx4a65c_grow_92f84_4 ?_
  refine lv_istore_n (lv' := [(2, .int 0), (0, .ref q), (1, .int 1)]) hx hb dJx4a65c_grow_92f84_5 rfl hl (by decide) rfl (fun ls hl => ?_)
  refine lv_iload_n hx hb dJx4a65c_grow_92f84_6 rfl (lv_at hl 0 rfl) ?_
  refine lv_if_gt (tgt := 20) hx hb dJx4a65c_grow_92f84_7 (by decide) (fun c1 => ?_) (fun c1 => ?_)
  · exact absurd c1 (by decide)
  · refine lv_aload_n hx hb dJx4a65c_grow_92f84_10 rfl (lv_at hl 1 rfl) ?_
    refine rs_ArrayList_elementData (b := e0) F hK hP oq hd kw_45 dJx4a65c_grow_92f84_11 ?_
    refine va_gets hx hb hE.1 hS F.2.2.2.1 (F.2.2.2.2 _ kw_44) (fun _ h => h) dJx4a65c_grow_92f84_14 ?_
    refine lv_acmp_eq (rx := (some e0)) (ry := (some e0)) (tgt := 45) hx hb dJx4a65c_grow_92f84_17 (by decide) (fun c2 => ?_) (fun c2 => ?_)
    · refine lv_aload_n hx hb dJx4a65c_grow_92f84_45 rfl (lv_at hl 1 rfl) ?_
      refine lv_bipush (v := 10) hx hb dJx4a65c_grow_92f84_46 (by decide) ?_
      refine lv_iload_n hx hb dJx4a65c_grow_92f84_48 rfl (lv_at hl 2 rfl) ?_
      refine va_mmax hx hb (by rw [F.2.2.1]; exact hl.1.symm) F.2.2.2.1 (F.2.2.2.2 _ kw_140) (F.2.2.2.2 _ kw_141) (F.2.2.2.2 _ kw_142) (F.2.2.2.2 _ kw_143) (Nat.le_of_ble_eq_true rfl) (Nat.le_of_ble_eq_true rfl) (Nat.le_of_ble_eq_true rfl) (Nat.le_of_ble_eq_true rfl) dJx4a65c_grow_92f84_49 ?_
      refine lv_topi (fun x3 ex3 => ?_)
      have hm10 : x3 = 10 := by rw [ex3]; rfl
      refine rn_R_Object (N := 10) F hK hP hD hS hA kw_144 hE.2.2.2.2.2.2.2.1 (by rw [hm10]; decide) (by rw [hm10]; rfl) (by decide) (Nat.le_of_ble_eq_true rfl) (Nat.le_of_ble_eq_true rfl) dJx4a65c_grow_92f84_52 (fun q4 H hq4 hP hD hS => ?_)
      refine lv_dup_x1 hx hb dJx4a65c_grow_92f84_55 rfl rfl ?_
      refine rps_ArrayList_elementData F hK hP hD hS (obA_old (kd := 13) (n := 10) hq4 oq) kw_45 dJx4a65c_grow_92f84_56 (fun H locs hP hD hS => ?_)
      exact kEndR F hr (Or.inr ⟨_, rfl⟩) (Or.inr ⟨_, rfl⟩) hlk hP hD hS (Nat.le_of_ble_eq_true rfl) (Nat.le_of_ble_eq_true rfl) dJx4a65c_grow_92f84_59 ⟨_, rfl, ⟨hq4, rfl⟩⟩
    · exact absurd rfl c2
set_option maxHeartbeats 4000000 in
set_option maxRecDepth 100000 in
theorem c_Jx4a65c_grow_92f84_b (l : Launch) (hl0 : l.stackTraces = false) (g : kG) (e0 : Nat) (S : wPS) (sz : Nat) (q d : Nat) (oq : Ob S 7 q) (hd : pG S 71 q = some d) (od : Ob S 13 d) (hN : pN S d = 10) (hel : ∀ i y, i < 10 → pY S d i = some y → Ob S 2 y) : kM l g e0 yJx4a65c_grow_92f84 cJx4a65c_grow_92f84 4 (some (.array (.object "java/lang/Object"))) 3 68 1 15 [.ref q, .int 11] S sz (pR (fun b T => b ∉ pL S ∧ T = setG (setY (newA S b 13 15) b (va_cpy (pY S d) (fun _ => none) 0 0 10)) 71 q (some b))) (fun E => False) := by
  refine kM.of (by decide) (Nat.le_of_ble_eq_true rfl) ?_
  intro p e s m below meth c ls B hin
  obtain ⟨F, hr, hlk, hte, hP, hK, hD, hE, hS, hA, hl, hsz⟩ := B
  subst hsz
  have hx := F.1
  have hb := F.2.1
  have hl : lv_has ls 4 [(0, .ref q), (1, .int 11)] := hl
  refine lv_aload_n hx hb dJx4a65c_grow_92f84_0 rfl (lv_at hl 0 rfl) ?_
  refine rs_ArrayList_elementData (b := d) F hK hP oq hd kw_45 dJx4a65c_grow_92f84_1 ?_
  refine rl_Object (v := 10) F hK hP od (congrArg Int32.ofNat hN) dJx4a65c_grow_92f84_4 ?_
  refine lv_istore_n (lv' := [(2, .int 10), (0, .ref q), (1, .int 11)]) hx hb dJx4a65c_grow_92f84_5 rfl hl (by decide) rfl (fun ls hl => ?_)
  refine lv_iload_n hx hb dJx4a65c_grow_92f84_6 rfl (lv_at hl 0 rfl) ?_
  refine lv_if_gt (tgt := 20) hx hb dJx4a65c_grow_92f84_7 (by decide) (fun c1 => ?_) (fun c1 => ?_)
  · refine lv_iload_n hx hb dJx4a65c_grow_92f84_20 rfl (lv_at hl 0 rfl) ?_
    refine lv_iload_n hx hb dJx4a65c_grow_92f84_21 rfl (lv_at hl 2 rfl) ?_
    refine lv_iload_n hx hb dJx4a65c_grow_92f84_22 rfl (lv_at hl 0 rfl) ?_
    refine lv_isub hx hb dJx4a65c_grow_92f84_23 ?_
    refine lv_topi (fun x2 ex2 => ?_)
    refine lv_iload_n hx hb dJx4a65c_grow_92f84_24 rfl (lv_at hl 0 rfl) ?_
    refine lv_iconst (v := 1) hx hb dJx4a65c_grow_92f84_25 (by decide) ?_
    refine lv_ishr hx hb dJx4a65c_grow_92f84_26 ?_
    refine lv_topi (fun x3 ex3 => ?_)
    have h5 : x3 = 5 := by rw [ex3]; rfl
    have h1 : x2 = 1 := by rw [ex2]; rfl
    rw [h5, h1]
    refine kcallI (kSt (n := 3) (As := [.int 10, .int 1, .int 5]) (rest := []) F hE hK hP hD hS hA (c_J8_newLength_cabcc l hl0 g e0 S _ ) kw_145 kw_146 kw_147 kw_148 (by decide +kernel) ⟨Nat.le_of_ble_eq_true rfl, Nat.le_of_ble_eq_true rfl⟩ rfl hl.1 rfl (Nat.le_of_ble_eq_true rfl) dJx4a65c_grow_92f84_27 ⟨Nat.le_of_ble_eq_true rfl, Nat.le_of_ble_eq_true rfl⟩) rfl hD hS hA (fun _ _ _ _ _ h => False.elim h) (fun r4 T4 H locs hp hP hD hS => ?_)
    obtain ⟨hT, hp5⟩ := hp
    have hT := hT.symm
    subst hT
    rw [hp5]
    refine lv_istore_n (lv' := [(3, .int 15), (2, .int 10), (0, .ref q), (1, .int 11)]) hx hb dJx4a65c_grow_92f84_30 rfl hl (by decide) rfl (fun ls hl => ?_)
    refine lv_aload_n hx hb dJx4a65c_grow_92f84_31 rfl (lv_at hl 2 rfl) ?_
    refine lv_aload_n hx hb dJx4a65c_grow_92f84_32 rfl (lv_at hl 2 rfl) ?_
    refine rs_ArrayList_elementData (b := d) F hK hP oq hd kw_45 dJx4a65c_grow_92f84_33 ?_
    refine lv_iload_n hx hb dJx4a65c_grow_92f84_36 rfl (lv_at hl 0 rfl) ?_
    refine kcallR (kSt (n := 2) (As := [.ref d, .int 15]) (rest := [.ref q]) F hE hK hP hD hS hA (c_J7_copyOf_1904c l hl0 g e0 S _ d od hN hel) kw_154 kw_155 kw_156 kw_157 (by decide +kernel) ⟨Nat.le_of_ble_eq_true rfl, Nat.le_of_ble_eq_true rfl⟩ rfl hl.1 rfl (Nat.le_of_ble_eq_true rfl) dJx4a65c_grow_92f84_37 ⟨Nat.le_of_ble_eq_true rfl, Nat.le_of_ble_eq_true rfl⟩) rfl hD hS hA (fun _ _ _ _ _ h => False.elim h) (fun b6 T6 H locs hp hP hD hS => ?_)
    obtain ⟨hq9, hT⟩ := hp
    subst hT
    refine lv_dup_x1 hx hb dJx4a65c_grow_92f84_40 rfl rfl ?_
    refine rps_ArrayList_elementData F hK hP hD hS (obA_old (kd := 13) (n := 15) hq9 oq) kw_45 dJx4a65c_grow_92f84_41 (fun H locs hP hD hS => ?_)
    exact kEndR F hr (Or.inr ⟨_, rfl⟩) (Or.inr ⟨_, rfl⟩) hlk hP hD hS (Nat.le_of_ble_eq_true rfl) (Nat.le_of_ble_eq_true rfl) dJx4a65c_grow_92f84_44 ⟨_, rfl, ⟨hq9, rfl⟩⟩
  · exact absurd (by decide) c1
theorem dJx4a65c_grow_d5877_0 : decode cJx4a65c_grow_d5877 0 = .ok (.aload_n 0, 1) := by decide +kernel
theorem dJx4a65c_grow_d5877_1 : decode cJx4a65c_grow_d5877 1 = .ok (.aload_n 0, 1) := by decide +kernel
theorem dJx4a65c_grow_d5877_2 : decode cJx4a65c_grow_d5877 2 = .ok (.getfield 48, 3) := by decide +kernel
theorem dJx4a65c_grow_d5877_5 : decode cJx4a65c_grow_d5877 5 = .ok (.iconst 1, 1) := by decide +kernel
theorem dJx4a65c_grow_d5877_6 : decode cJx4a65c_grow_d5877 6 = .ok (.iadd, 1) := by decide +kernel
theorem dJx4a65c_grow_d5877_7 : decode cJx4a65c_grow_d5877 7 = .ok (.invokevirtual 69, 3) := by decide +kernel
theorem dJx4a65c_grow_d5877_10 : decode cJx4a65c_grow_d5877 10 = .ok (.areturn, 1) := by decide +kernel
set_option maxHeartbeats 4000000 in
set_option maxRecDepth 100000 in
theorem c_Jx4a65c_grow_d5877_a (l : Launch) (hl0 : l.stackTraces = false) (g : kG) (e0 : Nat) (S : wPS) (sz : Nat) (q : Nat) (oq : Ob S 7 q) (hd : pG S 71 q = some e0) (hs : pF S 72 q = 0) : kM l g e0 yJx4a65c_grow_d5877 cJx4a65c_grow_d5877 1 (some (.array (.object "java/lang/Object"))) 2 37 1 10 [.ref q] S sz (pR (fun b T => b ∉ pL S ∧ T = setG (newA S b 13 10) 71 q (some b))) (fun E => False) := by
  refine kM.of (by decide) (Nat.le_of_ble_eq_true rfl) ?_
  intro p e s m below meth c ls B hin
  obtain ⟨F, hr, hlk, hte, hP, hK, hD, hE, hS, hA, hl, hsz⟩ := B
  subst hsz
  have hx := F.1
  have hb := F.2.1
  have hl : lv_has ls 1 [(0, .ref q)] := hl
  refine lv_aload_n hx hb dJx4a65c_grow_d5877_0 rfl (lv_at hl 0 rfl) ?_
  refine lv_aload_n hx hb dJx4a65c_grow_d5877_1 rfl (lv_at hl 0 rfl) ?_
  refine rg_ArrayList_size F hK hP oq kw_113 dJx4a65c_grow_d5877_2 ?_
  refine lv_topi (fun x1 ex1 => ?_)
  refine lv_iconst (v := 1) hx hb dJx4a65c_grow_d5877_5 (by decide) ?_
  refine lv_iadd hx hb dJx4a65c_grow_d5877_6 ?_
  refine lv_topi (fun x2 ex2 => ?_)
  have hsz : x2 = 1 := by rw [ex2, ex1, hs]; rfl
  rw [hsz]
  refine kcallR (kV (n := 1) (As := [.int 1]) (rest := []) (b := q) (C := RJx4a65c) F hE hK hP hD hS hA (c_Jx4a65c_grow_92f84_a l hl0 g e0 S _ q oq hd) (rr_ArrayList hK hP oq) kw_136 kw_137 kw_138 kw_26 kw_139 (by decide +kernel) ⟨Nat.le_of_ble_eq_true rfl, Nat.le_of_ble_eq_true rfl⟩ rfl hl.1 rfl (Nat.le_of_ble_eq_true rfl) dJx4a65c_grow_d5877_7 ⟨Nat.le_of_ble_eq_true rfl, Nat.le_of_ble_eq_true rfl⟩) rfl hD hS hA (fun _ _ _ _ _ h => False.elim h) (fun b3 T3 H locs hp hP hD hS => ?_)
  obtain ⟨hq9, hT⟩ := hp
  subst hT
  exact kEndR F hr (Or.inr ⟨_, rfl⟩) (Or.inr ⟨_, rfl⟩) hlk hP hD hS (Nat.le_of_ble_eq_true rfl) (Nat.le_of_ble_eq_true rfl) dJx4a65c_grow_d5877_10 ⟨_, rfl, ⟨hq9, rfl⟩⟩
set_option maxHeartbeats 4000000 in
set_option maxRecDepth 100000 in
theorem c_Jx4a65c_grow_d5877_b (l : Launch) (hl0 : l.stackTraces = false) (g : kG) (e0 : Nat) (S : wPS) (sz : Nat) (q d : Nat) (oq : Ob S 7 q) (hd : pG S 71 q = some d) (od : Ob S 13 d) (hN : pN S d = 10) (hel : ∀ i y, i < 10 → pY S d i = some y → Ob S 2 y) (hs : pF S 72 q = 10) : kM l g e0 yJx4a65c_grow_d5877 cJx4a65c_grow_d5877 1 (some (.array (.object "java/lang/Object"))) 4 91 1 15 [.ref q] S sz (pR (fun b T => b ∉ pL S ∧ T = setG (setY (newA S b 13 15) b (va_cpy (pY S d) (fun _ => none) 0 0 10)) 71 q (some b))) (fun E => False) := by
  refine kM.of (by decide) (Nat.le_of_ble_eq_true rfl) ?_
  intro p e s m below meth c ls B hin
  obtain ⟨F, hr, hlk, hte, hP, hK, hD, hE, hS, hA, hl, hsz⟩ := B
  subst hsz
  have hx := F.1
  have hb := F.2.1
  have hl : lv_has ls 1 [(0, .ref q)] := hl
  refine lv_aload_n hx hb dJx4a65c_grow_d5877_0 rfl (lv_at hl 0 rfl) ?_
  refine lv_aload_n hx hb dJx4a65c_grow_d5877_1 rfl (lv_at hl 0 rfl) ?_
  refine rg_ArrayList_size F hK hP oq kw_113 dJx4a65c_grow_d5877_2 ?_
  refine lv_topi (fun x1 ex1 => ?_)
  refine lv_iconst (v := 1) hx hb dJx4a65c_grow_d5877_5 (by decide) ?_
  refine lv_iadd hx hb dJx4a65c_grow_d5877_6 ?_
  refine lv_topi (fun x2 ex2 => ?_)
  have hsz : x2 = 11 := by rw [ex2, ex1, hs]; rfl
  rw [hsz]
  refine kcallR (kV (n := 1) (As := [.int 11]) (rest := []) (b := q) (C := RJx4a65c) F hE hK hP hD hS hA (c_Jx4a65c_grow_92f84_b l hl0 g e0 S _ q d oq hd od hN hel) (rr_ArrayList hK hP oq) kw_136 kw_137 kw_138 kw_26 kw_139 (by decide +kernel) ⟨Nat.le_of_ble_eq_true rfl, Nat.le_of_ble_eq_true rfl⟩ rfl hl.1 rfl (Nat.le_of_ble_eq_true rfl) dJx4a65c_grow_d5877_7 ⟨Nat.le_of_ble_eq_true rfl, Nat.le_of_ble_eq_true rfl⟩) rfl hD hS hA (fun _ _ _ _ _ h => False.elim h) (fun b3 T3 H locs hp hP hD hS => ?_)
  obtain ⟨hq9, hT⟩ := hp
  subst hT
  exact kEndR F hr (Or.inr ⟨_, rfl⟩) (Or.inr ⟨_, rfl⟩) hlk hP hD hS (Nat.le_of_ble_eq_true rfl) (Nat.le_of_ble_eq_true rfl) dJx4a65c_grow_d5877_10 ⟨_, rfl, ⟨hq9, rfl⟩⟩
end
section
theorem dJx4a65c_add_72be8_0 : decode cJx4a65c_add_72be8 0 = .ok (.iload_n 3, 1) := by decide +kernel
theorem dJx4a65c_add_72be8_1 : decode cJx4a65c_add_72be8 1 = .ok (.aload_n 2, 1) := by decide +kernel
theorem dJx4a65c_add_72be8_2 : decode cJx4a65c_add_72be8 2 = .ok (.arraylength, 1) := by decide +kernel
theorem dJx4a65c_add_72be8_3 : decode cJx4a65c_add_72be8 3 = .ok (.if_icmp .ne 8, 3) := by decide +kernel
theorem dJx4a65c_add_72be8_6 : decode cJx4a65c_add_72be8 6 = .ok (.aload_n 0, 1) := by decide +kernel
theorem dJx4a65c_add_72be8_7 : decode cJx4a65c_add_72be8 7 = .ok (.invokevirtual 129, 3) := by decide +kernel
theorem dJx4a65c_add_72be8_10 : decode cJx4a65c_add_72be8 10 = .ok (.astore_n 2, 1) := by decide +kernel
theorem dJx4a65c_add_72be8_11 : decode cJx4a65c_add_72be8 11 = .ok (.aload_n 2, 1) := by decide +kernel
theorem dJx4a65c_add_72be8_12 : decode cJx4a65c_add_72be8 12 = .ok (.iload_n 3, 1) := by decide +kernel
theorem dJx4a65c_add_72be8_13 : decode cJx4a65c_add_72be8 13 = .ok (.aload_n 1, 1) := by decide +kernel
theorem dJx4a65c_add_72be8_14 : decode cJx4a65c_add_72be8 14 = .ok (.aastore, 1) := by decide +kernel
theorem dJx4a65c_add_72be8_15 : decode cJx4a65c_add_72be8 15 = .ok (.aload_n 0, 1) := by decide +kernel
theorem dJx4a65c_add_72be8_16 : decode cJx4a65c_add_72be8 16 = .ok (.iload_n 3, 1) := by decide +kernel
theorem dJx4a65c_add_72be8_17 : decode cJx4a65c_add_72be8 17 = .ok (.iconst 1, 1) := by decide +kernel
theorem dJx4a65c_add_72be8_18 : decode cJx4a65c_add_72be8 18 = .ok (.iadd, 1) := by decide +kernel
theorem dJx4a65c_add_72be8_19 : decode cJx4a65c_add_72be8 19 = .ok (.putfield 48, 3) := by decide +kernel
theorem dJx4a65c_add_72be8_22 : decode cJx4a65c_add_72be8 22 = .ok (.return_, 1) := by decide +kernel
set_option maxHeartbeats 4000000 in
set_option maxRecDepth 100000 in
theorem c_Jx4a65c_add_72be8_a1 (l : Launch) (hl0 : l.stackTraces = false) (g : kG) (e0 : Nat) (S : wPS) (sz : Nat) (q x : Nat) (oq : Ob S 7 q) (ox : Ob S 1 x) (hd : pG S 71 q = some e0) (hs : pF S 72 q = 0) : kM l g e0 yJx4a65c_add_72be8 cJx4a65c_add_72be8 4 none 3 57 1 10 [.ref q, .ref x, .ref e0, .int 0] S sz (pU (fun T => ∃ (d : Nat) (v : Int32) (i : Nat), d ∉ pL S ∧ v = nI 1 ∧ i = 0 ∧ T = setF (setY (setG (newA S d 13 10) 71 q (some d)) d (va_up (pY (setG (newA S d 13 10) 71 q (some d)) d) i (some x))) 72 q v)) (fun E => False) := by
  refine kM.of (by decide) (Nat.le_of_ble_eq_true rfl) ?_
  intro p e s m below meth c ls B hin
  obtain ⟨F, hr, hlk, hte, hP, hK, hD, hE, hS, hA, hl, hsz⟩ := B
  subst hsz
  have hx := F.1
  have hb := F.2.1
  have hl : lv_has ls 4 [(0, .ref q), (1, .ref x), (2, .ref e0), (3, .int 0)] := hl
  refine lv_iload_n hx hb dJx4a65c_add_72be8_0 rfl (lv_at hl 3 rfl) ?_
  refine lv_aload_n hx hb dJx4a65c_add_72be8_1 rfl (lv_at hl 2 rfl) ?_
  refine va_tlen (v := 0) hx hb hE.2.1 hS rfl dJx4a65c_add_72be8_2 ?_
  refine lv_icmp_ne (tgt := 11) hx hb dJx4a65c_add_72be8_3 (by decide) (fun c1 => ?_) (fun c1 => ?_)
  · exact absurd c1 (by decide)
  · refine lv_aload_n hx hb dJx4a65c_add_72be8_6 rfl (lv_at hl 0 rfl) ?_
    refine kcallR (kV (n := 0) (As := []) (rest := []) (b := q) (C := RJx4a65c) F hE hK hP hD hS hA (c_Jx4a65c_grow_d5877_a l hl0 g e0 S _ q oq hd hs) (rr_ArrayList hK hP oq) kw_132 kw_133 kw_134 kw_26 kw_135 (by decide +kernel) ⟨Nat.le_of_ble_eq_true rfl, Nat.le_of_ble_eq_true rfl⟩ rfl hl.1 rfl (Nat.le_of_ble_eq_true rfl) dJx4a65c_add_72be8_7 ⟨Nat.le_of_ble_eq_true rfl, Nat.le_of_ble_eq_true rfl⟩) rfl hD hS hA (fun _ _ _ _ _ h => False.elim h) (fun b2 T2 H locs hp hP hD hS => ?_)
    obtain ⟨hq9, hT⟩ := hp
    subst hT
    refine lv_astore_n (lv' := [(2, .ref b2), (0, .ref q), (1, .ref x), (3, .int 0)]) hx hb dJx4a65c_add_72be8_10 rfl hl (by decide) rfl (fun ls hl => ?_)
    refine lv_aload_n hx hb dJx4a65c_add_72be8_11 rfl (lv_at hl 0 rfl) ?_
    refine lv_iload_n hx hb dJx4a65c_add_72be8_12 rfl (lv_at hl 3 rfl) ?_
    refine lv_aload_n hx hb dJx4a65c_add_72be8_13 rfl (lv_at hl 2 rfl) ?_
    refine rt_Object_Article F hK hP hD hS (obA_new (S := S) (q := b2) (kd := 13) (n := 10)) (obA_old (kd := 13) (n := 10) hq9 ox) hE.2.2.2.2.2.2.2.2.2.2.1 (by show vp_in 0 (va_up (pN S) b2 10 b2); rw [va_up_self]; exact vp_in_nI (n := 0) (by decide) (by decide)) dJx4a65c_add_72be8_14 (fun H locs hP hD hS => ?_)
    refine lv_aload_n hx hb dJx4a65c_add_72be8_15 rfl (lv_at hl 1 rfl) ?_
    refine lv_iload_n hx hb dJx4a65c_add_72be8_16 rfl (lv_at hl 3 rfl) ?_
    refine lv_iconst (v := 1) hx hb dJx4a65c_add_72be8_17 (by decide) ?_
    refine lv_iadd hx hb dJx4a65c_add_72be8_18 ?_
    refine lv_topi (fun x3 ex3 => ?_)
    refine rp_ArrayList_size F hK hP hD hS (obA_old (kd := 13) (n := 10) hq9 oq) kw_113 dJx4a65c_add_72be8_19 (fun H locs hP hD hS => ?_)
    exact kEndV F hr hlk hP hD hS (Nat.le_of_ble_eq_true rfl) (Nat.le_of_ble_eq_true rfl) dJx4a65c_add_72be8_22 ⟨rfl, ⟨_, _, _, hq9, (by rw [ex3]; rfl), rfl, rfl⟩⟩
set_option maxHeartbeats 4000000 in
set_option maxRecDepth 100000 in
theorem c_Jx4a65c_add_72be8_c1 (l : Launch) (hl0 : l.stackTraces = false) (g : kG) (e0 : Nat) (S : wPS) (sz : Nat) (q x : Nat) (oq : Ob S 7 q) (ox : Ob S 1 x) (d n : Nat) (hd : pG S 71 q = some d) (od : Ob S 13 d) (hn : n < pN S d) (hN : pN S d = 10 ∨ pN S d = 15) : kM l g e0 yJx4a65c_add_72be8 cJx4a65c_add_72be8 4 none 0 0 0 0 [.ref q, .ref x, .ref d, .int (nI n)] S sz (pU (fun T => ∃ (v : Int32) (i : Nat), v = nI (n + 1) ∧ i = n ∧ T = setF (setY S d (va_up (pY S d) i (some x))) 72 q v)) (fun E => False) := by
  refine kM.of (by decide) (Nat.le_of_ble_eq_true rfl) ?_
  intro p e s m below meth c ls B hin
  obtain ⟨F, hr, hlk, hte, hP, hK, hD, hE, hS, hA, hl, hsz⟩ := B
  subst hsz
  have hx := F.1
  have hb := F.2.1
  have hl : lv_has ls 4 [(0, .ref q), (1, .ref x), (2, .ref d), (3, .int (nI n))] := hl
  refine lv_iload_n hx hb dJx4a65c_add_72be8_0 rfl (lv_at hl 3 rfl) ?_
  refine lv_aload_n hx hb dJx4a65c_add_72be8_1 rfl (lv_at hl 2 rfl) ?_
  refine rl_Object (v := (nI (pN S d))) F hK hP od rfl dJx4a65c_add_72be8_2 ?_
  refine lv_icmp_ne (tgt := 11) hx hb dJx4a65c_add_72be8_3 (by decide) (fun c1 => ?_) (fun c1 => ?_)
  · refine lv_aload_n hx hb dJx4a65c_add_72be8_11 rfl (lv_at hl 2 rfl) ?_
    refine lv_iload_n hx hb dJx4a65c_add_72be8_12 rfl (lv_at hl 3 rfl) ?_
    refine lv_aload_n hx hb dJx4a65c_add_72be8_13 rfl (lv_at hl 1 rfl) ?_
    refine rt_Object_Article F hK hP hD hS od ox hE.2.2.2.2.2.2.2.2.2.2.1 (vp_in_nI hn (by omega)) dJx4a65c_add_72be8_14 (fun H locs hP hD hS => ?_)
    refine lv_aload_n hx hb dJx4a65c_add_72be8_15 rfl (lv_at hl 0 rfl) ?_
    refine lv_iload_n hx hb dJx4a65c_add_72be8_16 rfl (lv_at hl 3 rfl) ?_
    refine lv_iconst (v := 1) hx hb dJx4a65c_add_72be8_17 (by decide) ?_
    refine lv_iadd hx hb dJx4a65c_add_72be8_18 ?_
    refine lv_topi (fun x2 ex2 => ?_)
    refine rp_ArrayList_size F hK hP hD hS oq kw_113 dJx4a65c_add_72be8_19 (fun H locs hP hD hS => ?_)
    exact kEndV F hr hlk hP hD hS (Nat.le_of_ble_eq_true rfl) (Nat.le_of_ble_eq_true rfl) dJx4a65c_add_72be8_22 ⟨rfl, ⟨_, _, (by rw [ex2]; exact nI_1 n), nI_clamp (by omega), rfl⟩⟩
  · exact absurd ((nI_eq (by omega) (by omega)).mp c1) (by omega)
set_option maxHeartbeats 4000000 in
set_option maxRecDepth 100000 in
theorem c_Jx4a65c_add_72be8_a2 (l : Launch) (hl0 : l.stackTraces = false) (g : kG) (e0 : Nat) (S : wPS) (sz : Nat) (q x : Nat) (oq : Ob S 7 q) (ox : Ob S 2 x) (hd : pG S 71 q = some e0) (hs : pF S 72 q = 0) : kM l g e0 yJx4a65c_add_72be8 cJx4a65c_add_72be8 4 none 3 57 1 10 [.ref q, .ref x, .ref e0, .int 0] S sz (pU (fun T => ∃ (d : Nat) (v : Int32) (i : Nat), d ∉ pL S ∧ v = nI 1 ∧ i = 0 ∧ T = setF (setY (setG (newA S d 13 10) 71 q (some d)) d (va_up (pY (setG (newA S d 13 10) 71 q (some d)) d) i (some x))) 72 q v)) (fun E => False) := by
  refine kM.of (by decide) (Nat.le_of_ble_eq_true rfl) ?_
  intro p e s m below meth c ls B hin
  obtain ⟨F, hr, hlk, hte, hP, hK, hD, hE, hS, hA, hl, hsz⟩ := B
  subst hsz
  have hx := F.1
  have hb := F.2.1
  have hl : lv_has ls 4 [(0, .ref q), (1, .ref x), (2, .ref e0), (3, .int 0)] := hl
  refine lv_iload_n hx hb dJx4a65c_add_72be8_0 rfl (lv_at hl 3 rfl) ?_
  refine lv_aload_n hx hb dJx4a65c_add_72be8_1 rfl (lv_at hl 2 rfl) ?_
  refine va_tlen (v := 0) hx hb hE.2.1 hS rfl dJx4a65c_add_72be8_2 ?_
  refine lv_icmp_ne (tgt := 11) hx hb dJx4a65c_add_72be8_3 (by decide) (fun c1 => ?_) (fun c1 => ?_)
  · exact absurd c1 (by decide)
  · refine lv_aload_n hx hb dJx4a65c_add_72be8_6 rfl (lv_at hl 0 rfl) ?_
    refine kcallR (kV (n := 0) (As := []) (rest := []) (b := q) (C := RJx4a65c) F hE hK hP hD hS hA (c_Jx4a65c_grow_d5877_a l hl0 g e0 S _ q oq hd hs) (rr_ArrayList hK hP oq) kw_132 kw_133 kw_134 kw_26 kw_135 (by decide +kernel) ⟨Nat.le_of_ble_eq_true rfl, Nat.le_of_ble_eq_true rfl⟩ rfl hl.1 rfl (Nat.le_of_ble_eq_true rfl) dJx4a65c_add_72be8_7 ⟨Nat.le_of_ble_eq_true rfl, Nat.le_of_ble_eq_true rfl⟩) rfl hD hS hA (fun _ _ _ _ _ h => False.elim h) (fun b2 T2 H locs hp hP hD hS => ?_)
    obtain ⟨hq9, hT⟩ := hp
    subst hT
    refine lv_astore_n (lv' := [(2, .ref b2), (0, .ref q), (1, .ref x), (3, .int 0)]) hx hb dJx4a65c_add_72be8_10 rfl hl (by decide) rfl (fun ls hl => ?_)
    refine lv_aload_n hx hb dJx4a65c_add_72be8_11 rfl (lv_at hl 0 rfl) ?_
    refine lv_iload_n hx hb dJx4a65c_add_72be8_12 rfl (lv_at hl 3 rfl) ?_
    refine lv_aload_n hx hb dJx4a65c_add_72be8_13 rfl (lv_at hl 2 rfl) ?_
    refine rt_Object_Line F hK hP hD hS (obA_new (S := S) (q := b2) (kd := 13) (n := 10)) (obA_old (kd := 13) (n := 10) hq9 ox) hE.2.2.2.2.2.2.2.2.2.2.2.1 (by show vp_in 0 (va_up (pN S) b2 10 b2); rw [va_up_self]; exact vp_in_nI (n := 0) (by decide) (by decide)) dJx4a65c_add_72be8_14 (fun H locs hP hD hS => ?_)
    refine lv_aload_n hx hb dJx4a65c_add_72be8_15 rfl (lv_at hl 1 rfl) ?_
    refine lv_iload_n hx hb dJx4a65c_add_72be8_16 rfl (lv_at hl 3 rfl) ?_
    refine lv_iconst (v := 1) hx hb dJx4a65c_add_72be8_17 (by decide) ?_
    refine lv_iadd hx hb dJx4a65c_add_72be8_18 ?_
    refine lv_topi (fun x3 ex3 => ?_)
    refine rp_ArrayList_size F hK hP hD hS (obA_old (kd := 13) (n := 10) hq9 oq) kw_113 dJx4a65c_add_72be8_19 (fun H locs hP hD hS => ?_)
    exact kEndV F hr hlk hP hD hS (Nat.le_of_ble_eq_true rfl) (Nat.le_of_ble_eq_true rfl) dJx4a65c_add_72be8_22 ⟨rfl, ⟨_, _, _, hq9, (by rw [ex3]; rfl), rfl, rfl⟩⟩
set_option maxHeartbeats 4000000 in
set_option maxRecDepth 100000 in
theorem c_Jx4a65c_add_72be8_b2 (l : Launch) (hl0 : l.stackTraces = false) (g : kG) (e0 : Nat) (S : wPS) (sz : Nat) (q x : Nat) (oq : Ob S 7 q) (ox : Ob S 2 x) (d : Nat) (hd : pG S 71 q = some d) (od : Ob S 13 d) (hN : pN S d = 10) (hel : ∀ i y, i < 10 → pY S d i = some y → Ob S 2 y) (hs : pF S 72 q = 10) : kM l g e0 yJx4a65c_add_72be8 cJx4a65c_add_72be8 4 none 5 111 1 15 [.ref q, .ref x, .ref d, .int 10] S sz (pU (fun T => ∃ (d1 : Nat) (v : Int32) (i : Nat), d1 ∉ pL S ∧ v = nI 11 ∧ i = 10 ∧ T = setF (setY (setG (setY (newA S d1 13 15) d1 (va_cpy (pY S d) (fun _ => none) 0 0 10)) 71 q (some d1)) d1 (va_up (pY (setG (setY (newA S d1 13 15) d1 (va_cpy (pY S d) (fun _ => none) 0 0 10)) 71 q (some d1)) d1) i (some x))) 72 q v)) (fun E => False) := by
  refine kM.of (by decide) (Nat.le_of_ble_eq_true rfl) ?_
  intro p e s m below meth c ls B hin
  obtain ⟨F, hr, hlk, hte, hP, hK, hD, hE, hS, hA, hl, hsz⟩ := B
  subst hsz
  have hx := F.1
  have hb := F.2.1
  have hl : lv_has ls 4 [(0, .ref q), (1, .ref x), (2, .ref d), (3, .int 10)] := hl
  refine lv_iload_n hx hb dJx4a65c_add_72be8_0 rfl (lv_at hl 3 rfl) ?_
  refine lv_aload_n hx hb dJx4a65c_add_72be8_1 rfl (lv_at hl 2 rfl) ?_
  refine rl_Object (v := 10) F hK hP od (congrArg Int32.ofNat hN) dJx4a65c_add_72be8_2 ?_
  refine lv_icmp_ne (tgt := 11) hx hb dJx4a65c_add_72be8_3 (by decide) (fun c1 => ?_) (fun c1 => ?_)
  · exact absurd c1 (by decide)
  · refine lv_aload_n hx hb dJx4a65c_add_72be8_6 rfl (lv_at hl 0 rfl) ?_
    refine kcallR (kV (n := 0) (As := []) (rest := []) (b := q) (C := RJx4a65c) F hE hK hP hD hS hA (c_Jx4a65c_grow_d5877_b l hl0 g e0 S _ q d oq hd od hN hel hs) (rr_ArrayList hK hP oq) kw_132 kw_133 kw_134 kw_26 kw_135 (by decide +kernel) ⟨Nat.le_of_ble_eq_true rfl, Nat.le_of_ble_eq_true rfl⟩ rfl hl.1 rfl (Nat.le_of_ble_eq_true rfl) dJx4a65c_add_72be8_7 ⟨Nat.le_of_ble_eq_true rfl, Nat.le_of_ble_eq_true rfl⟩) rfl hD hS hA (fun _ _ _ _ _ h => False.elim h) (fun b2 T2 H locs hp hP hD hS => ?_)
    obtain ⟨hq9, hT⟩ := hp
    subst hT
    refine lv_astore_n (lv' := [(2, .ref b2), (0, .ref q), (1, .ref x), (3, .int 10)]) hx hb dJx4a65c_add_72be8_10 rfl hl (by decide) rfl (fun ls hl => ?_)
    refine lv_aload_n hx hb dJx4a65c_add_72be8_11 rfl (lv_at hl 0 rfl) ?_
    refine lv_iload_n hx hb dJx4a65c_add_72be8_12 rfl (lv_at hl 3 rfl) ?_
    refine lv_aload_n hx hb dJx4a65c_add_72be8_13 rfl (lv_at hl 2 rfl) ?_
    refine rt_Object_Line F hK hP hD hS (obA_new (S := S) (q := b2) (kd := 13) (n := 15)) (obA_old (kd := 13) (n := 15) hq9 ox) hE.2.2.2.2.2.2.2.2.2.2.2.1 (by show vp_in 10 (va_up (pN S) b2 15 b2); rw [va_up_self]; exact vp_in_nI (n := 10) (by decide) (by decide)) dJx4a65c_add_72be8_14 (fun H locs hP hD hS => ?_)
    refine lv_aload_n hx hb dJx4a65c_add_72be8_15 rfl (lv_at hl 1 rfl) ?_
    refine lv_iload_n hx hb dJx4a65c_add_72be8_16 rfl (lv_at hl 3 rfl) ?_
    refine lv_iconst (v := 1) hx hb dJx4a65c_add_72be8_17 (by decide) ?_
    refine lv_iadd hx hb dJx4a65c_add_72be8_18 ?_
    refine lv_topi (fun x3 ex3 => ?_)
    refine rp_ArrayList_size F hK hP hD hS (obA_old (kd := 13) (n := 15) hq9 oq) kw_113 dJx4a65c_add_72be8_19 (fun H locs hP hD hS => ?_)
    exact kEndV F hr hlk hP hD hS (Nat.le_of_ble_eq_true rfl) (Nat.le_of_ble_eq_true rfl) dJx4a65c_add_72be8_22 ⟨rfl, ⟨_, _, _, hq9, (by rw [ex3]; rfl), rfl, rfl⟩⟩
set_option maxHeartbeats 4000000 in
set_option maxRecDepth 100000 in
theorem c_Jx4a65c_add_72be8_c2 (l : Launch) (hl0 : l.stackTraces = false) (g : kG) (e0 : Nat) (S : wPS) (sz : Nat) (q x : Nat) (oq : Ob S 7 q) (ox : Ob S 2 x) (d n : Nat) (hd : pG S 71 q = some d) (od : Ob S 13 d) (hn : n < pN S d) (hN : pN S d = 10 ∨ pN S d = 15) : kM l g e0 yJx4a65c_add_72be8 cJx4a65c_add_72be8 4 none 0 0 0 0 [.ref q, .ref x, .ref d, .int (nI n)] S sz (pU (fun T => ∃ (v : Int32) (i : Nat), v = nI (n + 1) ∧ i = n ∧ T = setF (setY S d (va_up (pY S d) i (some x))) 72 q v)) (fun E => False) := by
  refine kM.of (by decide) (Nat.le_of_ble_eq_true rfl) ?_
  intro p e s m below meth c ls B hin
  obtain ⟨F, hr, hlk, hte, hP, hK, hD, hE, hS, hA, hl, hsz⟩ := B
  subst hsz
  have hx := F.1
  have hb := F.2.1
  have hl : lv_has ls 4 [(0, .ref q), (1, .ref x), (2, .ref d), (3, .int (nI n))] := hl
  refine lv_iload_n hx hb dJx4a65c_add_72be8_0 rfl (lv_at hl 3 rfl) ?_
  refine lv_aload_n hx hb dJx4a65c_add_72be8_1 rfl (lv_at hl 2 rfl) ?_
  refine rl_Object (v := (nI (pN S d))) F hK hP od rfl dJx4a65c_add_72be8_2 ?_
  refine lv_icmp_ne (tgt := 11) hx hb dJx4a65c_add_72be8_3 (by decide) (fun c1 => ?_) (fun c1 => ?_)
  · refine lv_aload_n hx hb dJx4a65c_add_72be8_11 rfl (lv_at hl 2 rfl) ?_
    refine lv_iload_n hx hb dJx4a65c_add_72be8_12 rfl (lv_at hl 3 rfl) ?_
    refine lv_aload_n hx hb dJx4a65c_add_72be8_13 rfl (lv_at hl 1 rfl) ?_
    refine rt_Object_Line F hK hP hD hS od ox hE.2.2.2.2.2.2.2.2.2.2.2.1 (vp_in_nI hn (by omega)) dJx4a65c_add_72be8_14 (fun H locs hP hD hS => ?_)
    refine lv_aload_n hx hb dJx4a65c_add_72be8_15 rfl (lv_at hl 0 rfl) ?_
    refine lv_iload_n hx hb dJx4a65c_add_72be8_16 rfl (lv_at hl 3 rfl) ?_
    refine lv_iconst (v := 1) hx hb dJx4a65c_add_72be8_17 (by decide) ?_
    refine lv_iadd hx hb dJx4a65c_add_72be8_18 ?_
    refine lv_topi (fun x2 ex2 => ?_)
    refine rp_ArrayList_size F hK hP hD hS oq kw_113 dJx4a65c_add_72be8_19 (fun H locs hP hD hS => ?_)
    exact kEndV F hr hlk hP hD hS (Nat.le_of_ble_eq_true rfl) (Nat.le_of_ble_eq_true rfl) dJx4a65c_add_72be8_22 ⟨rfl, ⟨_, _, (by rw [ex2]; exact nI_1 n), nI_clamp (by omega), rfl⟩⟩
  · exact absurd ((nI_eq (by omega) (by omega)).mp c1) (by omega)
theorem dJx4a65c_add_9ea2d_0 : decode cJx4a65c_add_9ea2d 0 = .ok (.aload_n 0, 1) := by decide +kernel
theorem dJx4a65c_add_9ea2d_1 : decode cJx4a65c_add_9ea2d 1 = .ok (.dup, 1) := by decide +kernel
theorem dJx4a65c_add_9ea2d_2 : decode cJx4a65c_add_9ea2d 2 = .ok (.getfield 63, 3) := by decide +kernel
theorem dJx4a65c_add_9ea2d_5 : decode cJx4a65c_add_9ea2d 5 = .ok (.iconst 1, 1) := by decide +kernel
theorem dJx4a65c_add_9ea2d_6 : decode cJx4a65c_add_9ea2d 6 = .ok (.iadd, 1) := by decide +kernel
theorem dJx4a65c_add_9ea2d_7 : decode cJx4a65c_add_9ea2d 7 = .ok (.putfield 63, 3) := by decide +kernel
theorem dJx4a65c_add_9ea2d_10 : decode cJx4a65c_add_9ea2d 10 = .ok (.aload_n 0, 1) := by decide +kernel
theorem dJx4a65c_add_9ea2d_11 : decode cJx4a65c_add_9ea2d 11 = .ok (.aload_n 1, 1) := by decide +kernel
theorem dJx4a65c_add_9ea2d_12 : decode cJx4a65c_add_9ea2d 12 = .ok (.aload_n 0, 1) := by decide +kernel
theorem dJx4a65c_add_9ea2d_13 : decode cJx4a65c_add_9ea2d 13 = .ok (.getfield 9, 3) := by decide +kernel
theorem dJx4a65c_add_9ea2d_16 : decode cJx4a65c_add_9ea2d 16 = .ok (.aload_n 0, 1) := by decide +kernel
theorem dJx4a65c_add_9ea2d_17 : decode cJx4a65c_add_9ea2d 17 = .ok (.getfield 48, 3) := by decide +kernel
theorem dJx4a65c_add_9ea2d_20 : decode cJx4a65c_add_9ea2d 20 = .ok (.invokevirtual 131, 3) := by decide +kernel
theorem dJx4a65c_add_9ea2d_23 : decode cJx4a65c_add_9ea2d 23 = .ok (.iconst 1, 1) := by decide +kernel
theorem dJx4a65c_add_9ea2d_24 : decode cJx4a65c_add_9ea2d 24 = .ok (.ireturn, 1) := by decide +kernel
set_option maxHeartbeats 4000000 in
set_option maxRecDepth 100000 in
theorem c_Jx4a65c_add_9ea2d1 (l : Launch) (hl0 : l.stackTraces = false) (g : kG) (e0 : Nat) (S : wPS) (sz : Nat) (q x n : Nat) (oq : Ob S 7 q) (ox : Ob S 1 x) (hL : LI S e0 q 1 n) (hn : n ≤ 5) (he : e0 ∉ pL S) : kM l g e0 yJx4a65c_add_9ea2d cJx4a65c_add_9ea2d 2 (some .boolean) 4 80 1 10 [.ref q, .ref x] S sz (pI (fun r T => AddR S T e0 q 1 n)) (fun E => False) := by
  refine kM.of (by decide) (Nat.le_of_ble_eq_true rfl) ?_
  intro p e s m below meth c ls B hin
  obtain ⟨F, hr, hlk, hte, hP, hK, hD, hE, hS, hA, hl, hsz⟩ := B
  subst hsz
  have hx := F.1
  have hb := F.2.1
  have hl : lv_has ls 2 [(0, .ref q), (1, .ref x)] := hl
  obtain ⟨hs0, hdat⟩ := hL
  have hdat : (n = 0 ∧ pG S 71 q = some e0) ∨ (∃ d, pG S 71 q = some d ∧ Ob S 13 d ∧ (pN S d = 10 ∨ pN S d = 15) ∧ n < pN S d ∧ ∀ i, i < n → ∃ b, pY S d i = some b ∧ Ob S 1 b) ∨ (∃ d, pG S 71 q = some d ∧ Ob S 13 d ∧ (pN S d = 10 ∨ pN S d = 15) ∧ n = pN S d ∧ ∀ i, i < n → ∃ b, pY S d i = some b ∧ Ob S 1 b) := by
    rcases hdat with h | ⟨d, h1, h2, h3, h4, h5⟩
    · exact Or.inl h
    · rcases Nat.lt_or_ge n (pN S d) with q | q
      · exact Or.inr (Or.inl ⟨d, h1, h2, h3, q, h5⟩)
      · exact Or.inr (Or.inr ⟨d, h1, h2, h3, by omega, h5⟩)
  rcases hdat with ⟨hz, hd⟩ | ⟨d, hd, od, hN, hn3, hx9⟩ | ⟨d, hd, od, hN1, hn4, hx9⟩
  · subst hz
    have hs : pF S 72 q = 0 := hs0
    refine lv_aload_n hx hb dJx4a65c_add_9ea2d_0 rfl (lv_at hl 0 rfl) ?_
    refine lv_dup hx hb dJx4a65c_add_9ea2d_1 rfl ?_
    refine rg_ArrayList_modCountA F hK hP oq kw_126 dJx4a65c_add_9ea2d_2 ?_
    refine lv_topi (fun x1 ex1 => ?_)
    refine lv_iconst (v := 1) hx hb dJx4a65c_add_9ea2d_5 (by decide) ?_
    refine lv_iadd hx hb dJx4a65c_add_9ea2d_6 ?_
    refine lv_topi (fun x2 ex2 => ?_)
    refine rp_ArrayList_modCountA F hK hP hD hS oq kw_126 dJx4a65c_add_9ea2d_7 (fun H locs hP hD hS => ?_)
    refine lv_aload_n hx hb dJx4a65c_add_9ea2d_10 rfl (lv_at hl 0 rfl) ?_
    refine lv_aload_n hx hb dJx4a65c_add_9ea2d_11 rfl (lv_at hl 1 rfl) ?_
    refine lv_aload_n hx hb dJx4a65c_add_9ea2d_12 rfl (lv_at hl 0 rfl) ?_
    refine rs_ArrayList_elementData (b := e0) F hK hP oq hd kw_45 dJx4a65c_add_9ea2d_13 ?_
    refine lv_aload_n hx hb dJx4a65c_add_9ea2d_16 rfl (lv_at hl 0 rfl) ?_
    refine rg_ArrayList_size F hK hP oq kw_113 dJx4a65c_add_9ea2d_17 ?_
    refine lv_topi (fun x3 ex3 => ?_)
    obtain rfl : x3 = 0 := by rw [ex3]; exact hs0
    refine kcallU (kV (n := 3) (As := [.ref x, .ref e0, .int 0]) (rest := []) (b := q) (C := RJx4a65c) F hE hK hP hD hS hA (c_Jx4a65c_add_72be8_a1 l hl0 g e0 (setF S 70 q x2) _ q x oq ox hd hs) (rr_ArrayList hK hP oq) kw_128 kw_129 kw_130 kw_26 kw_131 (by decide +kernel) ⟨Nat.le_of_ble_eq_true rfl, Nat.le_of_ble_eq_true rfl⟩ rfl hl.1 rfl (Nat.le_of_ble_eq_true rfl) dJx4a65c_add_9ea2d_20 ⟨Nat.le_of_ble_eq_true rfl, Nat.le_of_ble_eq_true rfl⟩) rfl hD hS hA (fun _ _ _ _ _ h => False.elim h) (fun T4 H locs hp hP hD hS => ?_)
    obtain ⟨d, v, i, hq9, hv9, hi9, hT⟩ := hp
    subst hT
    refine lv_iconst (v := 1) hx hb dJx4a65c_add_9ea2d_23 (by decide) ?_
    exact kEndI F hr rfl hlk hP hD hS (Nat.le_of_ble_eq_true rfl) (Nat.le_of_ble_eq_true rfl) dJx4a65c_add_9ea2d_24 ⟨_, rfl, addR_A he oq ox hd hq9 (fun e => hE.2.1.out (by rw [← e]; exact kD_in hD (List.mem_append_right _ List.mem_cons_self))) hi9 hv9⟩
  · have hn2 : n < pN S d := hn3
    refine lv_aload_n hx hb dJx4a65c_add_9ea2d_0 rfl (lv_at hl 0 rfl) ?_
    refine lv_dup hx hb dJx4a65c_add_9ea2d_1 rfl ?_
    refine rg_ArrayList_modCountA F hK hP oq kw_126 dJx4a65c_add_9ea2d_2 ?_
    refine lv_topi (fun x5 ex5 => ?_)
    refine lv_iconst (v := 1) hx hb dJx4a65c_add_9ea2d_5 (by decide) ?_
    refine lv_iadd hx hb dJx4a65c_add_9ea2d_6 ?_
    refine lv_topi (fun x6 ex6 => ?_)
    refine rp_ArrayList_modCountA F hK hP hD hS oq kw_126 dJx4a65c_add_9ea2d_7 (fun H locs hP hD hS => ?_)
    refine lv_aload_n hx hb dJx4a65c_add_9ea2d_10 rfl (lv_at hl 0 rfl) ?_
    refine lv_aload_n hx hb dJx4a65c_add_9ea2d_11 rfl (lv_at hl 1 rfl) ?_
    refine lv_aload_n hx hb dJx4a65c_add_9ea2d_12 rfl (lv_at hl 0 rfl) ?_
    refine rs_ArrayList_elementData (b := d) F hK hP oq hd kw_45 dJx4a65c_add_9ea2d_13 ?_
    refine lv_aload_n hx hb dJx4a65c_add_9ea2d_16 rfl (lv_at hl 0 rfl) ?_
    refine rg_ArrayList_size F hK hP oq kw_113 dJx4a65c_add_9ea2d_17 ?_
    refine lv_topi (fun x7 ex7 => ?_)
    obtain rfl : x7 = (nI n) := by rw [ex7]; exact hs0
    refine kcallU (kV (n := 3) (As := [.ref x, .ref d, .int (nI n)]) (rest := []) (b := q) (C := RJx4a65c) F hE hK hP hD hS hA (c_Jx4a65c_add_72be8_c1 l hl0 g e0 (setF S 70 q x6) _ q x oq ox d n hd od hn2 hN) (rr_ArrayList hK hP oq) kw_128 kw_129 kw_130 kw_26 kw_131 (by decide +kernel) ⟨Nat.le_of_ble_eq_true rfl, Nat.le_of_ble_eq_true rfl⟩ rfl hl.1 rfl (Nat.le_of_ble_eq_true rfl) dJx4a65c_add_9ea2d_20 ⟨Nat.le_of_ble_eq_true rfl, Nat.le_of_ble_eq_true rfl⟩) rfl hD hS hA (fun _ _ _ _ _ h => False.elim h) (fun T8 H locs hp hP hD hS => ?_)
    obtain ⟨v, i, hv9, hi9, hT⟩ := hp
    subst hT
    refine lv_iconst (v := 1) hx hb dJx4a65c_add_9ea2d_23 (by decide) ?_
    exact kEndI F hr rfl hlk hP hD hS (Nat.le_of_ble_eq_true rfl) (Nat.le_of_ble_eq_true rfl) dJx4a65c_add_9ea2d_24 ⟨_, rfl, addR_C he oq ox hd od hN hn2 hx9 hi9 hv9⟩
  · exact absurd hn4 (by omega)
set_option maxHeartbeats 4000000 in
set_option maxRecDepth 100000 in
theorem c_Jx4a65c_add_9ea2d2 (l : Launch) (hl0 : l.stackTraces = false) (g : kG) (e0 : Nat) (S : wPS) (sz : Nat) (q x n : Nat) (oq : Ob S 7 q) (ox : Ob S 2 x) (hL : LI S e0 q 2 n) (hn : n ≤ 11) (he : e0 ∉ pL S) : kM l g e0 yJx4a65c_add_9ea2d cJx4a65c_add_9ea2d 2 (some .boolean) 6 134 1 15 [.ref q, .ref x] S sz (pI (fun r T => AddR S T e0 q 2 n)) (fun E => False) := by
  refine kM.of (by decide) (Nat.le_of_ble_eq_true rfl) ?_
  intro p e s m below meth c ls B hin
  obtain ⟨F, hr, hlk, hte, hP, hK, hD, hE, hS, hA, hl, hsz⟩ := B
  subst hsz
  have hx := F.1
  have hb := F.2.1
  have hl : lv_has ls 2 [(0, .ref q), (1, .ref x)] := hl
  obtain ⟨hs0, hdat⟩ := hL
  have hdat : (n = 0 ∧ pG S 71 q = some e0) ∨ (∃ d, pG S 71 q = some d ∧ Ob S 13 d ∧ (pN S d = 10 ∨ pN S d = 15) ∧ n < pN S d ∧ ∀ i, i < n → ∃ b, pY S d i = some b ∧ Ob S 2 b) ∨ (∃ d, pG S 71 q = some d ∧ Ob S 13 d ∧ (pN S d = 10 ∨ pN S d = 15) ∧ n = pN S d ∧ ∀ i, i < n → ∃ b, pY S d i = some b ∧ Ob S 2 b) := by
    rcases hdat with h | ⟨d, h1, h2, h3, h4, h5⟩
    · exact Or.inl h
    · rcases Nat.lt_or_ge n (pN S d) with q | q
      · exact Or.inr (Or.inl ⟨d, h1, h2, h3, q, h5⟩)
      · exact Or.inr (Or.inr ⟨d, h1, h2, h3, by omega, h5⟩)
  rcases hdat with ⟨hz, hd⟩ | ⟨d, hd, od, hN, hn3, hx9⟩ | ⟨d, hd, od, hN1, hn4, hx9⟩
  · subst hz
    have hs : pF S 72 q = 0 := hs0
    refine lv_aload_n hx hb dJx4a65c_add_9ea2d_0 rfl (lv_at hl 0 rfl) ?_
    refine lv_dup hx hb dJx4a65c_add_9ea2d_1 rfl ?_
    refine rg_ArrayList_modCountA F hK hP oq kw_126 dJx4a65c_add_9ea2d_2 ?_
    refine lv_topi (fun x1 ex1 => ?_)
    refine lv_iconst (v := 1) hx hb dJx4a65c_add_9ea2d_5 (by decide) ?_
    refine lv_iadd hx hb dJx4a65c_add_9ea2d_6 ?_
    refine lv_topi (fun x2 ex2 => ?_)
    refine rp_ArrayList_modCountA F hK hP hD hS oq kw_126 dJx4a65c_add_9ea2d_7 (fun H locs hP hD hS => ?_)
    refine lv_aload_n hx hb dJx4a65c_add_9ea2d_10 rfl (lv_at hl 0 rfl) ?_
    refine lv_aload_n hx hb dJx4a65c_add_9ea2d_11 rfl (lv_at hl 1 rfl) ?_
    refine lv_aload_n hx hb dJx4a65c_add_9ea2d_12 rfl (lv_at hl 0 rfl) ?_
    refine rs_ArrayList_elementData (b := e0) F hK hP oq hd kw_45 dJx4a65c_add_9ea2d_13 ?_
    refine lv_aload_n hx hb dJx4a65c_add_9ea2d_16 rfl (lv_at hl 0 rfl) ?_
    refine rg_ArrayList_size F hK hP oq kw_113 dJx4a65c_add_9ea2d_17 ?_
    refine lv_topi (fun x3 ex3 => ?_)
    obtain rfl : x3 = 0 := by rw [ex3]; exact hs0
    refine kcallU (kV (n := 3) (As := [.ref x, .ref e0, .int 0]) (rest := []) (b := q) (C := RJx4a65c) F hE hK hP hD hS hA (c_Jx4a65c_add_72be8_a2 l hl0 g e0 (setF S 70 q x2) _ q x oq ox hd hs) (rr_ArrayList hK hP oq) kw_128 kw_129 kw_130 kw_26 kw_131 (by decide +kernel) ⟨Nat.le_of_ble_eq_true rfl, Nat.le_of_ble_eq_true rfl⟩ rfl hl.1 rfl (Nat.le_of_ble_eq_true rfl) dJx4a65c_add_9ea2d_20 ⟨Nat.le_of_ble_eq_true rfl, Nat.le_of_ble_eq_true rfl⟩) rfl hD hS hA (fun _ _ _ _ _ h => False.elim h) (fun T4 H locs hp hP hD hS => ?_)
    obtain ⟨d, v, i, hq9, hv9, hi9, hT⟩ := hp
    subst hT
    refine lv_iconst (v := 1) hx hb dJx4a65c_add_9ea2d_23 (by decide) ?_
    exact kEndI F hr rfl hlk hP hD hS (Nat.le_of_ble_eq_true rfl) (Nat.le_of_ble_eq_true rfl) dJx4a65c_add_9ea2d_24 ⟨_, rfl, addR_A he oq ox hd hq9 (fun e => hE.2.1.out (by rw [← e]; exact kD_in hD (List.mem_append_right _ List.mem_cons_self))) hi9 hv9⟩
  · have hn2 : n < pN S d := hn3
    refine lv_aload_n hx hb dJx4a65c_add_9ea2d_0 rfl (lv_at hl 0 rfl) ?_
    refine lv_dup hx hb dJx4a65c_add_9ea2d_1 rfl ?_
    refine rg_ArrayList_modCountA F hK hP oq kw_126 dJx4a65c_add_9ea2d_2 ?_
    refine lv_topi (fun x5 ex5 => ?_)
    refine lv_iconst (v := 1) hx hb dJx4a65c_add_9ea2d_5 (by decide) ?_
    refine lv_iadd hx hb dJx4a65c_add_9ea2d_6 ?_
    refine lv_topi (fun x6 ex6 => ?_)
    refine rp_ArrayList_modCountA F hK hP hD hS oq kw_126 dJx4a65c_add_9ea2d_7 (fun H locs hP hD hS => ?_)
    refine lv_aload_n hx hb dJx4a65c_add_9ea2d_10 rfl (lv_at hl 0 rfl) ?_
    refine lv_aload_n hx hb dJx4a65c_add_9ea2d_11 rfl (lv_at hl 1 rfl) ?_
    refine lv_aload_n hx hb dJx4a65c_add_9ea2d_12 rfl (lv_at hl 0 rfl) ?_
    refine rs_ArrayList_elementData (b := d) F hK hP oq hd kw_45 dJx4a65c_add_9ea2d_13 ?_
    refine lv_aload_n hx hb dJx4a65c_add_9ea2d_16 rfl (lv_at hl 0 rfl) ?_
    refine rg_ArrayList_size F hK hP oq kw_113 dJx4a65c_add_9ea2d_17 ?_
    refine lv_topi (fun x7 ex7 => ?_)
    obtain rfl : x7 = (nI n) := by rw [ex7]; exact hs0
    refine kcallU (kV (n := 3) (As := [.ref x, .ref d, .int (nI n)]) (rest := []) (b := q) (C := RJx4a65c) F hE hK hP hD hS hA (c_Jx4a65c_add_72be8_c2 l hl0 g e0 (setF S 70 q x6) _ q x oq ox d n hd od hn2 hN) (rr_ArrayList hK hP oq) kw_128 kw_129 kw_130 kw_26 kw_131 (by decide +kernel) ⟨Nat.le_of_ble_eq_true rfl, Nat.le_of_ble_eq_true rfl⟩ rfl hl.1 rfl (Nat.le_of_ble_eq_true rfl) dJx4a65c_add_9ea2d_20 ⟨Nat.le_of_ble_eq_true rfl, Nat.le_of_ble_eq_true rfl⟩) rfl hD hS hA (fun _ _ _ _ _ h => False.elim h) (fun T8 H locs hp hP hD hS => ?_)
    obtain ⟨v, i, hv9, hi9, hT⟩ := hp
    subst hT
    refine lv_iconst (v := 1) hx hb dJx4a65c_add_9ea2d_23 (by decide) ?_
    exact kEndI F hr rfl hlk hP hD hS (Nat.le_of_ble_eq_true rfl) (Nat.le_of_ble_eq_true rfl) dJx4a65c_add_9ea2d_24 ⟨_, rfl, addR_C he oq ox hd od hN hn2 hx9 hi9 hv9⟩
  · have hn10 : n = 10 := by omega
    subst hn10
    have hN : pN S d = 10 := hn4.symm
    have hs : pF S 72 q = 10 := hs0
    have hel : ∀ i y, i < 10 → pY S d i = some y → Ob S 2 y := fun i y hi hy => by
      obtain ⟨y2, h1, h2⟩ := hx9 i hi
      rw [h1] at hy
      rw [← Option.some.inj hy]; exact h2
    refine lv_aload_n hx hb dJx4a65c_add_9ea2d_0 rfl (lv_at hl 0 rfl) ?_
    refine lv_dup hx hb dJx4a65c_add_9ea2d_1 rfl ?_
    refine rg_ArrayList_modCountA F hK hP oq kw_126 dJx4a65c_add_9ea2d_2 ?_
    refine lv_topi (fun x9 ex9 => ?_)
    refine lv_iconst (v := 1) hx hb dJx4a65c_add_9ea2d_5 (by decide) ?_
    refine lv_iadd hx hb dJx4a65c_add_9ea2d_6 ?_
    refine lv_topi (fun x10 ex10 => ?_)
    refine rp_ArrayList_modCountA F hK hP hD hS oq kw_126 dJx4a65c_add_9ea2d_7 (fun H locs hP hD hS => ?_)
    refine lv_aload_n hx hb dJx4a65c_add_9ea2d_10 rfl (lv_at hl 0 rfl) ?_
    refine lv_aload_n hx hb dJx4a65c_add_9ea2d_11 rfl (lv_at hl 1 rfl) ?_
    refine lv_aload_n hx hb dJx4a65c_add_9ea2d_12 rfl (lv_at hl 0 rfl) ?_
    refine rs_ArrayList_elementData (b := d) F hK hP oq hd kw_45 dJx4a65c_add_9ea2d_13 ?_
    refine lv_aload_n hx hb dJx4a65c_add_9ea2d_16 rfl (lv_at hl 0 rfl) ?_
    refine rg_ArrayList_size F hK hP oq kw_113 dJx4a65c_add_9ea2d_17 ?_
    refine lv_topi (fun x11 ex11 => ?_)
    obtain rfl : x11 = 10 := by rw [ex11]; exact hs0
    refine kcallU (kV (n := 3) (As := [.ref x, .ref d, .int 10]) (rest := []) (b := q) (C := RJx4a65c) F hE hK hP hD hS hA (c_Jx4a65c_add_72be8_b2 l hl0 g e0 (setF S 70 q x10) _ q x oq ox d hd od hN hel hs) (rr_ArrayList hK hP oq) kw_128 kw_129 kw_130 kw_26 kw_131 (by decide +kernel) ⟨Nat.le_of_ble_eq_true rfl, Nat.le_of_ble_eq_true rfl⟩ rfl hl.1 rfl (Nat.le_of_ble_eq_true rfl) dJx4a65c_add_9ea2d_20 ⟨Nat.le_of_ble_eq_true rfl, Nat.le_of_ble_eq_true rfl⟩) rfl hD hS hA (fun _ _ _ _ _ h => False.elim h) (fun T12 H locs hp hP hD hS => ?_)
    obtain ⟨d1, v, i, hq9, hv9, hi9, hT⟩ := hp
    subst hT
    refine lv_iconst (v := 1) hx hb dJx4a65c_add_9ea2d_23 (by decide) ?_
    exact kEndI F hr rfl hlk hP hD hS (Nat.le_of_ble_eq_true rfl) (Nat.le_of_ble_eq_true rfl) dJx4a65c_add_9ea2d_24 ⟨_, rfl, addR_B he oq ox hd od hx9 (fun i hi => pk_cpy_in (Nat.zero_le i) (by omega) |>.trans (by rw [Nat.zero_add, Nat.sub_zero]; rfl)) hq9 (fun e => hE.2.1.out (by rw [← e]; exact kD_in hD (List.mem_append_right _ List.mem_cons_self))) hi9 hv9⟩
end
section
theorem dX5_checkCarrier_0 : decode cX5_checkCarrier 0 = .ok (.aload_n 0, 1) := by decide +kernel
theorem dX5_checkCarrier_1 : decode cX5_checkCarrier 1 = .ok (.iload_n 1, 1) := by decide +kernel
theorem dX5_checkCarrier_2 : decode cX5_checkCarrier 2 = .ok (.invokevirtual 158, 3) := by decide +kernel
theorem dX5_checkCarrier_5 : decode cX5_checkCarrier 5 = .ok (.ifCond .ne 13, 3) := by decide +kernel
theorem dX5_checkCarrier_8 : decode cX5_checkCarrier 8 = .ok (.new 275, 3) := by decide +kernel
theorem dX5_checkCarrier_11 : decode cX5_checkCarrier 11 = .ok (.dup, 1) := by decide +kernel
theorem dX5_checkCarrier_12 : decode cX5_checkCarrier 12 = .ok (.ldc 161, 2) := by decide +kernel
theorem dX5_checkCarrier_14 : decode cX5_checkCarrier 14 = .ok (.invokespecial 279, 3) := by decide +kernel
theorem dX5_checkCarrier_17 : decode cX5_checkCarrier 17 = .ok (.athrow, 1) := by decide +kernel
theorem dX5_checkCarrier_18 : decode cX5_checkCarrier 18 = .ok (.return_, 1) := by decide +kernel
set_option maxHeartbeats 4000000 in
set_option maxRecDepth 100000 in
theorem c_X5_checkCarrier (l : Launch) (hl0 : l.stackTraces = false) (g : kG) (e0 : Nat) (z : Nat → Nat) (S : wPS) (sz : Nat) (hI : Inv z e0 S) (n : Int32) : kM l g e0 yX5_checkCarrier cX5_checkCarrier 2 none 6 82 1 6 [.ref (z 0), .int n] S sz (pU (fun T => T = S ∧ ¬ n < 0 ∧ ¬ 3 ≤ n)) (fun E => E = xI ∧ (n < 0 ∨ 3 ≤ n)) := by
  refine kM.of (by decide) (Nat.le_of_ble_eq_true rfl) ?_
  intro p e s m below meth c ls B hin
  obtain ⟨F, hr, hlk, hte, hP, hK, hD, hE, hS, hA, hl, hsz⟩ := B
  subst hsz
  have hx := F.1
  have hb := F.2.1
  have hl : lv_has ls 2 [(0, .ref (z 0)), (1, .int n)] := hl
  refine lv_aload_n hx hb dX5_checkCarrier_0 rfl (lv_at hl 0 rfl) ?_
  refine lv_iload_n hx hb dX5_checkCarrier_1 rfl (lv_at hl 1 rfl) ?_
  refine kcallI (kV (n := 1) (As := [.int n]) (rest := []) (b := (z 0)) (C := RX5) F hE hK hP hD hS hA (c_X5_isCarrier l hl0 g e0 z S _ hI n) (rr_Pickwave hK hP (hI.1.1 0 (by decide))) kw_407 kw_408 kw_409 kw_2 kw_410 (by decide +kernel) ⟨Nat.le_of_ble_eq_true rfl, Nat.le_of_ble_eq_true rfl⟩ rfl hl.1 rfl (Nat.le_of_ble_eq_true rfl) dX5_checkCarrier_2 ⟨Nat.le_of_ble_eq_true rfl, Nat.le_of_ble_eq_true rfl⟩) rfl hD hS hA (fun _ _ _ _ _ h => False.elim h) (fun r1 T1 H locs hp hP hD hS => ?_)
  obtain ⟨hT, hp2⟩ := hp
  have hT := hT.symm
  subst hT
  refine lv_if_ne (tgt := 18) hx hb dX5_checkCarrier_5 (by decide) (fun c3 => ?_) (fun c3 => ?_)
  · exact kEndV F hr hlk hP hD hS (Nat.le_of_ble_eq_true rfl) (Nat.le_of_ble_eq_true rfl) dX5_checkCarrier_18 ⟨rfl, ⟨rfl, by rcases hp2 with ⟨-, h1, h2⟩ | ⟨h, -⟩; exact ⟨h1, h2⟩; exact absurd h c3⟩⟩
  · exact kth_IOOBE hl0 F hE hlk hte hP hS hl.1 (List.mem_of_getElem? (i := 9) rfl) dX5_checkCarrier_8 dX5_checkCarrier_11 dX5_checkCarrier_12 dX5_checkCarrier_14 dX5_checkCarrier_17 ⟨Nat.le_of_ble_eq_true rfl, Nat.le_of_ble_eq_true rfl, Nat.le_of_ble_eq_true rfl, Nat.le_of_ble_eq_true rfl⟩ (Nat.le_of_ble_eq_true rfl) (Nat.le_of_ble_eq_true rfl) (⟨rfl, by rcases hp2 with ⟨h, -, -⟩ | ⟨-, h⟩; exact absurd c3 (by rw [h]; decide); exact h⟩)
theorem dX5_findAisle_0 : decode cX5_findAisle 0 = .ok (.aload_n 0, 1) := by decide +kernel
theorem dX5_findAisle_1 : decode cX5_findAisle 1 = .ok (.iload_n 1, 1) := by decide +kernel
theorem dX5_findAisle_2 : decode cX5_findAisle 2 = .ok (.invokevirtual 46, 3) := by decide +kernel
theorem dX5_findAisle_5 : decode cX5_findAisle 5 = .ok (.ifCond .ne 13, 3) := by decide +kernel
theorem dX5_findAisle_8 : decode cX5_findAisle 8 = .ok (.new 275, 3) := by decide +kernel
theorem dX5_findAisle_11 : decode cX5_findAisle 11 = .ok (.dup, 1) := by decide +kernel
theorem dX5_findAisle_12 : decode cX5_findAisle 12 = .ok (.ldc 52, 2) := by decide +kernel
theorem dX5_findAisle_14 : decode cX5_findAisle 14 = .ok (.invokespecial 279, 3) := by decide +kernel
theorem dX5_findAisle_17 : decode cX5_findAisle 17 = .ok (.athrow, 1) := by decide +kernel
theorem dX5_findAisle_18 : decode cX5_findAisle 18 = .ok (.aload_n 0, 1) := by decide +kernel
theorem dX5_findAisle_19 : decode cX5_findAisle 19 = .ok (.getfield 11, 3) := by decide +kernel
theorem dX5_findAisle_22 : decode cX5_findAisle 22 = .ok (.iload_n 1, 1) := by decide +kernel
theorem dX5_findAisle_23 : decode cX5_findAisle 23 = .ok (.aaload, 1) := by decide +kernel
theorem dX5_findAisle_24 : decode cX5_findAisle 24 = .ok (.areturn, 1) := by decide +kernel
set_option maxHeartbeats 4000000 in
set_option maxRecDepth 100000 in
theorem c_X5_findAisle (l : Launch) (hl0 : l.stackTraces = false) (g : kG) (e0 : Nat) (z : Nat → Nat) (S : wPS) (sz : Nat) (hI : Inv z e0 S) (n : Int32) : kM l g e0 yX5_findAisle cX5_findAisle 2 (some (.object "Pickwave$Aisle")) 6 82 1 6 [.ref (z 0), .int n] S sz (pR (fun b T => T = S ∧ ∃ j, j < 4 ∧ n = nI j ∧ b = z (2 + j))) (fun E => E = xI ∧ (n < 0 ∨ 4 ≤ n)) := by
  refine kM.of (by decide) (Nat.le_of_ble_eq_true rfl) ?_
  intro p e s m below meth c ls B hin
  obtain ⟨F, hr, hlk, hte, hP, hK, hD, hE, hS, hA, hl, hsz⟩ := B
  subst hsz
  have hx := F.1
  have hb := F.2.1
  have hl : lv_has ls 2 [(0, .ref (z 0)), (1, .int n)] := hl
  refine lv_aload_n hx hb dX5_findAisle_0 rfl (lv_at hl 0 rfl) ?_
  refine lv_iload_n hx hb dX5_findAisle_1 rfl (lv_at hl 1 rfl) ?_
  refine kcallI (kV (n := 1) (As := [.int n]) (rest := []) (b := (z 0)) (C := RX5) F hE hK hP hD hS hA (c_X5_isAisle l hl0 g e0 z S _ hI n) (rr_Pickwave hK hP (hI.1.1 0 (by decide))) kw_102 kw_103 kw_104 kw_2 kw_105 (by decide +kernel) ⟨Nat.le_of_ble_eq_true rfl, Nat.le_of_ble_eq_true rfl⟩ rfl hl.1 rfl (Nat.le_of_ble_eq_true rfl) dX5_findAisle_2 ⟨Nat.le_of_ble_eq_true rfl, Nat.le_of_ble_eq_true rfl⟩) rfl hD hS hA (fun _ _ _ _ _ h => False.elim h) (fun r1 T1 H locs hp hP hD hS => ?_)
  obtain ⟨hT, hp2⟩ := hp
  have hT := hT.symm
  subst hT
  refine lv_if_ne (tgt := 18) hx hb dX5_findAisle_5 (by decide) (fun c3 => ?_) (fun c3 => ?_)
  · have hin2 : ¬ n < 0 ∧ ¬ 4 ≤ n := by rcases hp2 with ⟨-, h1, h2⟩ | ⟨h, -⟩; exact ⟨h1, h2⟩; exact absurd h c3
    obtain ⟨j4, hj4, hn4⟩ := kix (M := 4) (N := 4) rfl (by decide) (hin2).1 (hin2).2
    refine lv_aload_n hx hb dX5_findAisle_18 rfl (lv_at hl 0 rfl) ?_
    refine rs_Pickwave_aisles (b := z 1) F hK hP (hI.1.1 0 (by decide)) hI.2.1.1 kw_15 dX5_findAisle_19 ?_
    refine lv_iload_n hx hb dX5_findAisle_22 rfl (lv_at hl 1 rfl) ?_
    refine rds_Aisle (b := z (2 + j4)) F hK hP (hI.1.1 1 (by decide)) (by rw [hn4, hI.2.2.1.1]; exact vp_in_nI hj4 (by decide)) (by rw [hn4, nI_clamp (by omega)]; exact hI.2.2.1.2.1 _ hj4) dX5_findAisle_23 ?_
    exact kEndR F hr (Or.inl ⟨_, rfl⟩) (Or.inr ⟨_, rfl⟩) hlk hP hD hS (Nat.le_of_ble_eq_true rfl) (Nat.le_of_ble_eq_true rfl) dX5_findAisle_24 ⟨_, rfl, ⟨rfl, _, hj4, hn4, rfl⟩⟩
  · exact kth_IOOBE hl0 F hE hlk hte hP hS hl.1 (List.mem_of_getElem? (i := 0) rfl) dX5_findAisle_8 dX5_findAisle_11 dX5_findAisle_12 dX5_findAisle_14 dX5_findAisle_17 ⟨Nat.le_of_ble_eq_true rfl, Nat.le_of_ble_eq_true rfl, Nat.le_of_ble_eq_true rfl, Nat.le_of_ble_eq_true rfl⟩ (Nat.le_of_ble_eq_true rfl) (Nat.le_of_ble_eq_true rfl) (⟨rfl, by rcases hp2 with ⟨h, -, -⟩ | ⟨-, h⟩; exact absurd c3 (by rw [h]; decide); exact h⟩)
theorem dX5_findRobot_0 : decode cX5_findRobot 0 = .ok (.iload_n 1, 1) := by decide +kernel
theorem dX5_findRobot_1 : decode cX5_findRobot 1 = .ok (.ifCond .lt 12, 3) := by decide +kernel
theorem dX5_findRobot_4 : decode cX5_findRobot 4 = .ok (.iload_n 1, 1) := by decide +kernel
theorem dX5_findRobot_5 : decode cX5_findRobot 5 = .ok (.aload_n 0, 1) := by decide +kernel
theorem dX5_findRobot_6 : decode cX5_findRobot 6 = .ok (.getfield 24, 3) := by decide +kernel
theorem dX5_findRobot_9 : decode cX5_findRobot 9 = .ok (.arraylength, 1) := by decide +kernel
theorem dX5_findRobot_10 : decode cX5_findRobot 10 = .ok (.if_icmp .lt 14, 3) := by decide +kernel
theorem dX5_findRobot_13 : decode cX5_findRobot 13 = .ok (.new 275, 3) := by decide +kernel
theorem dX5_findRobot_16 : decode cX5_findRobot 16 = .ok (.dup, 1) := by decide +kernel
theorem dX5_findRobot_17 : decode cX5_findRobot 17 = .ok (.ldc_w 293, 3) := by decide +kernel
theorem dX5_findRobot_20 : decode cX5_findRobot 20 = .ok (.invokespecial 279, 3) := by decide +kernel
theorem dX5_findRobot_23 : decode cX5_findRobot 23 = .ok (.athrow, 1) := by decide +kernel
theorem dX5_findRobot_24 : decode cX5_findRobot 24 = .ok (.aload_n 0, 1) := by decide +kernel
theorem dX5_findRobot_25 : decode cX5_findRobot 25 = .ok (.getfield 24, 3) := by decide +kernel
theorem dX5_findRobot_28 : decode cX5_findRobot 28 = .ok (.iload_n 1, 1) := by decide +kernel
theorem dX5_findRobot_29 : decode cX5_findRobot 29 = .ok (.aaload, 1) := by decide +kernel
theorem dX5_findRobot_30 : decode cX5_findRobot 30 = .ok (.areturn, 1) := by decide +kernel
set_option maxHeartbeats 4000000 in
set_option maxRecDepth 100000 in
theorem c_X5_findRobot (l : Launch) (hl0 : l.stackTraces = false) (g : kG) (e0 : Nat) (z : Nat → Nat) (S : wPS) (sz : Nat) (hI : Inv z e0 S) (n : Int32) : kM l g e0 yX5_findRobot cX5_findRobot 2 (some (.object "Pickwave$Robot")) 6 82 1 6 [.ref (z 0), .int n] S sz (pR (fun b T => T = S ∧ ∃ j, j < 2 ∧ n = nI j ∧ b = z (8 + j))) (fun E => E = xI ∧ (n < 0 ∨ ¬ n < 2)) := by
  refine kM.of (by decide) (Nat.le_of_ble_eq_true rfl) ?_
  intro p e s m below meth c ls B hin
  obtain ⟨F, hr, hlk, hte, hP, hK, hD, hE, hS, hA, hl, hsz⟩ := B
  subst hsz
  have hx := F.1
  have hb := F.2.1
  have hl : lv_has ls 2 [(0, .ref (z 0)), (1, .int n)] := hl
  refine lv_iload_n hx hb dX5_findRobot_0 rfl (lv_at hl 1 rfl) ?_
  refine lv_if_lt (tgt := 13) hx hb dX5_findRobot_1 (by decide) (fun c1 => ?_) (fun c1 => ?_)
  · exact kth_IOOBEW hl0 F hE hlk hte hP hS hl.1 (List.mem_of_getElem? (i := 28) rfl) dX5_findRobot_13 dX5_findRobot_16 dX5_findRobot_17 dX5_findRobot_20 dX5_findRobot_23 ⟨Nat.le_of_ble_eq_true rfl, Nat.le_of_ble_eq_true rfl, Nat.le_of_ble_eq_true rfl, Nat.le_of_ble_eq_true rfl⟩ (Nat.le_of_ble_eq_true rfl) (Nat.le_of_ble_eq_true rfl) (⟨rfl, Or.inl c1⟩)
  · refine lv_iload_n hx hb dX5_findRobot_4 rfl (lv_at hl 1 rfl) ?_
    refine lv_aload_n hx hb dX5_findRobot_5 rfl (lv_at hl 0 rfl) ?_
    refine rs_Pickwave_robots (b := z 7) F hK hP (hI.1.1 0 (by decide)) hI.2.1.2.2.1 kw_21 dX5_findRobot_6 ?_
    refine rl_Robot (v := 2) F hK hP (hI.1.1 7 (by decide)) (congrArg Int32.ofNat (show pN S (z 7) = 2 from hI.2.2.1.2.2.2.1)) dX5_findRobot_9 ?_
    refine lv_icmp_lt (tgt := 24) hx hb dX5_findRobot_10 (by decide) (fun c2 => ?_) (fun c2 => ?_)
    · have hin2 : ¬ n < 0 ∧ ¬ 2 ≤ n := ⟨c1, Int32.not_le.mpr c2⟩
      obtain ⟨j3, hj3, hn3⟩ := kix (M := 2) (N := 2) rfl (by decide) (hin2).1 (hin2).2
      refine lv_aload_n hx hb dX5_findRobot_24 rfl (lv_at hl 0 rfl) ?_
      refine rs_Pickwave_robots (b := z 7) F hK hP (hI.1.1 0 (by decide)) hI.2.1.2.2.1 kw_21 dX5_findRobot_25 ?_
      refine lv_iload_n hx hb dX5_findRobot_28 rfl (lv_at hl 1 rfl) ?_
      refine rds_Robot (b := z (8 + j3)) F hK hP (hI.1.1 7 (by decide)) (by rw [hn3, hI.2.2.1.2.2.2.1]; exact vp_in_nI hj3 (by decide)) (by rw [hn3, nI_clamp (by omega)]; exact hI.2.2.1.2.2.2.2.1 _ hj3) dX5_findRobot_29 ?_
      exact kEndR F hr (Or.inl ⟨_, rfl⟩) (Or.inr ⟨_, rfl⟩) hlk hP hD hS (Nat.le_of_ble_eq_true rfl) (Nat.le_of_ble_eq_true rfl) dX5_findRobot_30 ⟨_, rfl, ⟨rfl, _, hj3, hn3, rfl⟩⟩
    · exact kth_IOOBEW hl0 F hE hlk hte hP hS hl.1 (List.mem_of_getElem? (i := 28) rfl) dX5_findRobot_13 dX5_findRobot_16 dX5_findRobot_17 dX5_findRobot_20 dX5_findRobot_23 ⟨Nat.le_of_ble_eq_true rfl, Nat.le_of_ble_eq_true rfl, Nat.le_of_ble_eq_true rfl, Nat.le_of_ble_eq_true rfl⟩ (Nat.le_of_ble_eq_true rfl) (Nat.le_of_ble_eq_true rfl) (⟨rfl, Or.inr c2⟩)
theorem dX5_findArticle_0 : decode cX5_findArticle 0 = .ok (.iload_n 1, 1) := by decide +kernel
theorem dX5_findArticle_1 : decode cX5_findArticle 1 = .ok (.ifCond .lt 14, 3) := by decide +kernel
theorem dX5_findArticle_4 : decode cX5_findArticle 4 = .ok (.iload_n 1, 1) := by decide +kernel
theorem dX5_findArticle_5 : decode cX5_findArticle 5 = .ok (.aload_n 0, 1) := by decide +kernel
theorem dX5_findArticle_6 : decode cX5_findArticle 6 = .ok (.getfield 32, 3) := by decide +kernel
theorem dX5_findArticle_9 : decode cX5_findArticle 9 = .ok (.invokevirtual 65, 3) := by decide +kernel
theorem dX5_findArticle_12 : decode cX5_findArticle 12 = .ok (.if_icmp .lt 14, 3) := by decide +kernel
theorem dX5_findArticle_15 : decode cX5_findArticle 15 = .ok (.new 275, 3) := by decide +kernel
theorem dX5_findArticle_18 : decode cX5_findArticle 18 = .ok (.dup, 1) := by decide +kernel
theorem dX5_findArticle_19 : decode cX5_findArticle 19 = .ok (.ldc_w 289, 3) := by decide +kernel
theorem dX5_findArticle_22 : decode cX5_findArticle 22 = .ok (.invokespecial 279, 3) := by decide +kernel
theorem dX5_findArticle_25 : decode cX5_findArticle 25 = .ok (.athrow, 1) := by decide +kernel
theorem dX5_findArticle_26 : decode cX5_findArticle 26 = .ok (.aload_n 0, 1) := by decide +kernel
theorem dX5_findArticle_27 : decode cX5_findArticle 27 = .ok (.getfield 32, 3) := by decide +kernel
theorem dX5_findArticle_30 : decode cX5_findArticle 30 = .ok (.iload_n 1, 1) := by decide +kernel
theorem dX5_findArticle_31 : decode cX5_findArticle 31 = .ok (.invokevirtual 100, 3) := by decide +kernel
theorem dX5_findArticle_34 : decode cX5_findArticle 34 = .ok (.checkcast 74, 3) := by decide +kernel
theorem dX5_findArticle_37 : decode cX5_findArticle 37 = .ok (.areturn, 1) := by decide +kernel
set_option maxHeartbeats 4000000 in
set_option maxRecDepth 100000 in
theorem c_X5_findArticle (l : Launch) (hl0 : l.stackTraces = false) (g : kG) (e0 : Nat) (z : Nat → Nat) (S : wPS) (sz : Nat) (hI : Inv z e0 S) (n : Int32) : kM l g e0 yX5_findArticle cX5_findArticle 2 (some (.object "Pickwave$Article")) 6 82 1 6 [.ref (z 0), .int n] S sz (pR (fun b T => T = S ∧ Ob S 1 b ∧ ¬ n < 0 ∧ n < pF S 72 (z 10))) (fun E => E = xI ∧ (n < 0 ∨ ¬ n < pF S 72 (z 10))) := by
  refine kM.of (by decide) (Nat.le_of_ble_eq_true rfl) ?_
  intro p e s m below meth c ls B hin
  obtain ⟨F, hr, hlk, hte, hP, hK, hD, hE, hS, hA, hl, hsz⟩ := B
  subst hsz
  have hx := F.1
  have hb := F.2.1
  have hl : lv_has ls 2 [(0, .ref (z 0)), (1, .int n)] := hl
  obtain ⟨m1, hm1, hL1⟩ := hI.arts
  refine lv_iload_n hx hb dX5_findArticle_0 rfl (lv_at hl 1 rfl) ?_
  refine lv_if_lt (tgt := 15) hx hb dX5_findArticle_1 (by decide) (fun c1 => ?_) (fun c1 => ?_)
  · exact kth_IOOBEW hl0 F hE hlk hte hP hS hl.1 (List.mem_of_getElem? (i := 26) rfl) dX5_findArticle_15 dX5_findArticle_18 dX5_findArticle_19 dX5_findArticle_22 dX5_findArticle_25 ⟨Nat.le_of_ble_eq_true rfl, Nat.le_of_ble_eq_true rfl, Nat.le_of_ble_eq_true rfl, Nat.le_of_ble_eq_true rfl⟩ (Nat.le_of_ble_eq_true rfl) (Nat.le_of_ble_eq_true rfl) (⟨rfl, Or.inl c1⟩)
  · refine lv_iload_n hx hb dX5_findArticle_4 rfl (lv_at hl 1 rfl) ?_
    refine lv_aload_n hx hb dX5_findArticle_5 rfl (lv_at hl 0 rfl) ?_
    refine rs_Pickwave_articles (b := z 10) F hK hP (hI.1.1 0 (by decide)) hI.2.1.2.2.2.1 kw_27 dX5_findArticle_6 ?_
    refine kcallI (kV (n := 0) (As := []) (rest := [.int n]) (b := (z 10)) (C := RJx4a65c) F hE hK hP hD hS hA (c_Jx4a65c_size_8abf5 l hl0 g e0 S _ (z 10) (hI.1.1 10 (by decide))) (rr_ArrayList hK hP (hI.1.1 10 (by decide))) kw_109 kw_110 kw_111 kw_26 kw_112 (by decide +kernel) ⟨Nat.le_of_ble_eq_true rfl, Nat.le_of_ble_eq_true rfl⟩ rfl hl.1 rfl (Nat.le_of_ble_eq_true rfl) dX5_findArticle_9 ⟨Nat.le_of_ble_eq_true rfl, Nat.le_of_ble_eq_true rfl⟩) rfl hD hS hA (fun _ _ _ _ _ h => False.elim h) (fun r2 T2 H locs hp hP hD hS => ?_)
    obtain ⟨hT, hp3⟩ := hp
    have hT := hT.symm
    subst hT
    refine lv_icmp_lt (tgt := 26) hx hb dX5_findArticle_12 (by decide) (fun c4 => ?_) (fun c4 => ?_)
    · refine lv_aload_n hx hb dX5_findArticle_26 rfl (lv_at hl 0 rfl) ?_
      refine rs_Pickwave_articles (b := z 10) F hK hP (hI.1.1 0 (by decide)) hI.2.1.2.2.2.1 kw_27 dX5_findArticle_27 ?_
      refine lv_iload_n hx hb dX5_findArticle_30 rfl (lv_at hl 1 rfl) ?_
      refine kcallR (kV (n := 1) (As := [.int n]) (rest := []) (b := (z 10)) (C := RJx4a65c) F hE hK hP hD hS hA (c_Jx4a65c_get_915e3 l hl0 g e0 S _ (z 10) 1 _ n (hI.1.1 10 (by decide)) hL1 c1 (by rw [← hp3]; exact c4) (by omega)) (rr_ArrayList hK hP (hI.1.1 10 (by decide))) kw_207 kw_208 kw_209 kw_26 kw_210 (by decide +kernel) ⟨Nat.le_of_ble_eq_true rfl, Nat.le_of_ble_eq_true rfl⟩ rfl hl.1 rfl (Nat.le_of_ble_eq_true rfl) dX5_findArticle_31 ⟨Nat.le_of_ble_eq_true rfl, Nat.le_of_ble_eq_true rfl⟩) rfl hD hS hA (fun _ _ _ _ _ h => False.elim h) (fun b5 T5 H locs hp hP hD hS => ?_)
      obtain ⟨hT, hp6⟩ := hp
      have hT := hT.symm
      subst hT
      refine va_castS hx hb F.2.2.2.1 (F.2.2.2.2 _ kw_99) (hK.1 2 _ rfl).2 (rr_Article hK hP hp6.1) dX5_findArticle_34 ?_
      exact kEndR F hr (Or.inl ⟨_, rfl⟩) (Or.inr ⟨_, rfl⟩) hlk hP hD hS (Nat.le_of_ble_eq_true rfl) (Nat.le_of_ble_eq_true rfl) dX5_findArticle_37 ⟨_, rfl, ⟨rfl, hp6.1, c1, (by rw [← hp3]; exact c4)⟩⟩
    · exact kth_IOOBEW hl0 F hE hlk hte hP hS hl.1 (List.mem_of_getElem? (i := 26) rfl) dX5_findArticle_15 dX5_findArticle_18 dX5_findArticle_19 dX5_findArticle_22 dX5_findArticle_25 ⟨Nat.le_of_ble_eq_true rfl, Nat.le_of_ble_eq_true rfl, Nat.le_of_ble_eq_true rfl, Nat.le_of_ble_eq_true rfl⟩ (Nat.le_of_ble_eq_true rfl) (Nat.le_of_ble_eq_true rfl) (⟨rfl, Or.inr (by rw [← hp3]; exact c4)⟩)
theorem dX5_findLine_0 : decode cX5_findLine 0 = .ok (.iload_n 1, 1) := by decide +kernel
theorem dX5_findLine_1 : decode cX5_findLine 1 = .ok (.ifCond .lt 14, 3) := by decide +kernel
theorem dX5_findLine_4 : decode cX5_findLine 4 = .ok (.iload_n 1, 1) := by decide +kernel
theorem dX5_findLine_5 : decode cX5_findLine 5 = .ok (.aload_n 0, 1) := by decide +kernel
theorem dX5_findLine_6 : decode cX5_findLine 6 = .ok (.getfield 36, 3) := by decide +kernel
theorem dX5_findLine_9 : decode cX5_findLine 9 = .ok (.invokevirtual 65, 3) := by decide +kernel
theorem dX5_findLine_12 : decode cX5_findLine 12 = .ok (.if_icmp .lt 14, 3) := by decide +kernel
theorem dX5_findLine_15 : decode cX5_findLine 15 = .ok (.new 275, 3) := by decide +kernel
theorem dX5_findLine_18 : decode cX5_findLine 18 = .ok (.dup, 1) := by decide +kernel
theorem dX5_findLine_19 : decode cX5_findLine 19 = .ok (.ldc_w 291, 3) := by decide +kernel
theorem dX5_findLine_22 : decode cX5_findLine 22 = .ok (.invokespecial 279, 3) := by decide +kernel
theorem dX5_findLine_25 : decode cX5_findLine 25 = .ok (.athrow, 1) := by decide +kernel
theorem dX5_findLine_26 : decode cX5_findLine 26 = .ok (.aload_n 0, 1) := by decide +kernel
theorem dX5_findLine_27 : decode cX5_findLine 27 = .ok (.getfield 36, 3) := by decide +kernel
theorem dX5_findLine_30 : decode cX5_findLine 30 = .ok (.iload_n 1, 1) := by decide +kernel
theorem dX5_findLine_31 : decode cX5_findLine 31 = .ok (.invokevirtual 100, 3) := by decide +kernel
theorem dX5_findLine_34 : decode cX5_findLine 34 = .ok (.checkcast 104, 3) := by decide +kernel
theorem dX5_findLine_37 : decode cX5_findLine 37 = .ok (.areturn, 1) := by decide +kernel
set_option maxHeartbeats 4000000 in
set_option maxRecDepth 100000 in
theorem c_X5_findLine (l : Launch) (hl0 : l.stackTraces = false) (g : kG) (e0 : Nat) (z : Nat → Nat) (S : wPS) (sz : Nat) (hI : Inv z e0 S) (n : Int32) : kM l g e0 yX5_findLine cX5_findLine 2 (some (.object "Pickwave$Line")) 6 82 1 6 [.ref (z 0), .int n] S sz (pR (fun b T => T = S ∧ Ob S 2 b ∧ ¬ n < 0 ∧ n < pF S 72 (z 11))) (fun E => E = xI ∧ (n < 0 ∨ ¬ n < pF S 72 (z 11))) := by
  refine kM.of (by decide) (Nat.le_of_ble_eq_true rfl) ?_
  intro p e s m below meth c ls B hin
  obtain ⟨F, hr, hlk, hte, hP, hK, hD, hE, hS, hA, hl, hsz⟩ := B
  subst hsz
  have hx := F.1
  have hb := F.2.1
  have hl : lv_has ls 2 [(0, .ref (z 0)), (1, .int n)] := hl
  obtain ⟨m1, hm1, hL1⟩ := hI.lines
  refine lv_iload_n hx hb dX5_findLine_0 rfl (lv_at hl 1 rfl) ?_
  refine lv_if_lt (tgt := 15) hx hb dX5_findLine_1 (by decide) (fun c1 => ?_) (fun c1 => ?_)
  · exact kth_IOOBEW hl0 F hE hlk hte hP hS hl.1 (List.mem_of_getElem? (i := 27) rfl) dX5_findLine_15 dX5_findLine_18 dX5_findLine_19 dX5_findLine_22 dX5_findLine_25 ⟨Nat.le_of_ble_eq_true rfl, Nat.le_of_ble_eq_true rfl, Nat.le_of_ble_eq_true rfl, Nat.le_of_ble_eq_true rfl⟩ (Nat.le_of_ble_eq_true rfl) (Nat.le_of_ble_eq_true rfl) (⟨rfl, Or.inl c1⟩)
  · refine lv_iload_n hx hb dX5_findLine_4 rfl (lv_at hl 1 rfl) ?_
    refine lv_aload_n hx hb dX5_findLine_5 rfl (lv_at hl 0 rfl) ?_
    refine rs_Pickwave_lines (b := z 11) F hK hP (hI.1.1 0 (by decide)) hI.2.1.2.2.2.2.1 kw_28 dX5_findLine_6 ?_
    refine kcallI (kV (n := 0) (As := []) (rest := [.int n]) (b := (z 11)) (C := RJx4a65c) F hE hK hP hD hS hA (c_Jx4a65c_size_8abf5 l hl0 g e0 S _ (z 11) (hI.1.1 11 (by decide))) (rr_ArrayList hK hP (hI.1.1 11 (by decide))) kw_109 kw_110 kw_111 kw_26 kw_112 (by decide +kernel) ⟨Nat.le_of_ble_eq_true rfl, Nat.le_of_ble_eq_true rfl⟩ rfl hl.1 rfl (Nat.le_of_ble_eq_true rfl) dX5_findLine_9 ⟨Nat.le_of_ble_eq_true rfl, Nat.le_of_ble_eq_true rfl⟩) rfl hD hS hA (fun _ _ _ _ _ h => False.elim h) (fun r2 T2 H locs hp hP hD hS => ?_)
    obtain ⟨hT, hp3⟩ := hp
    have hT := hT.symm
    subst hT
    refine lv_icmp_lt (tgt := 26) hx hb dX5_findLine_12 (by decide) (fun c4 => ?_) (fun c4 => ?_)
    · refine lv_aload_n hx hb dX5_findLine_26 rfl (lv_at hl 0 rfl) ?_
      refine rs_Pickwave_lines (b := z 11) F hK hP (hI.1.1 0 (by decide)) hI.2.1.2.2.2.2.1 kw_28 dX5_findLine_27 ?_
      refine lv_iload_n hx hb dX5_findLine_30 rfl (lv_at hl 1 rfl) ?_
      refine kcallR (kV (n := 1) (As := [.int n]) (rest := []) (b := (z 11)) (C := RJx4a65c) F hE hK hP hD hS hA (c_Jx4a65c_get_915e3 l hl0 g e0 S _ (z 11) 2 _ n (hI.1.1 11 (by decide)) hL1 c1 (by rw [← hp3]; exact c4) (by omega)) (rr_ArrayList hK hP (hI.1.1 11 (by decide))) kw_207 kw_208 kw_209 kw_26 kw_210 (by decide +kernel) ⟨Nat.le_of_ble_eq_true rfl, Nat.le_of_ble_eq_true rfl⟩ rfl hl.1 rfl (Nat.le_of_ble_eq_true rfl) dX5_findLine_31 ⟨Nat.le_of_ble_eq_true rfl, Nat.le_of_ble_eq_true rfl⟩) rfl hD hS hA (fun _ _ _ _ _ h => False.elim h) (fun b5 T5 H locs hp hP hD hS => ?_)
      obtain ⟨hT, hp6⟩ := hp
      have hT := hT.symm
      subst hT
      refine va_castS hx hb F.2.2.2.1 (F.2.2.2.2 _ kw_287) (hK.1 3 _ rfl).2 (rr_Line hK hP hp6.1) dX5_findLine_34 ?_
      exact kEndR F hr (Or.inl ⟨_, rfl⟩) (Or.inr ⟨_, rfl⟩) hlk hP hD hS (Nat.le_of_ble_eq_true rfl) (Nat.le_of_ble_eq_true rfl) dX5_findLine_37 ⟨_, rfl, ⟨rfl, hp6.1, c1, (by rw [← hp3]; exact c4)⟩⟩
    · exact kth_IOOBEW hl0 F hE hlk hte hP hS hl.1 (List.mem_of_getElem? (i := 27) rfl) dX5_findLine_15 dX5_findLine_18 dX5_findLine_19 dX5_findLine_22 dX5_findLine_25 ⟨Nat.le_of_ble_eq_true rfl, Nat.le_of_ble_eq_true rfl, Nat.le_of_ble_eq_true rfl, Nat.le_of_ble_eq_true rfl⟩ (Nat.le_of_ble_eq_true rfl) (Nat.le_of_ble_eq_true rfl) (⟨rfl, Or.inr (by rw [← hp3]; exact c4)⟩)
end
section
/-- a loop over a list: within it, the count is a place of the list -/
theorem klp {T : wPS} {e0 q kd n i : Nat} {x r : Int32} (hL : LI T e0 q kd n) (hn : n ≤ 12 ∧ i ≤ n) (hi : x = nI i) (hr : r = pF T 72 q) (c : ¬ r ≤ x) : i < n ∧ ¬ x < 0 ∧ x < pF T 72 q := by
  rw [hL.1] at hr ⊢
  subst hi hr
  have h : i < n := by
    rcases Nat.lt_or_ge i n with h | h
    · exact h
    · exact absurd (nI_le h (by omega)) c
  exact ⟨h, Int32.not_lt.mpr (nI_le (a := 0) (Nat.zero_le i) (by omega)), nI_lt h (by omega)⟩
theorem dX5_stock_0 : decode cX5_stock 0 = .ok (.aload_n 0, 1) := by decide +kernel
theorem dX5_stock_1 : decode cX5_stock 1 = .ok (.iload_n 1, 1) := by decide +kernel
theorem dX5_stock_2 : decode cX5_stock 2 = .ok (.invokevirtual 83, 3) := by decide +kernel
theorem dX5_stock_5 : decode cX5_stock 5 = .ok (.getfield 87, 3) := by decide +kernel
theorem dX5_stock_8 : decode cX5_stock 8 = .ok (.ireturn, 1) := by decide +kernel
set_option maxHeartbeats 4000000 in
set_option maxRecDepth 100000 in
theorem c_X5_stock (l : Launch) (hl0 : l.stackTraces = false) (g : kG) (e0 : Nat) (z : Nat → Nat) (S : wPS) (sz : Nat) (hI : Inv z e0 S) (n : Int32) : kM l g e0 yX5_stock cX5_stock 2 (some .int) 7 103 1 6 [.ref (z 0), .int n] S sz (pI (fun r T => T = S ∧ ¬ n < 0 ∧ n < pF S 72 (z 10))) (fun E => E = xI ∧ (n < 0 ∨ ¬ n < pF S 72 (z 10))) := by
  refine kM.of (by decide) (Nat.le_of_ble_eq_true rfl) ?_
  intro p e s m below meth c ls B hin
  obtain ⟨F, hr, hlk, hte, hP, hK, hD, hE, hS, hA, hl, hsz⟩ := B
  subst hsz
  have hx := F.1
  have hb := F.2.1
  have hl : lv_has ls 2 [(0, .ref (z 0)), (1, .int n)] := hl
  refine lv_aload_n hx hb dX5_stock_0 rfl (lv_at hl 0 rfl) ?_
  refine lv_iload_n hx hb dX5_stock_1 rfl (lv_at hl 1 rfl) ?_
  refine kcallR (kV (n := 1) (As := [.int n]) (rest := []) (b := (z 0)) (C := RX5) F hE hK hP hD hS hA (c_X5_findArticle l hl0 g e0 z S _ hI n) (rr_Pickwave hK hP (hI.1.1 0 (by decide))) kw_200 kw_201 kw_202 kw_2 kw_203 (by decide +kernel) ⟨Nat.le_of_ble_eq_true rfl, Nat.le_of_ble_eq_true rfl⟩ rfl hl.1 rfl (Nat.le_of_ble_eq_true rfl) dX5_stock_2 ⟨Nat.le_of_ble_eq_true rfl, Nat.le_of_ble_eq_true rfl⟩) rfl hD hS hA (fun E ce q9 H1 locs1 hex hP1 hS1 hce hcv hcl => kthru hte hlk (hex) hP1 hS1 hce hcv hcl (Nat.le_of_ble_eq_true rfl) (Nat.le_of_ble_eq_true rfl)) (fun b1 T1 H locs hp hP hD hS => ?_)
  obtain ⟨hT, hp2⟩ := hp
  have hT := hT.symm
  subst hT
  refine rg_Article_stock F hK hP hp2.1 kw_199 dX5_stock_5 ?_
  refine lv_topi (fun x3 ex3 => ?_)
  exact kEndI F hr rfl hlk hP hD hS (Nat.le_of_ble_eq_true rfl) (Nat.le_of_ble_eq_true rfl) dX5_stock_8 ⟨_, rfl, ⟨rfl, hp2.2⟩⟩
theorem dX5_reserve_0 : decode cX5_reserve 0 = .ok (.aload_n 0, 1) := by decide +kernel
theorem dX5_reserve_1 : decode cX5_reserve 1 = .ok (.iload_n 1, 1) := by decide +kernel
theorem dX5_reserve_2 : decode cX5_reserve 2 = .ok (.invokevirtual 83, 3) := by decide +kernel
theorem dX5_reserve_5 : decode cX5_reserve 5 = .ok (.getfield 91, 3) := by decide +kernel
theorem dX5_reserve_8 : decode cX5_reserve 8 = .ok (.ireturn, 1) := by decide +kernel
set_option maxHeartbeats 4000000 in
set_option maxRecDepth 100000 in
theorem c_X5_reserve (l : Launch) (hl0 : l.stackTraces = false) (g : kG) (e0 : Nat) (z : Nat → Nat) (S : wPS) (sz : Nat) (hI : Inv z e0 S) (n : Int32) : kM l g e0 yX5_reserve cX5_reserve 2 (some .int) 7 103 1 6 [.ref (z 0), .int n] S sz (pI (fun r T => T = S ∧ ¬ n < 0 ∧ n < pF S 72 (z 10))) (fun E => E = xI ∧ (n < 0 ∨ ¬ n < pF S 72 (z 10))) := by
  refine kM.of (by decide) (Nat.le_of_ble_eq_true rfl) ?_
  intro p e s m below meth c ls B hin
  obtain ⟨F, hr, hlk, hte, hP, hK, hD, hE, hS, hA, hl, hsz⟩ := B
  subst hsz
  have hx := F.1
  have hb := F.2.1
  have hl : lv_has ls 2 [(0, .ref (z 0)), (1, .int n)] := hl
  refine lv_aload_n hx hb dX5_reserve_0 rfl (lv_at hl 0 rfl) ?_
  refine lv_iload_n hx hb dX5_reserve_1 rfl (lv_at hl 1 rfl) ?_
  refine kcallR (kV (n := 1) (As := [.int n]) (rest := []) (b := (z 0)) (C := RX5) F hE hK hP hD hS hA (c_X5_findArticle l hl0 g e0 z S _ hI n) (rr_Pickwave hK hP (hI.1.1 0 (by decide))) kw_200 kw_201 kw_202 kw_2 kw_203 (by decide +kernel) ⟨Nat.le_of_ble_eq_true rfl, Nat.le_of_ble_eq_true rfl⟩ rfl hl.1 rfl (Nat.le_of_ble_eq_true rfl) dX5_reserve_2 ⟨Nat.le_of_ble_eq_true rfl, Nat.le_of_ble_eq_true rfl⟩) rfl hD hS hA (fun E ce q9 H1 locs1 hex hP1 hS1 hce hcv hcl => kthru hte hlk (hex) hP1 hS1 hce hcv hcl (Nat.le_of_ble_eq_true rfl) (Nat.le_of_ble_eq_true rfl)) (fun b1 T1 H locs hp hP hD hS => ?_)
  obtain ⟨hT, hp2⟩ := hp
  have hT := hT.symm
  subst hT
  refine rg_Article_reserve F hK hP hp2.1 kw_238 dX5_reserve_5 ?_
  refine lv_topi (fun x3 ex3 => ?_)
  exact kEndI F hr rfl hlk hP hD hS (Nat.le_of_ble_eq_true rfl) (Nat.le_of_ble_eq_true rfl) dX5_reserve_8 ⟨_, rfl, ⟨rfl, hp2.2⟩⟩
theorem dX5_promised_0 : decode cX5_promised 0 = .ok (.aload_n 0, 1) := by decide +kernel
theorem dX5_promised_1 : decode cX5_promised 1 = .ok (.iload_n 1, 1) := by decide +kernel
theorem dX5_promised_2 : decode cX5_promised 2 = .ok (.invokevirtual 83, 3) := by decide +kernel
theorem dX5_promised_5 : decode cX5_promised 5 = .ok (.getfield 97, 3) := by decide +kernel
theorem dX5_promised_8 : decode cX5_promised 8 = .ok (.ireturn, 1) := by decide +kernel
set_option maxHeartbeats 4000000 in
set_option maxRecDepth 100000 in
theorem c_X5_promised (l : Launch) (hl0 : l.stackTraces = false) (g : kG) (e0 : Nat) (z : Nat → Nat) (S : wPS) (sz : Nat) (hI : Inv z e0 S) (n : Int32) : kM l g e0 yX5_promised cX5_promised 2 (some .int) 7 103 1 6 [.ref (z 0), .int n] S sz (pI (fun r T => T = S ∧ ¬ n < 0 ∧ n < pF S 72 (z 10))) (fun E => E = xI ∧ (n < 0 ∨ ¬ n < pF S 72 (z 10))) := by
  refine kM.of (by decide) (Nat.le_of_ble_eq_true rfl) ?_
  intro p e s m below meth c ls B hin
  obtain ⟨F, hr, hlk, hte, hP, hK, hD, hE, hS, hA, hl, hsz⟩ := B
  subst hsz
  have hx := F.1
  have hb := F.2.1
  have hl : lv_has ls 2 [(0, .ref (z 0)), (1, .int n)] := hl
  refine lv_aload_n hx hb dX5_promised_0 rfl (lv_at hl 0 rfl) ?_
  refine lv_iload_n hx hb dX5_promised_1 rfl (lv_at hl 1 rfl) ?_
  refine kcallR (kV (n := 1) (As := [.int n]) (rest := []) (b := (z 0)) (C := RX5) F hE hK hP hD hS hA (c_X5_findArticle l hl0 g e0 z S _ hI n) (rr_Pickwave hK hP (hI.1.1 0 (by decide))) kw_200 kw_201 kw_202 kw_2 kw_203 (by decide +kernel) ⟨Nat.le_of_ble_eq_true rfl, Nat.le_of_ble_eq_true rfl⟩ rfl hl.1 rfl (Nat.le_of_ble_eq_true rfl) dX5_promised_2 ⟨Nat.le_of_ble_eq_true rfl, Nat.le_of_ble_eq_true rfl⟩) rfl hD hS hA (fun E ce q9 H1 locs1 hex hP1 hS1 hce hcv hcl => kthru hte hlk (hex) hP1 hS1 hce hcv hcl (Nat.le_of_ble_eq_true rfl) (Nat.le_of_ble_eq_true rfl)) (fun b1 T1 H locs hp hP hD hS => ?_)
  obtain ⟨hT, hp2⟩ := hp
  have hT := hT.symm
  subst hT
  refine rg_Article_promisedUnits F hK hP hp2.1 kw_275 dX5_promised_5 ?_
  refine lv_topi (fun x3 ex3 => ?_)
  exact kEndI F hr rfl hlk hP hD hS (Nat.le_of_ble_eq_true rfl) (Nat.le_of_ble_eq_true rfl) dX5_promised_8 ⟨_, rfl, ⟨rfl, hp2.2⟩⟩
theorem dX5_free_0 : decode cX5_free 0 = .ok (.aload_n 0, 1) := by decide +kernel
theorem dX5_free_1 : decode cX5_free 1 = .ok (.iload_n 1, 1) := by decide +kernel
theorem dX5_free_2 : decode cX5_free 2 = .ok (.invokevirtual 83, 3) := by decide +kernel
theorem dX5_free_5 : decode cX5_free 5 = .ok (.invokevirtual 94, 3) := by decide +kernel
theorem dX5_free_8 : decode cX5_free 8 = .ok (.ireturn, 1) := by decide +kernel
set_option maxHeartbeats 4000000 in
set_option maxRecDepth 100000 in
theorem c_X5_free (l : Launch) (hl0 : l.stackTraces = false) (g : kG) (e0 : Nat) (z : Nat → Nat) (S : wPS) (sz : Nat) (hI : Inv z e0 S) (n : Int32) : kM l g e0 yX5_free cX5_free 2 (some .int) 7 103 1 6 [.ref (z 0), .int n] S sz (pI (fun r T => T = S ∧ ¬ n < 0 ∧ n < pF S 72 (z 10))) (fun E => E = xI ∧ (n < 0 ∨ ¬ n < pF S 72 (z 10))) := by
  refine kM.of (by decide) (Nat.le_of_ble_eq_true rfl) ?_
  intro p e s m below meth c ls B hin
  obtain ⟨F, hr, hlk, hte, hP, hK, hD, hE, hS, hA, hl, hsz⟩ := B
  subst hsz
  have hx := F.1
  have hb := F.2.1
  have hl : lv_has ls 2 [(0, .ref (z 0)), (1, .int n)] := hl
  refine lv_aload_n hx hb dX5_free_0 rfl (lv_at hl 0 rfl) ?_
  refine lv_iload_n hx hb dX5_free_1 rfl (lv_at hl 1 rfl) ?_
  refine kcallR (kV (n := 1) (As := [.int n]) (rest := []) (b := (z 0)) (C := RX5) F hE hK hP hD hS hA (c_X5_findArticle l hl0 g e0 z S _ hI n) (rr_Pickwave hK hP (hI.1.1 0 (by decide))) kw_200 kw_201 kw_202 kw_2 kw_203 (by decide +kernel) ⟨Nat.le_of_ble_eq_true rfl, Nat.le_of_ble_eq_true rfl⟩ rfl hl.1 rfl (Nat.le_of_ble_eq_true rfl) dX5_free_2 ⟨Nat.le_of_ble_eq_true rfl, Nat.le_of_ble_eq_true rfl⟩) rfl hD hS hA (fun E ce q9 H1 locs1 hex hP1 hS1 hce hcv hcl => kthru hte hlk (hex) hP1 hS1 hce hcv hcl (Nat.le_of_ble_eq_true rfl) (Nat.le_of_ble_eq_true rfl)) (fun b1 T1 H locs hp hP hD hS => ?_)
  obtain ⟨hT, hp2⟩ := hp
  have hT := hT.symm
  subst hT
  refine kcallI (kV (n := 0) (As := []) (rest := []) (b := b1) (C := RX1) F hE hK hP hD hS hA (c_X1_freeUnits l hl0 g e0 S _ b1 hp2.1) (rr_Article hK hP hp2.1) kw_250 kw_251 kw_252 kw_101 kw_253 (by decide +kernel) ⟨Nat.le_of_ble_eq_true rfl, Nat.le_of_ble_eq_true rfl⟩ rfl hl.1 rfl (Nat.le_of_ble_eq_true rfl) dX5_free_5 ⟨Nat.le_of_ble_eq_true rfl, Nat.le_of_ble_eq_true rfl⟩) rfl hD hS hA (fun _ _ _ _ _ h => False.elim h) (fun r3 T3 H locs hp hP hD hS => ?_)
  obtain ⟨hT, hp4⟩ := hp
  have hT := hT.symm
  subst hT
  exact kEndI F hr rfl hlk hP hD hS (Nat.le_of_ble_eq_true rfl) (Nat.le_of_ble_eq_true rfl) dX5_free_8 ⟨_, rfl, ⟨rfl, hp2.2⟩⟩
theorem dX5_amount_0 : decode cX5_amount 0 = .ok (.aload_n 0, 1) := by decide +kernel
theorem dX5_amount_1 : decode cX5_amount 1 = .ok (.iload_n 1, 1) := by decide +kernel
theorem dX5_amount_2 : decode cX5_amount 2 = .ok (.invokevirtual 169, 3) := by decide +kernel
theorem dX5_amount_5 : decode cX5_amount 5 = .ok (.getfield 114, 3) := by decide +kernel
theorem dX5_amount_8 : decode cX5_amount 8 = .ok (.ireturn, 1) := by decide +kernel
set_option maxHeartbeats 4000000 in
set_option maxRecDepth 100000 in
theorem c_X5_amount (l : Launch) (hl0 : l.stackTraces = false) (g : kG) (e0 : Nat) (z : Nat → Nat) (S : wPS) (sz : Nat) (hI : Inv z e0 S) (n : Int32) : kM l g e0 yX5_amount cX5_amount 2 (some .int) 7 103 1 6 [.ref (z 0), .int n] S sz (pI (fun r T => T = S ∧ ¬ n < 0 ∧ n < pF S 72 (z 11))) (fun E => E = xI ∧ (n < 0 ∨ ¬ n < pF S 72 (z 11))) := by
  refine kM.of (by decide) (Nat.le_of_ble_eq_true rfl) ?_
  intro p e s m below meth c ls B hin
  obtain ⟨F, hr, hlk, hte, hP, hK, hD, hE, hS, hA, hl, hsz⟩ := B
  subst hsz
  have hx := F.1
  have hb := F.2.1
  have hl : lv_has ls 2 [(0, .ref (z 0)), (1, .int n)] := hl
  refine lv_aload_n hx hb dX5_amount_0 rfl (lv_at hl 0 rfl) ?_
  refine lv_iload_n hx hb dX5_amount_1 rfl (lv_at hl 1 rfl) ?_
  refine kcallR (kV (n := 1) (As := [.int n]) (rest := []) (b := (z 0)) (C := RX5) F hE hK hP hD hS hA (c_X5_findLine l hl0 g e0 z S _ hI n) (rr_Pickwave hK hP (hI.1.1 0 (by decide))) kw_443 kw_444 kw_445 kw_2 kw_446 (by decide +kernel) ⟨Nat.le_of_ble_eq_true rfl, Nat.le_of_ble_eq_true rfl⟩ rfl hl.1 rfl (Nat.le_of_ble_eq_true rfl) dX5_amount_2 ⟨Nat.le_of_ble_eq_true rfl, Nat.le_of_ble_eq_true rfl⟩) rfl hD hS hA (fun E ce q9 H1 locs1 hex hP1 hS1 hce hcv hcl => kthru hte hlk (hex) hP1 hS1 hce hcv hcl (Nat.le_of_ble_eq_true rfl) (Nat.le_of_ble_eq_true rfl)) (fun b1 T1 H locs hp hP hD hS => ?_)
  obtain ⟨hT, hp2⟩ := hp
  have hT := hT.symm
  subst hT
  refine rg_Line_amount F hK hP hp2.1 kw_289 dX5_amount_5 ?_
  refine lv_topi (fun x3 ex3 => ?_)
  exact kEndI F hr rfl hlk hP hD hS (Nat.le_of_ble_eq_true rfl) (Nat.le_of_ble_eq_true rfl) dX5_amount_8 ⟨_, rfl, ⟨rfl, hp2.2⟩⟩
theorem dX5_state_0 : decode cX5_state 0 = .ok (.aload_n 0, 1) := by decide +kernel
theorem dX5_state_1 : decode cX5_state 1 = .ok (.iload_n 1, 1) := by decide +kernel
theorem dX5_state_2 : decode cX5_state 2 = .ok (.invokevirtual 169, 3) := by decide +kernel
theorem dX5_state_5 : decode cX5_state 5 = .ok (.getfield 173, 3) := by decide +kernel
theorem dX5_state_8 : decode cX5_state 8 = .ok (.ireturn, 1) := by decide +kernel
set_option maxHeartbeats 4000000 in
set_option maxRecDepth 100000 in
theorem c_X5_state (l : Launch) (hl0 : l.stackTraces = false) (g : kG) (e0 : Nat) (z : Nat → Nat) (S : wPS) (sz : Nat) (hI : Inv z e0 S) (n : Int32) : kM l g e0 yX5_state cX5_state 2 (some .char) 7 103 1 6 [.ref (z 0), .int n] S sz (pI (fun r T => T = S ∧ kCh r ∧ ¬ n < 0 ∧ n < pF S 72 (z 11))) (fun E => E = xI ∧ (n < 0 ∨ ¬ n < pF S 72 (z 11))) := by
  refine kM.of (by decide) (Nat.le_of_ble_eq_true rfl) ?_
  intro p e s m below meth c ls B hin
  obtain ⟨F, hr, hlk, hte, hP, hK, hD, hE, hS, hA, hl, hsz⟩ := B
  subst hsz
  have hx := F.1
  have hb := F.2.1
  have hl : lv_has ls 2 [(0, .ref (z 0)), (1, .int n)] := hl
  refine lv_aload_n hx hb dX5_state_0 rfl (lv_at hl 0 rfl) ?_
  refine lv_iload_n hx hb dX5_state_1 rfl (lv_at hl 1 rfl) ?_
  refine kcallR (kV (n := 1) (As := [.int n]) (rest := []) (b := (z 0)) (C := RX5) F hE hK hP hD hS hA (c_X5_findLine l hl0 g e0 z S _ hI n) (rr_Pickwave hK hP (hI.1.1 0 (by decide))) kw_443 kw_444 kw_445 kw_2 kw_446 (by decide +kernel) ⟨Nat.le_of_ble_eq_true rfl, Nat.le_of_ble_eq_true rfl⟩ rfl hl.1 rfl (Nat.le_of_ble_eq_true rfl) dX5_state_2 ⟨Nat.le_of_ble_eq_true rfl, Nat.le_of_ble_eq_true rfl⟩) rfl hD hS hA (fun E ce q9 H1 locs1 hex hP1 hS1 hce hcv hcl => kthru hte hlk (hex) hP1 hS1 hce hcv hcl (Nat.le_of_ble_eq_true rfl) (Nat.le_of_ble_eq_true rfl)) (fun b1 T1 H locs hp hP hD hS => ?_)
  obtain ⟨hT, hp2⟩ := hp
  have hT := hT.symm
  subst hT
  refine rg_Line_state F hK hP hp2.1 kw_326 dX5_state_5 ?_
  refine lv_topi (fun x3 ex3 => ?_)
  exact kEndI F hr (by rw [ex3]; exact (hI.ch hp2.1).1) hlk hP hD hS (Nat.le_of_ble_eq_true rfl) (Nat.le_of_ble_eq_true rfl) dX5_state_8 ⟨_, rfl, ⟨rfl, by rw [ex3]; exact hI.ch hp2.1, hp2.2⟩⟩
theorem dX5_orders_0 : decode cX5_orders 0 = .ok (.aload_n 0, 1) := by decide +kernel
theorem dX5_orders_1 : decode cX5_orders 1 = .ok (.getfield 36, 3) := by decide +kernel
theorem dX5_orders_4 : decode cX5_orders 4 = .ok (.invokevirtual 65, 3) := by decide +kernel
theorem dX5_orders_7 : decode cX5_orders 7 = .ok (.ireturn, 1) := by decide +kernel
set_option maxHeartbeats 4000000 in
set_option maxRecDepth 100000 in
theorem c_X5_orders (l : Launch) (hl0 : l.stackTraces = false) (g : kG) (e0 : Nat) (z : Nat → Nat) (S : wPS) (sz : Nat) (hI : Inv z e0 S)  : kM l g e0 yX5_orders cX5_orders 1 (some .int) 1 20 0 0 [.ref (z 0)] S sz (pI (fun r T => T = S ∧ r = pF S 72 (z 11))) (fun E => False) := by
  refine kM.of (by decide) (Nat.le_of_ble_eq_true rfl) ?_
  intro p e s m below meth c ls B hin
  obtain ⟨F, hr, hlk, hte, hP, hK, hD, hE, hS, hA, hl, hsz⟩ := B
  subst hsz
  have hx := F.1
  have hb := F.2.1
  have hl : lv_has ls 1 [(0, .ref (z 0))] := hl
  refine lv_aload_n hx hb dX5_orders_0 rfl (lv_at hl 0 rfl) ?_
  refine rs_Pickwave_lines (b := z 11) F hK hP (hI.1.1 0 (by decide)) hI.2.1.2.2.2.2.1 kw_28 dX5_orders_1 ?_
  refine kcallI (kV (n := 0) (As := []) (rest := []) (b := (z 11)) (C := RJx4a65c) F hE hK hP hD hS hA (c_Jx4a65c_size_8abf5 l hl0 g e0 S _ (z 11) (hI.1.1 11 (by decide))) (rr_ArrayList hK hP (hI.1.1 11 (by decide))) kw_109 kw_110 kw_111 kw_26 kw_112 (by decide +kernel) ⟨Nat.le_of_ble_eq_true rfl, Nat.le_of_ble_eq_true rfl⟩ rfl hl.1 rfl (Nat.le_of_ble_eq_true rfl) dX5_orders_4 ⟨Nat.le_of_ble_eq_true rfl, Nat.le_of_ble_eq_true rfl⟩) rfl hD hS hA (fun _ _ _ _ _ h => False.elim h) (fun r1 T1 H locs hp hP hD hS => ?_)
  obtain ⟨hT, hp2⟩ := hp
  have hT := hT.symm
  subst hT
  exact kEndI F hr rfl hlk hP hD hS (Nat.le_of_ble_eq_true rfl) (Nat.le_of_ble_eq_true rfl) dX5_orders_7 ⟨_, rfl, ⟨rfl, hp2⟩⟩
theorem dX5_writtenOff_0 : decode cX5_writtenOff 0 = .ok (.aload_n 0, 1) := by decide +kernel
theorem dX5_writtenOff_1 : decode cX5_writtenOff 1 = .ok (.getfield 149, 3) := by decide +kernel
theorem dX5_writtenOff_4 : decode cX5_writtenOff 4 = .ok (.ireturn, 1) := by decide +kernel
set_option maxHeartbeats 4000000 in
set_option maxRecDepth 100000 in
theorem c_X5_writtenOff (l : Launch) (hl0 : l.stackTraces = false) (g : kG) (e0 : Nat) (z : Nat → Nat) (S : wPS) (sz : Nat) (hI : Inv z e0 S)  : kM l g e0 yX5_writtenOff cX5_writtenOff 1 (some .int) 0 0 0 0 [.ref (z 0)] S sz (pI (fun r T => T = S ∧ r = pF S 58 (z 0))) (fun E => False) := by
  refine kM.of (by decide) (Nat.le_of_ble_eq_true rfl) ?_
  intro p e s m below meth c ls B hin
  obtain ⟨F, hr, hlk, hte, hP, hK, hD, hE, hS, hA, hl, hsz⟩ := B
  subst hsz
  have hx := F.1
  have hb := F.2.1
  have hl : lv_has ls 1 [(0, .ref (z 0))] := hl
  refine lv_aload_n hx hb dX5_writtenOff_0 rfl (lv_at hl 0 rfl) ?_
  refine rg_Pickwave_badUnits F hK hP (hI.1.1 0 (by decide)) kw_372 dX5_writtenOff_1 ?_
  refine lv_topi (fun x1 ex1 => ?_)
  exact kEndI F hr rfl hlk hP hD hS (Nat.le_of_ble_eq_true rfl) (Nat.le_of_ble_eq_true rfl) dX5_writtenOff_4 ⟨_, rfl, ⟨rfl, ex1⟩⟩
theorem dX5_waves_0 : decode cX5_waves 0 = .ok (.aload_n 0, 1) := by decide +kernel
theorem dX5_waves_1 : decode cX5_waves 1 = .ok (.getfield 217, 3) := by decide +kernel
theorem dX5_waves_4 : decode cX5_waves 4 = .ok (.ireturn, 1) := by decide +kernel
set_option maxHeartbeats 4000000 in
set_option maxRecDepth 100000 in
theorem c_X5_waves (l : Launch) (hl0 : l.stackTraces = false) (g : kG) (e0 : Nat) (z : Nat → Nat) (S : wPS) (sz : Nat) (hI : Inv z e0 S)  : kM l g e0 yX5_waves cX5_waves 1 (some .int) 0 0 0 0 [.ref (z 0)] S sz (pI (fun r T => T = S ∧ r = pF S 57 (z 0))) (fun E => False) := by
  refine kM.of (by decide) (Nat.le_of_ble_eq_true rfl) ?_
  intro p e s m below meth c ls B hin
  obtain ⟨F, hr, hlk, hte, hP, hK, hD, hE, hS, hA, hl, hsz⟩ := B
  subst hsz
  have hx := F.1
  have hb := F.2.1
  have hl : lv_has ls 1 [(0, .ref (z 0))] := hl
  refine lv_aload_n hx hb dX5_waves_0 rfl (lv_at hl 0 rfl) ?_
  refine rg_Pickwave_waveCount F hK hP (hI.1.1 0 (by decide)) kw_559 dX5_waves_1 ?_
  refine lv_topi (fun x1 ex1 => ?_)
  exact kEndI F hr rfl hlk hP hD hS (Nat.le_of_ble_eq_true rfl) (Nat.le_of_ble_eq_true rfl) dX5_waves_4 ⟨_, rfl, ⟨rfl, ex1⟩⟩
theorem dX5_minute_0 : decode cX5_minute 0 = .ok (.aload_n 0, 1) := by decide +kernel
theorem dX5_minute_1 : decode cX5_minute 1 = .ok (.getfield 212, 3) := by decide +kernel
theorem dX5_minute_4 : decode cX5_minute 4 = .ok (.ireturn, 1) := by decide +kernel
set_option maxHeartbeats 4000000 in
set_option maxRecDepth 100000 in
theorem c_X5_minute (l : Launch) (hl0 : l.stackTraces = false) (g : kG) (e0 : Nat) (z : Nat → Nat) (S : wPS) (sz : Nat) (hI : Inv z e0 S)  : kM l g e0 yX5_minute cX5_minute 1 (some .int) 0 0 0 0 [.ref (z 0)] S sz (pI (fun r T => T = S ∧ r = pF S 56 (z 0))) (fun E => False) := by
  refine kM.of (by decide) (Nat.le_of_ble_eq_true rfl) ?_
  intro p e s m below meth c ls B hin
  obtain ⟨F, hr, hlk, hte, hP, hK, hD, hE, hS, hA, hl, hsz⟩ := B
  subst hsz
  have hx := F.1
  have hb := F.2.1
  have hl : lv_has ls 1 [(0, .ref (z 0))] := hl
  refine lv_aload_n hx hb dX5_minute_0 rfl (lv_at hl 0 rfl) ?_
  refine rg_Pickwave_presentMinute F hK hP (hI.1.1 0 (by decide)) kw_558 dX5_minute_1 ?_
  refine lv_topi (fun x1 ex1 => ?_)
  exact kEndI F hr rfl hlk hP hD hS (Nat.le_of_ble_eq_true rfl) (Nat.le_of_ble_eq_true rfl) dX5_minute_4 ⟨_, rfl, ⟨rfl, ex1⟩⟩
theorem dX5_scans_0 : decode cX5_scans 0 = .ok (.aload_n 0, 1) := by decide +kernel
theorem dX5_scans_1 : decode cX5_scans 1 = .ok (.getfield 42, 3) := by decide +kernel
theorem dX5_scans_4 : decode cX5_scans 4 = .ok (.getfield 269, 3) := by decide +kernel
theorem dX5_scans_7 : decode cX5_scans 7 = .ok (.ireturn, 1) := by decide +kernel
set_option maxHeartbeats 4000000 in
set_option maxRecDepth 100000 in
theorem c_X5_scans (l : Launch) (hl0 : l.stackTraces = false) (g : kG) (e0 : Nat) (z : Nat → Nat) (S : wPS) (sz : Nat) (hI : Inv z e0 S)  : kM l g e0 yX5_scans cX5_scans 1 (some .int) 0 0 0 0 [.ref (z 0)] S sz (pI (fun r T => T = S ∧ r = pF S 42 (z 12))) (fun E => False) := by
  refine kM.of (by decide) (Nat.le_of_ble_eq_true rfl) ?_
  intro p e s m below meth c ls B hin
  obtain ⟨F, hr, hlk, hte, hP, hK, hD, hE, hS, hA, hl, hsz⟩ := B
  subst hsz
  have hx := F.1
  have hb := F.2.1
  have hl : lv_has ls 1 [(0, .ref (z 0))] := hl
  refine lv_aload_n hx hb dX5_scans_0 rfl (lv_at hl 0 rfl) ?_
  refine rs_Pickwave_log (b := z 12) F hK hP (hI.1.1 0 (by decide)) hI.2.1.2.2.2.2.2.1 kw_32 dX5_scans_1 ?_
  refine rg_ScanLog_count F hK hP (hI.1.1 12 (by decide)) kw_698 dX5_scans_4 ?_
  refine lv_topi (fun x1 ex1 => ?_)
  exact kEndI F hr rfl hlk hP hD hS (Nat.le_of_ble_eq_true rfl) (Nat.le_of_ble_eq_true rfl) dX5_scans_7 ⟨_, rfl, ⟨rfl, ex1⟩⟩
theorem dX5_shipped_0 : decode cX5_shipped 0 = .ok (.aload_n 0, 1) := by decide +kernel
theorem dX5_shipped_1 : decode cX5_shipped 1 = .ok (.getfield 206, 3) := by decide +kernel
theorem dX5_shipped_4 : decode cX5_shipped 4 = .ok (.lreturn, 1) := by decide +kernel
set_option maxHeartbeats 4000000 in
set_option maxRecDepth 100000 in
theorem c_X5_shipped (l : Launch) (hl0 : l.stackTraces = false) (g : kG) (e0 : Nat) (z : Nat → Nat) (S : wPS) (sz : Nat) (hI : Inv z e0 S)  : kM l g e0 yX5_shipped cX5_shipped 1 (some .long) 0 0 0 0 [.ref (z 0)] S sz (pLo (fun r T => T = S ∧ r = pJ S (z 0))) (fun E => False) := by
  refine kM.of (by decide) (Nat.le_of_ble_eq_true rfl) ?_
  intro p e s m below meth c ls B hin
  obtain ⟨F, hr, hlk, hte, hP, hK, hD, hE, hS, hA, hl, hsz⟩ := B
  subst hsz
  have hx := F.1
  have hb := F.2.1
  have hl : lv_has ls 1 [(0, .ref (z 0))] := hl
  refine lv_aload_n hx hb dX5_shipped_0 rfl (lv_at hl 0 rfl) ?_
  refine rg_Pickwave_shippedUnits F hK hP (hI.1.1 0 (by decide)) kw_527 dX5_shipped_1 ?_
  refine lv_topl (fun x1 ex1 => ?_)
  exact kEndL F hr hlk hP hD hS (Nat.le_of_ble_eq_true rfl) (Nat.le_of_ble_eq_true rfl) dX5_shipped_4 ⟨_, rfl, ⟨rfl, ex1⟩⟩
theorem dX5_carried_0 : decode cX5_carried 0 = .ok (.aload_n 0, 1) := by decide +kernel
theorem dX5_carried_1 : decode cX5_carried 1 = .ok (.iload_n 1, 1) := by decide +kernel
theorem dX5_carried_2 : decode cX5_carried 2 = .ok (.invokevirtual 234, 3) := by decide +kernel
theorem dX5_carried_5 : decode cX5_carried 5 = .ok (.getfield 253, 3) := by decide +kernel
theorem dX5_carried_8 : decode cX5_carried 8 = .ok (.ireturn, 1) := by decide +kernel
set_option maxHeartbeats 4000000 in
set_option maxRecDepth 100000 in
theorem c_X5_carried (l : Launch) (hl0 : l.stackTraces = false) (g : kG) (e0 : Nat) (z : Nat → Nat) (S : wPS) (sz : Nat) (hI : Inv z e0 S) (n : Int32) : kM l g e0 yX5_carried cX5_carried 2 (some .int) 7 103 1 6 [.ref (z 0), .int n] S sz (pI (fun r T => T = S ∧ ∃ j, j < 2 ∧ n = nI j ∧ r = pF S 31 (z (8 + j)))) (fun E => E = xI ∧ (n < 0 ∨ ¬ n < 2)) := by
  refine kM.of (by decide) (Nat.le_of_ble_eq_true rfl) ?_
  intro p e s m below meth c ls B hin
  obtain ⟨F, hr, hlk, hte, hP, hK, hD, hE, hS, hA, hl, hsz⟩ := B
  subst hsz
  have hx := F.1
  have hb := F.2.1
  have hl : lv_has ls 2 [(0, .ref (z 0)), (1, .int n)] := hl
  refine lv_aload_n hx hb dX5_carried_0 rfl (lv_at hl 0 rfl) ?_
  refine lv_iload_n hx hb dX5_carried_1 rfl (lv_at hl 1 rfl) ?_
  refine kcallR (kV (n := 1) (As := [.int n]) (rest := []) (b := (z 0)) (C := RX5) F hE hK hP hD hS hA (c_X5_findRobot l hl0 g e0 z S _ hI n) (rr_Pickwave hK hP (hI.1.1 0 (by decide))) kw_618 kw_619 kw_620 kw_2 kw_621 (by decide +kernel) ⟨Nat.le_of_ble_eq_true rfl, Nat.le_of_ble_eq_true rfl⟩ rfl hl.1 rfl (Nat.le_of_ble_eq_true rfl) dX5_carried_2 ⟨Nat.le_of_ble_eq_true rfl, Nat.le_of_ble_eq_true rfl⟩) rfl hD hS hA (fun E ce q9 H1 locs1 hex hP1 hS1 hce hcv hcl => kthru hte hlk (hex) hP1 hS1 hce hcv hcl (Nat.le_of_ble_eq_true rfl) (Nat.le_of_ble_eq_true rfl)) (fun b1 T1 H locs hp hP hD hS => ?_)
  obtain ⟨hT, hp2⟩ := hp
  have hT := hT.symm
  subst hT
  obtain ⟨j3, hj3, hn3, rfl⟩ := hp2
  refine rg_Robot_load F hK hP (hI.or hj3) kw_617 dX5_carried_5 ?_
  refine lv_topi (fun x4 ex4 => ?_)
  exact kEndI F hr rfl hlk hP hD hS (Nat.le_of_ble_eq_true rfl) (Nat.le_of_ble_eq_true rfl) dX5_carried_8 ⟨_, rfl, ⟨rfl, _, hj3, hn3, ex4⟩⟩
theorem dX5_minutesOf_0 : decode cX5_minutesOf 0 = .ok (.aload_n 0, 1) := by decide +kernel
theorem dX5_minutesOf_1 : decode cX5_minutesOf 1 = .ok (.iload_n 1, 1) := by decide +kernel
theorem dX5_minutesOf_2 : decode cX5_minutesOf 2 = .ok (.invokevirtual 234, 3) := by decide +kernel
theorem dX5_minutesOf_5 : decode cX5_minutesOf 5 = .ok (.getfield 250, 3) := by decide +kernel
theorem dX5_minutesOf_8 : decode cX5_minutesOf 8 = .ok (.ireturn, 1) := by decide +kernel
set_option maxHeartbeats 4000000 in
set_option maxRecDepth 100000 in
theorem c_X5_minutesOf (l : Launch) (hl0 : l.stackTraces = false) (g : kG) (e0 : Nat) (z : Nat → Nat) (S : wPS) (sz : Nat) (hI : Inv z e0 S) (n : Int32) : kM l g e0 yX5_minutesOf cX5_minutesOf 2 (some .int) 7 103 1 6 [.ref (z 0), .int n] S sz (pI (fun r T => T = S ∧ ∃ j, j < 2 ∧ n = nI j ∧ r = pF S 32 (z (8 + j)))) (fun E => E = xI ∧ (n < 0 ∨ ¬ n < 2)) := by
  refine kM.of (by decide) (Nat.le_of_ble_eq_true rfl) ?_
  intro p e s m below meth c ls B hin
  obtain ⟨F, hr, hlk, hte, hP, hK, hD, hE, hS, hA, hl, hsz⟩ := B
  subst hsz
  have hx := F.1
  have hb := F.2.1
  have hl : lv_has ls 2 [(0, .ref (z 0)), (1, .int n)] := hl
  refine lv_aload_n hx hb dX5_minutesOf_0 rfl (lv_at hl 0 rfl) ?_
  refine lv_iload_n hx hb dX5_minutesOf_1 rfl (lv_at hl 1 rfl) ?_
  refine kcallR (kV (n := 1) (As := [.int n]) (rest := []) (b := (z 0)) (C := RX5) F hE hK hP hD hS hA (c_X5_findRobot l hl0 g e0 z S _ hI n) (rr_Pickwave hK hP (hI.1.1 0 (by decide))) kw_618 kw_619 kw_620 kw_2 kw_621 (by decide +kernel) ⟨Nat.le_of_ble_eq_true rfl, Nat.le_of_ble_eq_true rfl⟩ rfl hl.1 rfl (Nat.le_of_ble_eq_true rfl) dX5_minutesOf_2 ⟨Nat.le_of_ble_eq_true rfl, Nat.le_of_ble_eq_true rfl⟩) rfl hD hS hA (fun E ce q9 H1 locs1 hex hP1 hS1 hce hcv hcl => kthru hte hlk (hex) hP1 hS1 hce hcv hcl (Nat.le_of_ble_eq_true rfl) (Nat.le_of_ble_eq_true rfl)) (fun b1 T1 H locs hp hP hD hS => ?_)
  obtain ⟨hT, hp2⟩ := hp
  have hT := hT.symm
  subst hT
  obtain ⟨j3, hj3, hn3, rfl⟩ := hp2
  refine rg_Robot_minutes F hK hP (hI.or hj3) kw_616 dX5_minutesOf_5 ?_
  refine lv_topi (fun x4 ex4 => ?_)
  exact kEndI F hr rfl hlk hP hD hS (Nat.le_of_ble_eq_true rfl) (Nat.le_of_ble_eq_true rfl) dX5_minutesOf_8 ⟨_, rfl, ⟨rfl, _, hj3, hn3, ex4⟩⟩
theorem dX5_aisleOf_0 : decode cX5_aisleOf 0 = .ok (.aload_n 0, 1) := by decide +kernel
theorem dX5_aisleOf_1 : decode cX5_aisleOf 1 = .ok (.iload_n 1, 1) := by decide +kernel
theorem dX5_aisleOf_2 : decode cX5_aisleOf 2 = .ok (.invokevirtual 234, 3) := by decide +kernel
theorem dX5_aisleOf_5 : decode cX5_aisleOf 5 = .ok (.getfield 238, 3) := by decide +kernel
theorem dX5_aisleOf_8 : decode cX5_aisleOf 8 = .ok (.astore_n 2, 1) := by decide +kernel
theorem dX5_aisleOf_9 : decode cX5_aisleOf 9 = .ok (.aload_n 2, 1) := by decide +kernel
theorem dX5_aisleOf_10 : decode cX5_aisleOf 10 = .ok (.ifnonnull 14, 3) := by decide +kernel
theorem dX5_aisleOf_13 : decode cX5_aisleOf 13 = .ok (.new 229, 3) := by decide +kernel
theorem dX5_aisleOf_16 : decode cX5_aisleOf 16 = .ok (.dup, 1) := by decide +kernel
theorem dX5_aisleOf_17 : decode cX5_aisleOf 17 = .ok (.ldc_w 256, 3) := by decide +kernel
theorem dX5_aisleOf_20 : decode cX5_aisleOf 20 = .ok (.invokespecial 233, 3) := by decide +kernel
theorem dX5_aisleOf_23 : decode cX5_aisleOf 23 = .ok (.athrow, 1) := by decide +kernel
theorem dX5_aisleOf_24 : decode cX5_aisleOf 24 = .ok (.aload_n 2, 1) := by decide +kernel
theorem dX5_aisleOf_25 : decode cX5_aisleOf 25 = .ok (.getfield 185, 3) := by decide +kernel
theorem dX5_aisleOf_28 : decode cX5_aisleOf 28 = .ok (.getfield 258, 3) := by decide +kernel
theorem dX5_aisleOf_31 : decode cX5_aisleOf 31 = .ok (.ireturn, 1) := by decide +kernel
set_option maxHeartbeats 4000000 in
set_option maxRecDepth 100000 in
theorem c_X5_aisleOf (l : Launch) (hl0 : l.stackTraces = false) (g : kG) (e0 : Nat) (z : Nat → Nat) (S : wPS) (sz : Nat) (hI : Inv z e0 S) (n : Int32) : kM l g e0 yX5_aisleOf cX5_aisleOf 3 (some .int) 7 103 2 12 [.ref (z 0), .int n] S sz (pI (fun r T => T = S ∧ ∃ j, j < 2 ∧ n = nI j ∧ pG S 30 (z (8 + j)) ≠ none)) (fun E => (E = xI ∧ (n < 0 ∨ ¬ n < 2)) ∨ (E = xN ∧ ∃ j, j < 2 ∧ n = nI j)) := by
  refine kM.of (by decide) (Nat.le_of_ble_eq_true rfl) ?_
  intro p e s m below meth c ls B hin
  obtain ⟨F, hr, hlk, hte, hP, hK, hD, hE, hS, hA, hl, hsz⟩ := B
  subst hsz
  have hx := F.1
  have hb := F.2.1
  have hl : lv_has ls 3 [(0, .ref (z 0)), (1, .int n)] := hl
  refine lv_aload_n hx hb dX5_aisleOf_0 rfl (lv_at hl 0 rfl) ?_
  refine lv_iload_n hx hb dX5_aisleOf_1 rfl (lv_at hl 1 rfl) ?_
  refine kcallR (kV (n := 1) (As := [.int n]) (rest := []) (b := (z 0)) (C := RX5) F hE hK hP hD hS hA (c_X5_findRobot l hl0 g e0 z S _ hI n) (rr_Pickwave hK hP (hI.1.1 0 (by decide))) kw_618 kw_619 kw_620 kw_2 kw_621 (by decide +kernel) ⟨Nat.le_of_ble_eq_true rfl, Nat.le_of_ble_eq_true rfl⟩ rfl hl.1 rfl (Nat.le_of_ble_eq_true rfl) dX5_aisleOf_2 ⟨Nat.le_of_ble_eq_true rfl, Nat.le_of_ble_eq_true rfl⟩) rfl hD hS hA (fun E ce q9 H1 locs1 hex hP1 hS1 hce hcv hcl => kthru hte hlk (Or.inl hex) hP1 hS1 hce hcv hcl (Nat.le_of_ble_eq_true rfl) (Nat.le_of_ble_eq_true rfl)) (fun b1 T1 H locs hp hP hD hS => ?_)
  obtain ⟨hT, hp2⟩ := hp
  have hT := hT.symm
  subst hT
  obtain ⟨j3, hj3, hn3, rfl⟩ := hp2
  rcases (hI.2.2.2.2.2.2.2 _ (hI.or hj3)) with ha | ⟨b, ha, ob⟩
  · refine rz_Robot_article F hK hP (hI.or hj3) ha kw_614 dX5_aisleOf_5 ?_
    refine lv_astore_nN (lv' := [(2, .null), (0, .ref (z 0)), (1, .int n)]) hx hb dX5_aisleOf_8 rfl hl (by decide) rfl (fun ls hl => ?_)
    refine lv_aload_nN hx hb dX5_aisleOf_9 rfl (lv_at hl 0 rfl) ?_
    refine lv_ifnonnullN hx hb dX5_aisleOf_10 ?_
    exact kth_NSEEW hl0 F hE hlk hte hP hS hl.1 (List.mem_of_getElem? (i := 21) rfl) dX5_aisleOf_13 dX5_aisleOf_16 dX5_aisleOf_17 dX5_aisleOf_20 dX5_aisleOf_23 ⟨Nat.le_of_ble_eq_true rfl, Nat.le_of_ble_eq_true rfl, Nat.le_of_ble_eq_true rfl, Nat.le_of_ble_eq_true rfl⟩ (Nat.le_of_ble_eq_true rfl) (Nat.le_of_ble_eq_true rfl) (Or.inr ⟨rfl, _, hj3, hn3⟩)
  · refine rs_Robot_article (b := b) F hK hP (hI.or hj3) ha kw_614 dX5_aisleOf_5 ?_
    refine lv_astore_n (lv' := [(2, .ref b), (0, .ref (z 0)), (1, .int n)]) hx hb dX5_aisleOf_8 rfl hl (by decide) rfl (fun ls hl => ?_)
    refine lv_aload_n hx hb dX5_aisleOf_9 rfl (lv_at hl 0 rfl) ?_
    refine lv_ifnonnull (tgt := 24) hx hb dX5_aisleOf_10 (by decide) ?_
    refine lv_aload_n hx hb dX5_aisleOf_24 rfl (lv_at hl 0 rfl) ?_
    obtain ⟨j4, hj4, hb4⟩ := hI.2.2.2.2.2.1 b ob
    refine rs_Article_aisle (b := z (2 + j4)) F hK hP ob hb4 kw_325 dX5_aisleOf_25 ?_
    refine rg_Aisle_number F hK hP (hI.oa hj4) kw_667 dX5_aisleOf_28 ?_
    refine lv_topi (fun x5 ex5 => ?_)
    exact kEndI F hr rfl hlk hP hD hS (Nat.le_of_ble_eq_true rfl) (Nat.le_of_ble_eq_true rfl) dX5_aisleOf_31 ⟨_, rfl, ⟨rfl, _, hj3, hn3, by rw [ha]; exact Option.some_ne_none _⟩⟩
theorem dX5_minutesLeft_0 : decode cX5_minutesLeft 0 = .ok (.aload_n 0, 1) := by decide +kernel
theorem dX5_minutesLeft_1 : decode cX5_minutesLeft 1 = .ok (.iload_n 1, 1) := by decide +kernel
theorem dX5_minutesLeft_2 : decode cX5_minutesLeft 2 = .ok (.invokevirtual 200, 3) := by decide +kernel
theorem dX5_minutesLeft_5 : decode cX5_minutesLeft 5 = .ok (.aload_n 0, 1) := by decide +kernel
theorem dX5_minutesLeft_6 : decode cX5_minutesLeft 6 = .ok (.getfield 18, 3) := by decide +kernel
theorem dX5_minutesLeft_9 : decode cX5_minutesLeft 9 = .ok (.iload_n 1, 1) := by decide +kernel
theorem dX5_minutesLeft_10 : decode cX5_minutesLeft 10 = .ok (.iaload, 1) := by decide +kernel
theorem dX5_minutesLeft_11 : decode cX5_minutesLeft 11 = .ok (.aload_n 0, 1) := by decide +kernel
theorem dX5_minutesLeft_12 : decode cX5_minutesLeft 12 = .ok (.getfield 212, 3) := by decide +kernel
theorem dX5_minutesLeft_15 : decode cX5_minutesLeft 15 = .ok (.isub, 1) := by decide +kernel
theorem dX5_minutesLeft_16 : decode cX5_minutesLeft 16 = .ok (.istore_n 2, 1) := by decide +kernel
theorem dX5_minutesLeft_17 : decode cX5_minutesLeft 17 = .ok (.iload_n 2, 1) := by decide +kernel
theorem dX5_minutesLeft_18 : decode cX5_minutesLeft 18 = .ok (.ifCond .ge 7, 3) := by decide +kernel
theorem dX5_minutesLeft_21 : decode cX5_minutesLeft 21 = .ok (.iconst (-1), 1) := by decide +kernel
theorem dX5_minutesLeft_22 : decode cX5_minutesLeft 22 = .ok (.goto 4, 3) := by decide +kernel
theorem dX5_minutesLeft_25 : decode cX5_minutesLeft 25 = .ok (.iload_n 2, 1) := by decide +kernel
theorem dX5_minutesLeft_26 : decode cX5_minutesLeft 26 = .ok (.ireturn, 1) := by decide +kernel
set_option maxHeartbeats 4000000 in
set_option maxRecDepth 100000 in
theorem c_X5_minutesLeft (l : Launch) (hl0 : l.stackTraces = false) (g : kG) (e0 : Nat) (z : Nat → Nat) (S : wPS) (sz : Nat) (hI : Inv z e0 S) (n : Int32) : kM l g e0 yX5_minutesLeft cX5_minutesLeft 3 (some .int) 7 103 1 6 [.ref (z 0), .int n] S sz (pI (fun r T => T = S ∧ ∃ j, j < 3 ∧ n = nI j ∧ r = if pX S (z 6) j - pF S 56 (z 0) < 0 then -1 else pX S (z 6) j - pF S 56 (z 0))) (fun E => E = xI ∧ (n < 0 ∨ 3 ≤ n)) := by
  refine kM.of (by decide) (Nat.le_of_ble_eq_true rfl) ?_
  intro p e s m below meth c ls B hin
  obtain ⟨F, hr, hlk, hte, hP, hK, hD, hE, hS, hA, hl, hsz⟩ := B
  subst hsz
  have hx := F.1
  have hb := F.2.1
  have hl : lv_has ls 3 [(0, .ref (z 0)), (1, .int n)] := hl
  refine lv_aload_n hx hb dX5_minutesLeft_0 rfl (lv_at hl 0 rfl) ?_
  refine lv_iload_n hx hb dX5_minutesLeft_1 rfl (lv_at hl 1 rfl) ?_
  refine kcallU (kV (n := 1) (As := [.int n]) (rest := []) (b := (z 0)) (C := RX5) F hE hK hP hD hS hA (c_X5_checkCarrier l hl0 g e0 z S _ hI n) (rr_Pickwave hK hP (hI.1.1 0 (by decide))) kw_528 kw_529 kw_530 kw_2 kw_531 (by decide +kernel) ⟨Nat.le_of_ble_eq_true rfl, Nat.le_of_ble_eq_true rfl⟩ rfl hl.1 rfl (Nat.le_of_ble_eq_true rfl) dX5_minutesLeft_2 ⟨Nat.le_of_ble_eq_true rfl, Nat.le_of_ble_eq_true rfl⟩) rfl hD hS hA (fun E ce q9 H1 locs1 hex hP1 hS1 hce hcv hcl => kthru hte hlk (hex) hP1 hS1 hce hcv hcl (Nat.le_of_ble_eq_true rfl) (Nat.le_of_ble_eq_true rfl)) (fun T1 H locs hp hP hD hS => ?_)
  obtain ⟨hT, hp2⟩ := hp
  have hT := hT.symm
  subst hT
  obtain ⟨j, hj, hn⟩ := kix (M := 3) (N := 3) rfl (by decide) hp2.1 hp2.2
  refine lv_aload_n hx hb dX5_minutesLeft_5 rfl (lv_at hl 0 rfl) ?_
  refine rs_Pickwave_cutOffs (b := z 6) F hK hP (hI.1.1 0 (by decide)) hI.2.1.2.1 kw_19 dX5_minutesLeft_6 ?_
  refine lv_iload_n hx hb dX5_minutesLeft_9 rfl (lv_at hl 1 rfl) ?_
  refine rd_I F hK hP (hI.1.1 6 (by decide)) (by rw [hn, hI.2.2.1.2.2.1]; exact vp_in_nI hj (by decide)) dX5_minutesLeft_10 ?_
  refine lv_topi (fun x3 ex3 => ?_)
  refine lv_aload_n hx hb dX5_minutesLeft_11 rfl (lv_at hl 0 rfl) ?_
  refine rg_Pickwave_presentMinute F hK hP (hI.1.1 0 (by decide)) kw_558 dX5_minutesLeft_12 ?_
  refine lv_topi (fun x4 ex4 => ?_)
  refine lv_isub hx hb dX5_minutesLeft_15 ?_
  refine lv_topi (fun x5 ex5 => ?_)
  have hx9 : x5 = pX S (z 6) j - pF S 56 (z 0) := by rw [ex5, ex3, ex4, hn, nI_clamp (by omega)]
  refine lv_istore_n (lv' := [(2, .int x5), (0, .ref (z 0)), (1, .int n)]) hx hb dX5_minutesLeft_16 rfl hl (by decide) rfl (fun ls hl => ?_)
  refine lv_iload_n hx hb dX5_minutesLeft_17 rfl (lv_at hl 0 rfl) ?_
  refine lv_if_ge (tgt := 25) hx hb dX5_minutesLeft_18 (by decide) (fun c6 => ?_) (fun c6 => ?_)
  · refine lv_iload_n hx hb dX5_minutesLeft_25 rfl (lv_at hl 0 rfl) ?_
    exact kEndI F hr rfl hlk hP hD hS (Nat.le_of_ble_eq_true rfl) (Nat.le_of_ble_eq_true rfl) dX5_minutesLeft_26 ⟨_, rfl, ⟨rfl, j, hj, hn, by rw [← hx9, if_neg (Int32.not_lt.mpr c6)]⟩⟩
  · refine lv_iconst (v := (-1)) hx hb dX5_minutesLeft_21 (by decide) ?_
    refine lv_goto (tgt := 26) hx hb dX5_minutesLeft_22 (by decide) ?_
    exact kEndI F hr rfl hlk hP hD hS (Nat.le_of_ble_eq_true rfl) (Nat.le_of_ble_eq_true rfl) dX5_minutesLeft_26 ⟨_, rfl, ⟨rfl, j, hj, hn, by rw [← hx9, if_pos (Int32.not_le.mp c6)]⟩⟩
theorem dX5_scanOrder_0 : decode cX5_scanOrder 0 = .ok (.aload_n 0, 1) := by decide +kernel
theorem dX5_scanOrder_1 : decode cX5_scanOrder 1 = .ok (.getfield 42, 3) := by decide +kernel
theorem dX5_scanOrder_4 : decode cX5_scanOrder 4 = .ok (.iload_n 1, 1) := by decide +kernel
theorem dX5_scanOrder_5 : decode cX5_scanOrder 5 = .ok (.invokevirtual 272, 3) := by decide +kernel
theorem dX5_scanOrder_8 : decode cX5_scanOrder 8 = .ok (.ifCond .ne 14, 3) := by decide +kernel
theorem dX5_scanOrder_11 : decode cX5_scanOrder 11 = .ok (.new 275, 3) := by decide +kernel
theorem dX5_scanOrder_14 : decode cX5_scanOrder 14 = .ok (.dup, 1) := by decide +kernel
theorem dX5_scanOrder_15 : decode cX5_scanOrder 15 = .ok (.ldc_w 277, 3) := by decide +kernel
theorem dX5_scanOrder_18 : decode cX5_scanOrder 18 = .ok (.invokespecial 279, 3) := by decide +kernel
theorem dX5_scanOrder_21 : decode cX5_scanOrder 21 = .ok (.athrow, 1) := by decide +kernel
theorem dX5_scanOrder_22 : decode cX5_scanOrder 22 = .ok (.aload_n 0, 1) := by decide +kernel
theorem dX5_scanOrder_23 : decode cX5_scanOrder 23 = .ok (.getfield 42, 3) := by decide +kernel
theorem dX5_scanOrder_26 : decode cX5_scanOrder 26 = .ok (.getfield 280, 3) := by decide +kernel
theorem dX5_scanOrder_29 : decode cX5_scanOrder 29 = .ok (.iload_n 1, 1) := by decide +kernel
theorem dX5_scanOrder_30 : decode cX5_scanOrder 30 = .ok (.iaload, 1) := by decide +kernel
theorem dX5_scanOrder_31 : decode cX5_scanOrder 31 = .ok (.ireturn, 1) := by decide +kernel
set_option maxHeartbeats 4000000 in
set_option maxRecDepth 100000 in
theorem c_X5_scanOrder (l : Launch) (hl0 : l.stackTraces = false) (g : kG) (e0 : Nat) (z : Nat → Nat) (S : wPS) (sz : Nat) (hI : Inv z e0 S) (n : Int32) : kM l g e0 yX5_scanOrder cX5_scanOrder 2 (some .int) 6 82 1 6 [.ref (z 0), .int n] S sz (pI (fun r T => T = S ∧ ¬ n < 0 ∧ n < pF S 42 (z 12))) (fun E => E = xI) := by
  refine kM.of (by decide) (Nat.le_of_ble_eq_true rfl) ?_
  intro p e s m below meth c ls B hin
  obtain ⟨F, hr, hlk, hte, hP, hK, hD, hE, hS, hA, hl, hsz⟩ := B
  subst hsz
  have hx := F.1
  have hb := F.2.1
  have hl : lv_has ls 2 [(0, .ref (z 0)), (1, .int n)] := hl
  refine lv_aload_n hx hb dX5_scanOrder_0 rfl (lv_at hl 0 rfl) ?_
  refine rs_Pickwave_log (b := z 12) F hK hP (hI.1.1 0 (by decide)) hI.2.1.2.2.2.2.2.1 kw_32 dX5_scanOrder_1 ?_
  refine lv_iload_n hx hb dX5_scanOrder_4 rfl (lv_at hl 1 rfl) ?_
  refine kcallI (kV (n := 1) (As := [.int n]) (rest := []) (b := (z 12)) (C := RX4) F hE hK hP hD hS hA (c_X4_has l hl0 g e0 z S _ hI n) (rr_ScanLog hK hP (hI.1.1 12 (by decide))) kw_711 kw_712 kw_713 kw_31 kw_714 (by decide +kernel) ⟨Nat.le_of_ble_eq_true rfl, Nat.le_of_ble_eq_true rfl⟩ rfl hl.1 rfl (Nat.le_of_ble_eq_true rfl) dX5_scanOrder_5 ⟨Nat.le_of_ble_eq_true rfl, Nat.le_of_ble_eq_true rfl⟩) rfl hD hS hA (fun _ _ _ _ _ h => False.elim h) (fun r1 T1 H locs hp hP hD hS => ?_)
  obtain ⟨hT, hp2⟩ := hp
  have hT := hT.symm
  subst hT
  refine lv_if_ne (tgt := 22) hx hb dX5_scanOrder_8 (by decide) (fun c3 => ?_) (fun c3 => ?_)
  · have hh : ¬ n < 0 ∧ n < pF S 42 (z 12) ∧ n < 516 := by
      rcases hp2 with h | ⟨-, h⟩
      · exact absurd h c3
      · exact h
    obtain ⟨j, hj, hn⟩ := kixlt (M := 516) (N := 516) rfl (by decide) hh.1 hh.2.2
    refine lv_aload_n hx hb dX5_scanOrder_22 rfl (lv_at hl 0 rfl) ?_
    refine rs_Pickwave_log (b := z 12) F hK hP (hI.1.1 0 (by decide)) hI.2.1.2.2.2.2.2.1 kw_32 dX5_scanOrder_23 ?_
    refine rs_ScanLog_numbers (b := z 13) F hK hP (hI.1.1 12 (by decide)) hI.2.1.2.2.2.2.2.2.1 kw_710 dX5_scanOrder_26 ?_
    refine lv_iload_n hx hb dX5_scanOrder_29 rfl (lv_at hl 1 rfl) ?_
    refine rd_I F hK hP (hI.1.1 13 (by decide)) (by rw [hn, hI.2.2.1.2.2.2.2.2.1]; exact vp_in_nI hj (by decide)) dX5_scanOrder_30 ?_
    refine lv_topi (fun x4 ex4 => ?_)
    exact kEndI F hr rfl hlk hP hD hS (Nat.le_of_ble_eq_true rfl) (Nat.le_of_ble_eq_true rfl) dX5_scanOrder_31 ⟨_, rfl, ⟨rfl, hh.1, hh.2.1⟩⟩
  · exact kth_IOOBEW hl0 F hE hlk hte hP hS hl.1 (List.mem_of_getElem? (i := 24) rfl) dX5_scanOrder_11 dX5_scanOrder_14 dX5_scanOrder_15 dX5_scanOrder_18 dX5_scanOrder_21 ⟨Nat.le_of_ble_eq_true rfl, Nat.le_of_ble_eq_true rfl, Nat.le_of_ble_eq_true rfl, Nat.le_of_ble_eq_true rfl⟩ (Nat.le_of_ble_eq_true rfl) (Nat.le_of_ble_eq_true rfl) rfl
theorem dX5_scanSign_0 : decode cX5_scanSign 0 = .ok (.aload_n 0, 1) := by decide +kernel
theorem dX5_scanSign_1 : decode cX5_scanSign 1 = .ok (.getfield 42, 3) := by decide +kernel
theorem dX5_scanSign_4 : decode cX5_scanSign 4 = .ok (.iload_n 1, 1) := by decide +kernel
theorem dX5_scanSign_5 : decode cX5_scanSign 5 = .ok (.invokevirtual 272, 3) := by decide +kernel
theorem dX5_scanSign_8 : decode cX5_scanSign 8 = .ok (.ifCond .ne 14, 3) := by decide +kernel
theorem dX5_scanSign_11 : decode cX5_scanSign 11 = .ok (.new 275, 3) := by decide +kernel
theorem dX5_scanSign_14 : decode cX5_scanSign 14 = .ok (.dup, 1) := by decide +kernel
theorem dX5_scanSign_15 : decode cX5_scanSign 15 = .ok (.ldc_w 277, 3) := by decide +kernel
theorem dX5_scanSign_18 : decode cX5_scanSign 18 = .ok (.invokespecial 279, 3) := by decide +kernel
theorem dX5_scanSign_21 : decode cX5_scanSign 21 = .ok (.athrow, 1) := by decide +kernel
theorem dX5_scanSign_22 : decode cX5_scanSign 22 = .ok (.aload_n 0, 1) := by decide +kernel
theorem dX5_scanSign_23 : decode cX5_scanSign 23 = .ok (.getfield 42, 3) := by decide +kernel
theorem dX5_scanSign_26 : decode cX5_scanSign 26 = .ok (.getfield 283, 3) := by decide +kernel
theorem dX5_scanSign_29 : decode cX5_scanSign 29 = .ok (.iload_n 1, 1) := by decide +kernel
theorem dX5_scanSign_30 : decode cX5_scanSign 30 = .ok (.caload, 1) := by decide +kernel
theorem dX5_scanSign_31 : decode cX5_scanSign 31 = .ok (.ireturn, 1) := by decide +kernel
set_option maxHeartbeats 4000000 in
set_option maxRecDepth 100000 in
theorem c_X5_scanSign (l : Launch) (hl0 : l.stackTraces = false) (g : kG) (e0 : Nat) (z : Nat → Nat) (S : wPS) (sz : Nat) (hI : Inv z e0 S) (n : Int32) : kM l g e0 yX5_scanSign cX5_scanSign 2 (some .char) 6 82 1 6 [.ref (z 0), .int n] S sz (pI (fun r T => T = S ∧ kCh r ∧ ¬ n < 0 ∧ n < pF S 42 (z 12))) (fun E => E = xI) := by
  refine kM.of (by decide) (Nat.le_of_ble_eq_true rfl) ?_
  intro p e s m below meth c ls B hin
  obtain ⟨F, hr, hlk, hte, hP, hK, hD, hE, hS, hA, hl, hsz⟩ := B
  subst hsz
  have hx := F.1
  have hb := F.2.1
  have hl : lv_has ls 2 [(0, .ref (z 0)), (1, .int n)] := hl
  refine lv_aload_n hx hb dX5_scanSign_0 rfl (lv_at hl 0 rfl) ?_
  refine rs_Pickwave_log (b := z 12) F hK hP (hI.1.1 0 (by decide)) hI.2.1.2.2.2.2.2.1 kw_32 dX5_scanSign_1 ?_
  refine lv_iload_n hx hb dX5_scanSign_4 rfl (lv_at hl 1 rfl) ?_
  refine kcallI (kV (n := 1) (As := [.int n]) (rest := []) (b := (z 12)) (C := RX4) F hE hK hP hD hS hA (c_X4_has l hl0 g e0 z S _ hI n) (rr_ScanLog hK hP (hI.1.1 12 (by decide))) kw_711 kw_712 kw_713 kw_31 kw_714 (by decide +kernel) ⟨Nat.le_of_ble_eq_true rfl, Nat.le_of_ble_eq_true rfl⟩ rfl hl.1 rfl (Nat.le_of_ble_eq_true rfl) dX5_scanSign_5 ⟨Nat.le_of_ble_eq_true rfl, Nat.le_of_ble_eq_true rfl⟩) rfl hD hS hA (fun _ _ _ _ _ h => False.elim h) (fun r1 T1 H locs hp hP hD hS => ?_)
  obtain ⟨hT, hp2⟩ := hp
  have hT := hT.symm
  subst hT
  refine lv_if_ne (tgt := 22) hx hb dX5_scanSign_8 (by decide) (fun c3 => ?_) (fun c3 => ?_)
  · have hh : ¬ n < 0 ∧ n < pF S 42 (z 12) ∧ n < 516 := by
      rcases hp2 with h | ⟨-, h⟩
      · exact absurd h c3
      · exact h
    obtain ⟨j, hj, hn⟩ := kixlt (M := 516) (N := 516) rfl (by decide) hh.1 hh.2.2
    refine lv_aload_n hx hb dX5_scanSign_22 rfl (lv_at hl 0 rfl) ?_
    refine rs_Pickwave_log (b := z 12) F hK hP (hI.1.1 0 (by decide)) hI.2.1.2.2.2.2.2.1 kw_32 dX5_scanSign_23 ?_
    refine rs_ScanLog_signs (b := z 14) F hK hP (hI.1.1 12 (by decide)) hI.2.1.2.2.2.2.2.2.2 kw_726 dX5_scanSign_26 ?_
    refine lv_iload_n hx hb dX5_scanSign_29 rfl (lv_at hl 1 rfl) ?_
    refine rd_C F hK hP (hI.1.1 14 (by decide)) (by rw [hn, hI.2.2.1.2.2.2.2.2.2]; exact vp_in_nI hj (by decide)) dX5_scanSign_30 ?_
    refine lv_topi (fun x4 ex4 => ?_)
    exact kEndI F hr (by rw [ex4]; exact (hI.sg _).1) hlk hP hD hS (Nat.le_of_ble_eq_true rfl) (Nat.le_of_ble_eq_true rfl) dX5_scanSign_31 ⟨_, rfl, ⟨rfl, (by rw [ex4]; exact hI.sg _), hh.1, hh.2.1⟩⟩
  · exact kth_IOOBEW hl0 F hE hlk hte hP hS hl.1 (List.mem_of_getElem? (i := 24) rfl) dX5_scanSign_11 dX5_scanSign_14 dX5_scanSign_15 dX5_scanSign_18 dX5_scanSign_21 ⟨Nat.le_of_ble_eq_true rfl, Nat.le_of_ble_eq_true rfl, Nat.le_of_ble_eq_true rfl, Nat.le_of_ble_eq_true rfl⟩ (Nat.le_of_ble_eq_true rfl) (Nat.le_of_ble_eq_true rfl) rfl
theorem dX5_waveOf_0 : decode cX5_waveOf 0 = .ok (.aload_n 0, 1) := by decide +kernel
theorem dX5_waveOf_1 : decode cX5_waveOf 1 = .ok (.iload_n 1, 1) := by decide +kernel
theorem dX5_waveOf_2 : decode cX5_waveOf 2 = .ok (.invokevirtual 169, 3) := by decide +kernel
theorem dX5_waveOf_5 : decode cX5_waveOf 5 = .ok (.astore_n 2, 1) := by decide +kernel
theorem dX5_waveOf_6 : decode cX5_waveOf 6 = .ok (.aload_n 2, 1) := by decide +kernel
theorem dX5_waveOf_7 : decode cX5_waveOf 7 = .ok (.getfield 226, 3) := by decide +kernel
theorem dX5_waveOf_10 : decode cX5_waveOf 10 = .ok (.iconst (-1), 1) := by decide +kernel
theorem dX5_waveOf_11 : decode cX5_waveOf 11 = .ok (.if_icmp .ne 13, 3) := by decide +kernel
theorem dX5_waveOf_14 : decode cX5_waveOf 14 = .ok (.new 229, 3) := by decide +kernel
theorem dX5_waveOf_17 : decode cX5_waveOf 17 = .ok (.dup, 1) := by decide +kernel
theorem dX5_waveOf_18 : decode cX5_waveOf 18 = .ok (.ldc 231, 2) := by decide +kernel
theorem dX5_waveOf_20 : decode cX5_waveOf 20 = .ok (.invokespecial 233, 3) := by decide +kernel
theorem dX5_waveOf_23 : decode cX5_waveOf 23 = .ok (.athrow, 1) := by decide +kernel
theorem dX5_waveOf_24 : decode cX5_waveOf 24 = .ok (.aload_n 2, 1) := by decide +kernel
theorem dX5_waveOf_25 : decode cX5_waveOf 25 = .ok (.getfield 226, 3) := by decide +kernel
theorem dX5_waveOf_28 : decode cX5_waveOf 28 = .ok (.ireturn, 1) := by decide +kernel
set_option maxHeartbeats 4000000 in
set_option maxRecDepth 100000 in
theorem c_X5_waveOf (l : Launch) (hl0 : l.stackTraces = false) (g : kG) (e0 : Nat) (z : Nat → Nat) (S : wPS) (sz : Nat) (hI : Inv z e0 S) (n : Int32) : kM l g e0 yX5_waveOf cX5_waveOf 3 (some .int) 7 103 2 12 [.ref (z 0), .int n] S sz (pI (fun r T => T = S ∧ ¬ n < 0 ∧ n < pF S 72 (z 11))) (fun E => (E = xI ∧ (n < 0 ∨ ¬ n < pF S 72 (z 11))) ∨ (E = xN ∧ ¬ n < 0 ∧ n < pF S 72 (z 11))) := by
  refine kM.of (by decide) (Nat.le_of_ble_eq_true rfl) ?_
  intro p e s m below meth c ls B hin
  obtain ⟨F, hr, hlk, hte, hP, hK, hD, hE, hS, hA, hl, hsz⟩ := B
  subst hsz
  have hx := F.1
  have hb := F.2.1
  have hl : lv_has ls 3 [(0, .ref (z 0)), (1, .int n)] := hl
  refine lv_aload_n hx hb dX5_waveOf_0 rfl (lv_at hl 0 rfl) ?_
  refine lv_iload_n hx hb dX5_waveOf_1 rfl (lv_at hl 1 rfl) ?_
  refine kcallR (kV (n := 1) (As := [.int n]) (rest := []) (b := (z 0)) (C := RX5) F hE hK hP hD hS hA (c_X5_findLine l hl0 g e0 z S _ hI n) (rr_Pickwave hK hP (hI.1.1 0 (by decide))) kw_443 kw_444 kw_445 kw_2 kw_446 (by decide +kernel) ⟨Nat.le_of_ble_eq_true rfl, Nat.le_of_ble_eq_true rfl⟩ rfl hl.1 rfl (Nat.le_of_ble_eq_true rfl) dX5_waveOf_2 ⟨Nat.le_of_ble_eq_true rfl, Nat.le_of_ble_eq_true rfl⟩) rfl hD hS hA (fun E ce q9 H1 locs1 hex hP1 hS1 hce hcv hcl => kthru hte hlk (Or.inl hex) hP1 hS1 hce hcv hcl (Nat.le_of_ble_eq_true rfl) (Nat.le_of_ble_eq_true rfl)) (fun b1 T1 H locs hp hP hD hS => ?_)
  obtain ⟨hT, hp2⟩ := hp
  have hT := hT.symm
  subst hT
  refine lv_astore_n (lv' := [(2, .ref b1), (0, .ref (z 0)), (1, .int n)]) hx hb dX5_waveOf_5 rfl hl (by decide) rfl (fun ls hl => ?_)
  refine lv_aload_n hx hb dX5_waveOf_6 rfl (lv_at hl 0 rfl) ?_
  refine rg_Line_lastWave F hK hP hp2.1 kw_564 dX5_waveOf_7 ?_
  refine lv_topi (fun x3 ex3 => ?_)
  refine lv_iconst (v := (-1)) hx hb dX5_waveOf_10 (by decide) ?_
  refine lv_icmp_ne (tgt := 24) hx hb dX5_waveOf_11 (by decide) (fun c4 => ?_) (fun c4 => ?_)
  · refine lv_aload_n hx hb dX5_waveOf_24 rfl (lv_at hl 0 rfl) ?_
    refine rg_Line_lastWave F hK hP hp2.1 kw_564 dX5_waveOf_25 ?_
    refine lv_topi (fun x5 ex5 => ?_)
    exact kEndI F hr rfl hlk hP hD hS (Nat.le_of_ble_eq_true rfl) (Nat.le_of_ble_eq_true rfl) dX5_waveOf_28 ⟨_, rfl, ⟨rfl, hp2.2⟩⟩
  · exact kth_NSEE hl0 F hE hlk hte hP hS hl.1 (List.mem_of_getElem? (i := 18) rfl) dX5_waveOf_14 dX5_waveOf_17 dX5_waveOf_18 dX5_waveOf_20 dX5_waveOf_23 ⟨Nat.le_of_ble_eq_true rfl, Nat.le_of_ble_eq_true rfl, Nat.le_of_ble_eq_true rfl, Nat.le_of_ble_eq_true rfl⟩ (Nat.le_of_ble_eq_true rfl) (Nat.le_of_ble_eq_true rfl) (Or.inr ⟨rfl, hp2.2⟩)
theorem dX5_lastScannedState_0 : decode cX5_lastScannedState 0 = .ok (.aload_n 0, 1) := by decide +kernel
theorem dX5_lastScannedState_1 : decode cX5_lastScannedState 1 = .ok (.getfield 42, 3) := by decide +kernel
theorem dX5_lastScannedState_4 : decode cX5_lastScannedState 4 = .ok (.aload_n 1, 1) := by decide +kernel
theorem dX5_lastScannedState_5 : decode cX5_lastScannedState 5 = .ok (.getfield 298, 3) := by decide +kernel
theorem dX5_lastScannedState_8 : decode cX5_lastScannedState 8 = .ok (.invokevirtual 307, 3) := by decide +kernel
theorem dX5_lastScannedState_11 : decode cX5_lastScannedState 11 = .ok (.invokestatic 299, 3) := by decide +kernel
theorem dX5_lastScannedState_14 : decode cX5_lastScannedState 14 = .ok (.ireturn, 1) := by decide +kernel
set_option maxHeartbeats 4000000 in
set_option maxRecDepth 100000 in
theorem c_X5_lastScannedState (l : Launch) (hl0 : l.stackTraces = false) (g : kG) (e0 : Nat) (z : Nat → Nat) (S : wPS) (sz : Nat) (hI : Inv z e0 S) (x : Nat) (ox : Ob S 2 x) : kM l g e0 yX5_lastScannedState cX5_lastScannedState 2 (some .char) 2 38 0 0 [.ref (z 0), .ref x] S sz (pI (fun r T => T = S ∧ kCh r)) (fun E => False) := by
  refine kM.of (by decide) (Nat.le_of_ble_eq_true rfl) ?_
  intro p e s m below meth c ls B hin
  obtain ⟨F, hr, hlk, hte, hP, hK, hD, hE, hS, hA, hl, hsz⟩ := B
  subst hsz
  have hx := F.1
  have hb := F.2.1
  have hl : lv_has ls 2 [(0, .ref (z 0)), (1, .ref x)] := hl
  refine lv_aload_n hx hb dX5_lastScannedState_0 rfl (lv_at hl 0 rfl) ?_
  refine rs_Pickwave_log (b := z 12) F hK hP (hI.1.1 0 (by decide)) hI.2.1.2.2.2.2.2.1 kw_32 dX5_lastScannedState_1 ?_
  refine lv_aload_n hx hb dX5_lastScannedState_4 rfl (lv_at hl 1 rfl) ?_
  refine rg_Line_number F hK hP ox kw_294 dX5_lastScannedState_5 ?_
  refine lv_topi (fun x1 ex1 => ?_)
  refine kcallI (kV (n := 1) (As := [.int x1]) (rest := []) (b := (z 12)) (C := RX4) F hE hK hP hD hS hA (c_X4_lastSignOf l hl0 g e0 z S _ hI x1) (rr_ScanLog hK hP (hI.1.1 12 (by decide))) kw_295 kw_296 kw_297 kw_31 kw_298 (by decide +kernel) ⟨Nat.le_of_ble_eq_true rfl, Nat.le_of_ble_eq_true rfl⟩ rfl hl.1 rfl (Nat.le_of_ble_eq_true rfl) dX5_lastScannedState_8 ⟨Nat.le_of_ble_eq_true rfl, Nat.le_of_ble_eq_true rfl⟩) rfl hD hS hA (fun _ _ _ _ _ h => False.elim h) (fun r2 T2 H locs hp hP hD hS => ?_)
  obtain ⟨hT, hp3⟩ := hp
  have hT := hT.symm
  subst hT
  refine kcallI (kSt (n := 1) (As := [.int r2]) (rest := []) F hE hK hP hD hS hA (c_X5_stateAfter l hl0 g e0 S _ r2 hp3) kw_301 kw_302 kw_2 kw_303 (by decide +kernel) ⟨Nat.le_of_ble_eq_true rfl, Nat.le_of_ble_eq_true rfl⟩ rfl hl.1 rfl (Nat.le_of_ble_eq_true rfl) dX5_lastScannedState_11 ⟨Nat.le_of_ble_eq_true rfl, Nat.le_of_ble_eq_true rfl⟩) rfl hD hS hA (fun _ _ _ _ _ h => False.elim h) (fun r4 T4 H locs hp hP hD hS => ?_)
  obtain ⟨hT, hp5⟩ := hp
  have hT := hT.symm
  subst hT
  exact kEndI F hr hp5.1 hlk hP hD hS (Nat.le_of_ble_eq_true rfl) (Nat.le_of_ble_eq_true rfl) dX5_lastScannedState_14 ⟨_, rfl, ⟨rfl, hp5⟩⟩
theorem dX5_stateByScans_0 : decode cX5_stateByScans 0 = .ok (.aload_n 0, 1) := by decide +kernel
theorem dX5_stateByScans_1 : decode cX5_stateByScans 1 = .ok (.aload_n 0, 1) := by decide +kernel
theorem dX5_stateByScans_2 : decode cX5_stateByScans 2 = .ok (.iload_n 1, 1) := by decide +kernel
theorem dX5_stateByScans_3 : decode cX5_stateByScans 3 = .ok (.invokevirtual 169, 3) := by decide +kernel
theorem dX5_stateByScans_6 : decode cX5_stateByScans 6 = .ok (.invokevirtual 110, 3) := by decide +kernel
theorem dX5_stateByScans_9 : decode cX5_stateByScans 9 = .ok (.ireturn, 1) := by decide +kernel
set_option maxHeartbeats 4000000 in
set_option maxRecDepth 100000 in
theorem c_X5_stateByScans (l : Launch) (hl0 : l.stackTraces = false) (g : kG) (e0 : Nat) (z : Nat → Nat) (S : wPS) (sz : Nat) (hI : Inv z e0 S) (n : Int32) : kM l g e0 yX5_stateByScans cX5_stateByScans 2 (some .char) 7 103 1 6 [.ref (z 0), .int n] S sz (pI (fun r T => T = S ∧ kCh r ∧ ¬ n < 0 ∧ n < pF S 72 (z 11))) (fun E => E = xI ∧ (n < 0 ∨ ¬ n < pF S 72 (z 11))) := by
  refine kM.of (by decide) (Nat.le_of_ble_eq_true rfl) ?_
  intro p e s m below meth c ls B hin
  obtain ⟨F, hr, hlk, hte, hP, hK, hD, hE, hS, hA, hl, hsz⟩ := B
  subst hsz
  have hx := F.1
  have hb := F.2.1
  have hl : lv_has ls 2 [(0, .ref (z 0)), (1, .int n)] := hl
  refine lv_aload_n hx hb dX5_stateByScans_0 rfl (lv_at hl 0 rfl) ?_
  refine lv_aload_n hx hb dX5_stateByScans_1 rfl (lv_at hl 0 rfl) ?_
  refine lv_iload_n hx hb dX5_stateByScans_2 rfl (lv_at hl 1 rfl) ?_
  refine kcallR (kV (n := 1) (As := [.int n]) (rest := [.ref (z 0)]) (b := (z 0)) (C := RX5) F hE hK hP hD hS hA (c_X5_findLine l hl0 g e0 z S _ hI n) (rr_Pickwave hK hP (hI.1.1 0 (by decide))) kw_443 kw_444 kw_445 kw_2 kw_446 (by decide +kernel) ⟨Nat.le_of_ble_eq_true rfl, Nat.le_of_ble_eq_true rfl⟩ rfl hl.1 rfl (Nat.le_of_ble_eq_true rfl) dX5_stateByScans_3 ⟨Nat.le_of_ble_eq_true rfl, Nat.le_of_ble_eq_true rfl⟩) rfl hD hS hA (fun E ce q9 H1 locs1 hex hP1 hS1 hce hcv hcl => kthru hte hlk (hex) hP1 hS1 hce hcv hcl (Nat.le_of_ble_eq_true rfl) (Nat.le_of_ble_eq_true rfl)) (fun b1 T1 H locs hp hP hD hS => ?_)
  obtain ⟨hT, hp2⟩ := hp
  have hT := hT.symm
  subst hT
  refine kcallI (kV (n := 1) (As := [.ref b1]) (rest := []) (b := (z 0)) (C := RX5) F hE hK hP hD hS hA (c_X5_lastScannedState l hl0 g e0 z S _ hI b1 hp2.1) (rr_Pickwave hK hP (hI.1.1 0 (by decide))) kw_290 kw_291 kw_292 kw_2 kw_293 (by decide +kernel) ⟨Nat.le_of_ble_eq_true rfl, Nat.le_of_ble_eq_true rfl⟩ rfl hl.1 rfl (Nat.le_of_ble_eq_true rfl) dX5_stateByScans_6 ⟨Nat.le_of_ble_eq_true rfl, Nat.le_of_ble_eq_true rfl⟩) rfl hD hS hA (fun _ _ _ _ _ h => False.elim h) (fun r3 T3 H locs hp hP hD hS => ?_)
  obtain ⟨hT, hp4⟩ := hp
  have hT := hT.symm
  subst hT
  exact kEndI F hr hp4.1 hlk hP hD hS (Nat.le_of_ble_eq_true rfl) (Nat.le_of_ble_eq_true rfl) dX5_stateByScans_9 ⟨_, rfl, ⟨rfl, hp4, hp2.2⟩⟩
theorem dX5_promisedByScans_0 : decode cX5_promisedByScans 0 = .ok (.aload_n 0, 1) := by decide +kernel
theorem dX5_promisedByScans_1 : decode cX5_promisedByScans 1 = .ok (.iload_n 1, 1) := by decide +kernel
theorem dX5_promisedByScans_2 : decode cX5_promisedByScans 2 = .ok (.invokevirtual 83, 3) := by decide +kernel
theorem dX5_promisedByScans_5 : decode cX5_promisedByScans 5 = .ok (.astore_n 2, 1) := by decide +kernel
theorem dX5_promisedByScans_6 : decode cX5_promisedByScans 6 = .ok (.iconst 0, 1) := by decide +kernel
theorem dX5_promisedByScans_7 : decode cX5_promisedByScans 7 = .ok (.istore_n 3, 1) := by decide +kernel
theorem dX5_promisedByScans_8 : decode cX5_promisedByScans 8 = .ok (.iconst 0, 1) := by decide +kernel
theorem dX5_promisedByScans_9 : decode cX5_promisedByScans 9 = .ok (.istore 4, 2) := by decide +kernel
theorem dX5_promisedByScans_11 : decode cX5_promisedByScans 11 = .ok (.iload 4, 2) := by decide +kernel
theorem dX5_promisedByScans_13 : decode cX5_promisedByScans 13 = .ok (.aload_n 0, 1) := by decide +kernel
theorem dX5_promisedByScans_14 : decode cX5_promisedByScans 14 = .ok (.getfield 36, 3) := by decide +kernel
theorem dX5_promisedByScans_17 : decode cX5_promisedByScans 17 = .ok (.invokevirtual 65, 3) := by decide +kernel
theorem dX5_promisedByScans_20 : decode cX5_promisedByScans 20 = .ok (.if_icmp .ge 51, 3) := by decide +kernel
theorem dX5_promisedByScans_23 : decode cX5_promisedByScans 23 = .ok (.aload_n 0, 1) := by decide +kernel
theorem dX5_promisedByScans_24 : decode cX5_promisedByScans 24 = .ok (.getfield 36, 3) := by decide +kernel
theorem dX5_promisedByScans_27 : decode cX5_promisedByScans 27 = .ok (.iload 4, 2) := by decide +kernel
theorem dX5_promisedByScans_29 : decode cX5_promisedByScans 29 = .ok (.invokevirtual 100, 3) := by decide +kernel
theorem dX5_promisedByScans_32 : decode cX5_promisedByScans 32 = .ok (.checkcast 104, 3) := by decide +kernel
theorem dX5_promisedByScans_35 : decode cX5_promisedByScans 35 = .ok (.astore 5, 2) := by decide +kernel
theorem dX5_promisedByScans_37 : decode cX5_promisedByScans 37 = .ok (.aload 5, 2) := by decide +kernel
theorem dX5_promisedByScans_39 : decode cX5_promisedByScans 39 = .ok (.getfield 106, 3) := by decide +kernel
theorem dX5_promisedByScans_42 : decode cX5_promisedByScans 42 = .ok (.aload_n 2, 1) := by decide +kernel
theorem dX5_promisedByScans_43 : decode cX5_promisedByScans 43 = .ok (.if_acmp .ne 22, 3) := by decide +kernel
theorem dX5_promisedByScans_46 : decode cX5_promisedByScans 46 = .ok (.aload_n 0, 1) := by decide +kernel
theorem dX5_promisedByScans_47 : decode cX5_promisedByScans 47 = .ok (.aload 5, 2) := by decide +kernel
theorem dX5_promisedByScans_49 : decode cX5_promisedByScans 49 = .ok (.invokevirtual 110, 3) := by decide +kernel
theorem dX5_promisedByScans_52 : decode cX5_promisedByScans 52 = .ok (.bipush 112, 2) := by decide +kernel
theorem dX5_promisedByScans_54 : decode cX5_promisedByScans 54 = .ok (.if_icmp .ne 11, 3) := by decide +kernel
theorem dX5_promisedByScans_57 : decode cX5_promisedByScans 57 = .ok (.iload_n 3, 1) := by decide +kernel
theorem dX5_promisedByScans_58 : decode cX5_promisedByScans 58 = .ok (.aload 5, 2) := by decide +kernel
theorem dX5_promisedByScans_60 : decode cX5_promisedByScans 60 = .ok (.getfield 114, 3) := by decide +kernel
theorem dX5_promisedByScans_63 : decode cX5_promisedByScans 63 = .ok (.iadd, 1) := by decide +kernel
theorem dX5_promisedByScans_64 : decode cX5_promisedByScans 64 = .ok (.istore_n 3, 1) := by decide +kernel
theorem dX5_promisedByScans_65 : decode cX5_promisedByScans 65 = .ok (.iinc 4 1, 3) := by decide +kernel
theorem dX5_promisedByScans_68 : decode cX5_promisedByScans 68 = .ok (.goto (-57), 3) := by decide +kernel
theorem dX5_promisedByScans_71 : decode cX5_promisedByScans 71 = .ok (.iload_n 3, 1) := by decide +kernel
theorem dX5_promisedByScans_72 : decode cX5_promisedByScans 72 = .ok (.ireturn, 1) := by decide +kernel
set_option maxHeartbeats 4000000 in
set_option maxRecDepth 100000 in
theorem c_X5_promisedByScans (l : Launch) (hl0 : l.stackTraces = false) (g : kG) (e0 : Nat) (z : Nat → Nat) (S : wPS) (sz : Nat) (hI : Inv z e0 S) (n : Int32) : kM l g e0 yX5_promisedByScans cX5_promisedByScans 6 (some .int) 7 103 1 6 [.ref (z 0), .int n] S sz (pI (fun r T => T = S ∧ ¬ n < 0 ∧ n < pF S 72 (z 10))) (fun E => E = xI ∧ (n < 0 ∨ ¬ n < pF S 72 (z 10))) := by
  refine kM.of (by decide) (Nat.le_of_ble_eq_true rfl) ?_
  intro p e s m below meth c ls B hin
  obtain ⟨F, hr, hlk, hte, hP, hK, hD, hE, hS, hA, hl, hsz⟩ := B
  subst hsz
  have hx := F.1
  have hb := F.2.1
  have hl : lv_has ls 6 [(0, .ref (z 0)), (1, .int n)] := hl
  obtain ⟨m1, hm1, hL1⟩ := hI.lines
  refine lv_aload_n hx hb dX5_promisedByScans_0 rfl (lv_at hl 0 rfl) ?_
  refine lv_iload_n hx hb dX5_promisedByScans_1 rfl (lv_at hl 1 rfl) ?_
  refine kcallR (kV (n := 1) (As := [.int n]) (rest := []) (b := (z 0)) (C := RX5) F hE hK hP hD hS hA (c_X5_findArticle l hl0 g e0 z S _ hI n) (rr_Pickwave hK hP (hI.1.1 0 (by decide))) kw_200 kw_201 kw_202 kw_2 kw_203 (by decide +kernel) ⟨Nat.le_of_ble_eq_true rfl, Nat.le_of_ble_eq_true rfl⟩ rfl hl.1 rfl (Nat.le_of_ble_eq_true rfl) dX5_promisedByScans_2 ⟨Nat.le_of_ble_eq_true rfl, Nat.le_of_ble_eq_true rfl⟩) rfl hD hS hA (fun E ce q9 H1 locs1 hex hP1 hS1 hce hcv hcl => kthru hte hlk (hex) hP1 hS1 hce hcv hcl (Nat.le_of_ble_eq_true rfl) (Nat.le_of_ble_eq_true rfl)) (fun b1 T1 H locs hp hP hD hS => ?_)
  obtain ⟨hT, hp2⟩ := hp
  have hT := hT.symm
  subst hT
  refine lv_astore_n (lv' := [(2, .ref b1), (0, .ref (z 0)), (1, .int n)]) hx hb dX5_promisedByScans_5 rfl hl (by decide) rfl (fun ls hl => ?_)
  refine lv_iconst (v := 0) hx hb dX5_promisedByScans_6 (by decide) ?_
  refine lv_istore_n (lv' := [(3, .int 0), (2, .ref b1), (0, .ref (z 0)), (1, .int n)]) hx hb dX5_promisedByScans_7 rfl hl (by decide) rfl (fun ls hl => ?_)
  refine lv_iconst (v := 0) hx hb dX5_promisedByScans_8 (by decide) ?_
  refine lv_istore (lv' := [(4, .int 0), (3, .int 0), (2, .ref b1), (0, .ref (z 0)), (1, .int n)]) hx hb dX5_promisedByScans_9 hl (by decide) rfl (fun ls hl => ?_)
  have loop : ∀ (fu : Nat) (i : Nat) (xi sm : Int32) (H : Heap) (locs : List Loc) (ls : Array Slot), va_P (kD g) vwCl (kW g S) H → va_D (kA (pL S) s.heap.size) (kW g S) → va_S (kA (pL S) s.heap.size) s.heap H locs → lv_has ls 6 [(4, .int xi), (3, .int sm), (2, .ref b1), (0, .ref (z 0)), (1, .int n)] → m1 - i < fu → (xi = nI i) → (i ≤ m1) → W p l e ({ frames := 7, cells := 1, slots := 6, locals := 103 }) s m ([.ref (z 0), .int n] : List Value).toArray below meth c H locs 1 6 (vx_MQ below (kQ g S s.heap.size (pI (fun r T => T = S ∧ ¬ n < 0 ∧ n < pF S 72 (z 10)))) (kX g S s.heap.size (fun E => E = xI ∧ (n < 0 ∨ ¬ n < pF S 72 (z 10)))) ([.ref (z 0), .int n] : List Value).toArray s 1 6 (kA (pL S) s.heap.size)) (F0 m 11 ls []) := by
    intro fu
    induction fu with
    | zero => intro i xi sm H locs ls hP hD hS hl hn hi hin; exact absurd hn (Nat.not_lt_zero _)
    | succ fu ih =>
      intro i xi sm H locs ls hP hD hS hl hn hi hin
      have hLT : LI S e0 (z 11) 2 m1 := hL1
      refine lv_iload hx hb dX5_promisedByScans_11 (lv_at hl 0 rfl) ?_
      refine lv_aload_n hx hb dX5_promisedByScans_13 rfl (lv_at hl 3 rfl) ?_
      refine rs_Pickwave_lines (b := z 11) F hK hP (hI.1.1 0 (by decide)) hI.2.1.2.2.2.2.1 kw_28 dX5_promisedByScans_14 ?_
      refine kcallI (kV (n := 0) (As := []) (rest := [.int xi]) (b := (z 11)) (C := RJx4a65c) F hE hK hP hD hS hA (c_Jx4a65c_size_8abf5 l hl0 g e0 S _ (z 11) (hI.1.1 11 (by decide))) (rr_ArrayList hK hP (hI.1.1 11 (by decide))) kw_109 kw_110 kw_111 kw_26 kw_112 (by decide +kernel) ⟨Nat.le_of_ble_eq_true rfl, Nat.le_of_ble_eq_true rfl⟩ rfl hl.1 rfl (Nat.le_of_ble_eq_true rfl) dX5_promisedByScans_17 ⟨Nat.le_of_ble_eq_true rfl, Nat.le_of_ble_eq_true rfl⟩) rfl hD hS hA (fun _ _ _ _ _ h => False.elim h) (fun r3 T3 H locs hp hP hD hS => ?_)
      obtain ⟨hT, hp4⟩ := hp
      have hT := hT.symm
      subst hT
      refine lv_icmp_ge (tgt := 71) hx hb dX5_promisedByScans_20 (by decide) (fun c5 => ?_) (fun c5 => ?_)
      · refine lv_iload_n hx hb dX5_promisedByScans_71 rfl (lv_at hl 1 rfl) ?_
        exact kEndI F hr rfl hlk hP hD hS (Nat.le_of_ble_eq_true rfl) (Nat.le_of_ble_eq_true rfl) dX5_promisedByScans_72 ⟨_, rfl, ⟨rfl, hp2.2⟩⟩
      · obtain ⟨him, hx0, hx1⟩ := klp hLT ⟨hm1, hin⟩ hi hp4 c5
        refine lv_aload_n hx hb dX5_promisedByScans_23 rfl (lv_at hl 3 rfl) ?_
        refine rs_Pickwave_lines (b := z 11) F hK hP (hI.1.1 0 (by decide)) hI.2.1.2.2.2.2.1 kw_28 dX5_promisedByScans_24 ?_
        refine lv_iload hx hb dX5_promisedByScans_27 (lv_at hl 0 rfl) ?_
        refine kcallR (kV (n := 1) (As := [.int xi]) (rest := []) (b := (z 11)) (C := RJx4a65c) F hE hK hP hD hS hA (c_Jx4a65c_get_915e3 l hl0 g e0 S _ (z 11) 2 _ xi (hI.1.1 11 (by decide)) hLT hx0 hx1 (by omega)) (rr_ArrayList hK hP (hI.1.1 11 (by decide))) kw_207 kw_208 kw_209 kw_26 kw_210 (by decide +kernel) ⟨Nat.le_of_ble_eq_true rfl, Nat.le_of_ble_eq_true rfl⟩ rfl hl.1 rfl (Nat.le_of_ble_eq_true rfl) dX5_promisedByScans_29 ⟨Nat.le_of_ble_eq_true rfl, Nat.le_of_ble_eq_true rfl⟩) rfl hD hS hA (fun _ _ _ _ _ h => False.elim h) (fun b6 T6 H locs hp hP hD hS => ?_)
        obtain ⟨hT, hp7⟩ := hp
        have hT := hT.symm
        subst hT
        refine va_castS hx hb F.2.2.2.1 (F.2.2.2.2 _ kw_287) (hK.1 3 _ rfl).2 (rr_Line hK hP hp7.1) dX5_promisedByScans_32 ?_
        refine lv_astore (lv' := [(5, .ref b6), (4, .int xi), (3, .int sm), (2, .ref b1), (0, .ref (z 0)), (1, .int n)]) hx hb dX5_promisedByScans_35 hl (by decide) rfl (fun ls hl => ?_)
        refine lv_aload hx hb dX5_promisedByScans_37 (lv_at hl 0 rfl) ?_
        obtain ⟨b8, hb8, ob8⟩ := hI.2.2.2.2.2.2.1 b6 hp7.1
        refine rs_Line_article (b := b8) F hK hP hp7.1 hb8 kw_288 dX5_promisedByScans_39 ?_
        refine lv_aload_n hx hb dX5_promisedByScans_42 rfl (lv_at hl 3 rfl) ?_
        refine lv_acmp_ne (rx := (some b8)) (ry := (some b1)) (tgt := 65) hx hb dX5_promisedByScans_43 (by decide) (fun c9 => ?_) (fun c9 => ?_)
        · obtain ⟨x10, ex10⟩ : ∃ y : Int32, y = xi + 1 := ⟨_, rfl⟩
          refine lv_iinc (v := x10) (lv' := [(4, .int x10), (5, .ref b6), (3, .int sm), (2, .ref b1), (0, .ref (z 0)), (1, .int n)]) hx hb dX5_promisedByScans_65 hl (k := 1) rfl (by rw [ex10]; rfl) (by decide) rfl (fun ls hl => ?_)
          refine lv_goto (tgt := 11) hx hb dX5_promisedByScans_68 (by decide) ?_
          exact ih (i + 1) x10 sm H locs ls hP hD hS (lv_sub hl [0, 2, 3, 4, 5] rfl) (by omega) (by rw [ex10, hi]; exact nI_1 i) him
        · refine lv_aload_n hx hb dX5_promisedByScans_46 rfl (lv_at hl 4 rfl) ?_
          refine lv_aload hx hb dX5_promisedByScans_47 (lv_at hl 0 rfl) ?_
          refine kcallI (kV (n := 1) (As := [.ref b6]) (rest := []) (b := (z 0)) (C := RX5) F hE hK hP hD hS hA (c_X5_lastScannedState l hl0 g e0 z S _ hI b6 hp7.1) (rr_Pickwave hK hP (hI.1.1 0 (by decide))) kw_290 kw_291 kw_292 kw_2 kw_293 (by decide +kernel) ⟨Nat.le_of_ble_eq_true rfl, Nat.le_of_ble_eq_true rfl⟩ rfl hl.1 rfl (Nat.le_of_ble_eq_true rfl) dX5_promisedByScans_49 ⟨Nat.le_of_ble_eq_true rfl, Nat.le_of_ble_eq_true rfl⟩) rfl hD hS hA (fun _ _ _ _ _ h => False.elim h) (fun r11 T11 H locs hp hP hD hS => ?_)
          obtain ⟨hT, hp12⟩ := hp
          have hT := hT.symm
          subst hT
          refine lv_bipush (v := 112) hx hb dX5_promisedByScans_52 (by decide) ?_
          refine lv_icmp_ne (tgt := 65) hx hb dX5_promisedByScans_54 (by decide) (fun c13 => ?_) (fun c13 => ?_)
          · obtain ⟨x14, ex14⟩ : ∃ y : Int32, y = xi + 1 := ⟨_, rfl⟩
            refine lv_iinc (v := x14) (lv' := [(4, .int x14), (5, .ref b6), (3, .int sm), (2, .ref b1), (0, .ref (z 0)), (1, .int n)]) hx hb dX5_promisedByScans_65 hl (k := 1) rfl (by rw [ex14]; rfl) (by decide) rfl (fun ls hl => ?_)
            refine lv_goto (tgt := 11) hx hb dX5_promisedByScans_68 (by decide) ?_
            exact ih (i + 1) x14 sm H locs ls hP hD hS (lv_sub hl [0, 2, 3, 4, 5] rfl) (by omega) (by rw [ex14, hi]; exact nI_1 i) him
          · refine lv_iload_n hx hb dX5_promisedByScans_57 rfl (lv_at hl 2 rfl) ?_
            refine lv_aload hx hb dX5_promisedByScans_58 (lv_at hl 0 rfl) ?_
            refine rg_Line_amount F hK hP hp7.1 kw_289 dX5_promisedByScans_60 ?_
            refine lv_topi (fun x15 ex15 => ?_)
            refine lv_iadd hx hb dX5_promisedByScans_63 ?_
            refine lv_topi (fun x16 ex16 => ?_)
            refine lv_istore_n (lv' := [(3, .int x16), (5, .ref b6), (4, .int xi), (2, .ref b1), (0, .ref (z 0)), (1, .int n)]) hx hb dX5_promisedByScans_64 rfl hl (by decide) rfl (fun ls hl => ?_)
            obtain ⟨x17, ex17⟩ : ∃ y : Int32, y = xi + 1 := ⟨_, rfl⟩
            refine lv_iinc (v := x17) (lv' := [(4, .int x17), (3, .int x16), (5, .ref b6), (2, .ref b1), (0, .ref (z 0)), (1, .int n)]) hx hb dX5_promisedByScans_65 hl (k := 2) rfl (by rw [ex17]; rfl) (by decide) rfl (fun ls hl => ?_)
            refine lv_goto (tgt := 11) hx hb dX5_promisedByScans_68 (by decide) ?_
            exact ih (i + 1) x17 x16 H locs ls hP hD hS (lv_sub hl [0, 1, 3, 4, 5] rfl) (by omega) (by rw [ex17, hi]; exact nI_1 i) him
  exact loop 13 0 0 0 _ _ _ hP hD hS (lv_sub hl [0, 1, 2, 3, 4] rfl) (by omega) rfl (Nat.zero_le _)
end
section
theorem dX5_scan_0 : decode cX5_scan 0 = .ok (.iload_n 2, 1) := by decide +kernel
theorem dX5_scan_1 : decode cX5_scan 1 = .ok (.invokestatic 299, 3) := by decide +kernel
theorem dX5_scan_4 : decode cX5_scan 4 = .ok (.istore_n 3, 1) := by decide +kernel
theorem dX5_scan_5 : decode cX5_scan 5 = .ok (.aload_n 1, 1) := by decide +kernel
theorem dX5_scan_6 : decode cX5_scan 6 = .ok (.getfield 173, 3) := by decide +kernel
theorem dX5_scan_9 : decode cX5_scan 9 = .ok (.bipush 112, 2) := by decide +kernel
theorem dX5_scan_11 : decode cX5_scan 11 = .ok (.if_icmp .ne 19, 3) := by decide +kernel
theorem dX5_scan_14 : decode cX5_scan 14 = .ok (.aload_n 1, 1) := by decide +kernel
theorem dX5_scan_15 : decode cX5_scan 15 = .ok (.getfield 106, 3) := by decide +kernel
theorem dX5_scan_18 : decode cX5_scan 18 = .ok (.dup, 1) := by decide +kernel
theorem dX5_scan_19 : decode cX5_scan 19 = .ok (.getfield 97, 3) := by decide +kernel
theorem dX5_scan_22 : decode cX5_scan 22 = .ok (.aload_n 1, 1) := by decide +kernel
theorem dX5_scan_23 : decode cX5_scan 23 = .ok (.getfield 114, 3) := by decide +kernel
theorem dX5_scan_26 : decode cX5_scan 26 = .ok (.isub, 1) := by decide +kernel
theorem dX5_scan_27 : decode cX5_scan 27 = .ok (.putfield 97, 3) := by decide +kernel
theorem dX5_scan_30 : decode cX5_scan 30 = .ok (.iload_n 3, 1) := by decide +kernel
theorem dX5_scan_31 : decode cX5_scan 31 = .ok (.bipush 112, 2) := by decide +kernel
theorem dX5_scan_33 : decode cX5_scan 33 = .ok (.if_icmp .ne 19, 3) := by decide +kernel
theorem dX5_scan_36 : decode cX5_scan 36 = .ok (.aload_n 1, 1) := by decide +kernel
theorem dX5_scan_37 : decode cX5_scan 37 = .ok (.getfield 106, 3) := by decide +kernel
theorem dX5_scan_40 : decode cX5_scan 40 = .ok (.dup, 1) := by decide +kernel
theorem dX5_scan_41 : decode cX5_scan 41 = .ok (.getfield 97, 3) := by decide +kernel
theorem dX5_scan_44 : decode cX5_scan 44 = .ok (.aload_n 1, 1) := by decide +kernel
theorem dX5_scan_45 : decode cX5_scan 45 = .ok (.getfield 114, 3) := by decide +kernel
theorem dX5_scan_48 : decode cX5_scan 48 = .ok (.iadd, 1) := by decide +kernel
theorem dX5_scan_49 : decode cX5_scan 49 = .ok (.putfield 97, 3) := by decide +kernel
theorem dX5_scan_52 : decode cX5_scan 52 = .ok (.aload_n 1, 1) := by decide +kernel
theorem dX5_scan_53 : decode cX5_scan 53 = .ok (.iload_n 3, 1) := by decide +kernel
theorem dX5_scan_54 : decode cX5_scan 54 = .ok (.putfield 173, 3) := by decide +kernel
theorem dX5_scan_57 : decode cX5_scan 57 = .ok (.aload_n 0, 1) := by decide +kernel
theorem dX5_scan_58 : decode cX5_scan 58 = .ok (.getfield 42, 3) := by decide +kernel
theorem dX5_scan_61 : decode cX5_scan 61 = .ok (.aload_n 1, 1) := by decide +kernel
theorem dX5_scan_62 : decode cX5_scan 62 = .ok (.getfield 298, 3) := by decide +kernel
theorem dX5_scan_65 : decode cX5_scan 65 = .ok (.iload_n 2, 1) := by decide +kernel
theorem dX5_scan_66 : decode cX5_scan 66 = .ok (.invokevirtual 303, 3) := by decide +kernel
theorem dX5_scan_69 : decode cX5_scan 69 = .ok (.return_, 1) := by decide +kernel
set_option maxHeartbeats 4000000 in
set_option maxRecDepth 100000 in
theorem c_X5_scan (l : Launch) (hl0 : l.stackTraces = false) (g : kG) (e0 : Nat) (z : Nat → Nat) (S : wPS) (sz : Nat) (hI : Inv z e0 S) (x : Nat) (ox : Ob S 2 x) (sg : Int32) (hsg : kCh sg) : kM l g e0 yX5_scan cX5_scan 4 none 1 22 0 0 [.ref (z 0), .ref x, .int sg] S sz (pU (fun T => Kp z S T)) (fun E => False) := by
  refine kM.of (by decide) (Nat.le_of_ble_eq_true rfl) ?_
  intro p e s m below meth c ls B hin
  obtain ⟨F, hr, hlk, hte, hP, hK, hD, hE, hS, hA, hl, hsz⟩ := B
  subst hsz
  have hx := F.1
  have hb := F.2.1
  have hl : lv_has ls 4 [(0, .ref (z 0)), (1, .ref x), (2, .int sg)] := hl
  refine lv_iload_n hx hb dX5_scan_0 rfl (lv_at hl 2 rfl) ?_
  refine kcallI (kSt (n := 1) (As := [.int sg]) (rest := []) F hE hK hP hD hS hA (c_X5_stateAfter l hl0 g e0 S _ sg hsg) kw_301 kw_302 kw_2 kw_303 (by decide +kernel) ⟨Nat.le_of_ble_eq_true rfl, Nat.le_of_ble_eq_true rfl⟩ rfl hl.1 rfl (Nat.le_of_ble_eq_true rfl) dX5_scan_1 ⟨Nat.le_of_ble_eq_true rfl, Nat.le_of_ble_eq_true rfl⟩) rfl hD hS hA (fun _ _ _ _ _ h => False.elim h) (fun r1 T1 H locs hp hP hD hS => ?_)
  obtain ⟨hT, hp2⟩ := hp
  have hT := hT.symm
  subst hT
  refine lv_istore_n (lv' := [(3, .int r1), (0, .ref (z 0)), (1, .ref x), (2, .int sg)]) hx hb dX5_scan_4 rfl hl (by decide) rfl (fun ls hl => ?_)
  refine lv_aload_n hx hb dX5_scan_5 rfl (lv_at hl 2 rfl) ?_
  refine rg_Line_state F hK hP ox kw_326 dX5_scan_6 ?_
  refine lv_topi (fun x3 ex3 => ?_)
  refine lv_bipush (v := 112) hx hb dX5_scan_9 (by decide) ?_
  refine lv_icmp_ne (tgt := 30) hx hb dX5_scan_11 (by decide) (fun c4 => ?_) (fun c4 => ?_)
  · refine lv_iload_n hx hb dX5_scan_30 rfl (lv_at hl 0 rfl) ?_
    refine lv_bipush (v := 112) hx hb dX5_scan_31 (by decide) ?_
    refine lv_icmp_ne (tgt := 52) hx hb dX5_scan_33 (by decide) (fun c5 => ?_) (fun c5 => ?_)
    · refine lv_aload_n hx hb dX5_scan_52 rfl (lv_at hl 2 rfl) ?_
      refine lv_iload_n hx hb dX5_scan_53 rfl (lv_at hl 0 rfl) ?_
      refine rp_Line_state F hK hP hD hS ox kw_326 hp2.1 hp2.2 dX5_scan_54 (fun H locs hP hD hS => ?_)
      refine lv_aload_n hx hb dX5_scan_57 rfl (lv_at hl 1 rfl) ?_
      refine rs_Pickwave_log (b := z 12) F hK hP (hI.1.1 0 (by decide)) hI.2.1.2.2.2.2.2.1 kw_32 dX5_scan_58 ?_
      refine lv_aload_n hx hb dX5_scan_61 rfl (lv_at hl 2 rfl) ?_
      refine rg_Line_number F hK hP ox kw_294 dX5_scan_62 ?_
      refine lv_topi (fun x6 ex6 => ?_)
      refine lv_iload_n hx hb dX5_scan_65 rfl (lv_at hl 3 rfl) ?_
      refine kcallU (kV (n := 2) (As := [.int x6, .int sg]) (rest := []) (b := (z 12)) (C := RX4) F hE hK hP hD hS hA (c_X4_write l hl0 g e0 z (setF S 24 x r1) _ (hI.keep (kp_setSt hI.kp hp2).1) x6 sg hsg) (rr_ScanLog hK hP (hI.1.1 12 (by decide))) kw_331 kw_332 kw_333 kw_31 kw_334 (by decide +kernel) ⟨Nat.le_of_ble_eq_true rfl, Nat.le_of_ble_eq_true rfl⟩ rfl hl.1 rfl (Nat.le_of_ble_eq_true rfl) dX5_scan_66 ⟨Nat.le_of_ble_eq_true rfl, Nat.le_of_ble_eq_true rfl⟩) rfl hD hS hA (fun _ _ _ _ _ h => False.elim h) (fun T7 H locs hp hP hD hS => ?_)
      have N8 : Kp z (setF S 24 x r1) T7 := hp
      have K8 : Kp z S T7 := Kp.trans (kp_setSt hI.kp hp2) N8
      have I8 : Inv z e0 T7 := hI.keep K8.1
      have o9 : Ob T7 2 x := N8.1.ob ox
      exact kEndV F hr hlk hP hD hS (Nat.le_of_ble_eq_true rfl) (Nat.le_of_ble_eq_true rfl) dX5_scan_69 ⟨rfl, K8⟩
    · refine lv_aload_n hx hb dX5_scan_36 rfl (lv_at hl 2 rfl) ?_
      obtain ⟨b10, hb10, ob10⟩ := hI.2.2.2.2.2.2.1 x ox
      refine rs_Line_article (b := b10) F hK hP ox hb10 kw_288 dX5_scan_37 ?_
      refine lv_dup hx hb dX5_scan_40 rfl ?_
      refine rg_Article_promisedUnits F hK hP ob10 kw_275 dX5_scan_41 ?_
      refine lv_topi (fun x11 ex11 => ?_)
      refine lv_aload_n hx hb dX5_scan_44 rfl (lv_at hl 2 rfl) ?_
      refine rg_Line_amount F hK hP ox kw_289 dX5_scan_45 ?_
      refine lv_topi (fun x12 ex12 => ?_)
      refine lv_iadd hx hb dX5_scan_48 ?_
      refine lv_topi (fun x13 ex13 => ?_)
      refine rp_Article_promisedUnits F hK hP hD hS ob10 kw_275 dX5_scan_49 (fun H locs hP hD hS => ?_)
      refine lv_aload_n hx hb dX5_scan_52 rfl (lv_at hl 2 rfl) ?_
      refine lv_iload_n hx hb dX5_scan_53 rfl (lv_at hl 0 rfl) ?_
      refine rp_Line_state F hK hP hD hS ox kw_326 hp2.1 hp2.2 dX5_scan_54 (fun H locs hP hD hS => ?_)
      refine lv_aload_n hx hb dX5_scan_57 rfl (lv_at hl 1 rfl) ?_
      refine rs_Pickwave_log (b := z 12) F hK hP (hI.1.1 0 (by decide)) hI.2.1.2.2.2.2.2.1 kw_32 dX5_scan_58 ?_
      refine lv_aload_n hx hb dX5_scan_61 rfl (lv_at hl 2 rfl) ?_
      refine rg_Line_number F hK hP ox kw_294 dX5_scan_62 ?_
      refine lv_topi (fun x14 ex14 => ?_)
      refine lv_iload_n hx hb dX5_scan_65 rfl (lv_at hl 3 rfl) ?_
      refine kcallU (kV (n := 2) (As := [.int x14, .int sg]) (rest := []) (b := (z 12)) (C := RX4) F hE hK hP hD hS hA (c_X4_write l hl0 g e0 z (setF (setF S 14 b10 x13) 24 x r1) _ (hI.keep (kp_setSt (kp_setF hI.kp (by decide) (by decide)) hp2).1) x14 sg hsg) (rr_ScanLog hK hP (hI.1.1 12 (by decide))) kw_331 kw_332 kw_333 kw_31 kw_334 (by decide +kernel) ⟨Nat.le_of_ble_eq_true rfl, Nat.le_of_ble_eq_true rfl⟩ rfl hl.1 rfl (Nat.le_of_ble_eq_true rfl) dX5_scan_66 ⟨Nat.le_of_ble_eq_true rfl, Nat.le_of_ble_eq_true rfl⟩) rfl hD hS hA (fun _ _ _ _ _ h => False.elim h) (fun T15 H locs hp hP hD hS => ?_)
      have N16 : Kp z (setF (setF S 14 b10 x13) 24 x r1) T15 := hp
      have K16 : Kp z S T15 := Kp.trans (kp_setSt (kp_setF hI.kp (by decide) (by decide)) hp2) N16
      have I16 : Inv z e0 T15 := hI.keep K16.1
      have o17 : Ob T15 2 x := N16.1.ob ox
      have o18 : Ob T15 1 b10 := N16.1.ob ob10
      have g19 : pG T15 21 x = some b10 := (congrFun (N16.1.2.2.1 21 (by decide)) x).trans hb10
      exact kEndV F hr hlk hP hD hS (Nat.le_of_ble_eq_true rfl) (Nat.le_of_ble_eq_true rfl) dX5_scan_69 ⟨rfl, K16⟩
  · refine lv_aload_n hx hb dX5_scan_14 rfl (lv_at hl 2 rfl) ?_
    obtain ⟨b20, hb20, ob20⟩ := hI.2.2.2.2.2.2.1 x ox
    refine rs_Line_article (b := b20) F hK hP ox hb20 kw_288 dX5_scan_15 ?_
    refine lv_dup hx hb dX5_scan_18 rfl ?_
    refine rg_Article_promisedUnits F hK hP ob20 kw_275 dX5_scan_19 ?_
    refine lv_topi (fun x21 ex21 => ?_)
    refine lv_aload_n hx hb dX5_scan_22 rfl (lv_at hl 2 rfl) ?_
    refine rg_Line_amount F hK hP ox kw_289 dX5_scan_23 ?_
    refine lv_topi (fun x22 ex22 => ?_)
    refine lv_isub hx hb dX5_scan_26 ?_
    refine lv_topi (fun x23 ex23 => ?_)
    refine rp_Article_promisedUnits F hK hP hD hS ob20 kw_275 dX5_scan_27 (fun H locs hP hD hS => ?_)
    refine lv_iload_n hx hb dX5_scan_30 rfl (lv_at hl 0 rfl) ?_
    refine lv_bipush (v := 112) hx hb dX5_scan_31 (by decide) ?_
    refine lv_icmp_ne (tgt := 52) hx hb dX5_scan_33 (by decide) (fun c24 => ?_) (fun c24 => ?_)
    · refine lv_aload_n hx hb dX5_scan_52 rfl (lv_at hl 2 rfl) ?_
      refine lv_iload_n hx hb dX5_scan_53 rfl (lv_at hl 0 rfl) ?_
      refine rp_Line_state F hK hP hD hS ox kw_326 hp2.1 hp2.2 dX5_scan_54 (fun H locs hP hD hS => ?_)
      refine lv_aload_n hx hb dX5_scan_57 rfl (lv_at hl 1 rfl) ?_
      refine rs_Pickwave_log (b := z 12) F hK hP (hI.1.1 0 (by decide)) hI.2.1.2.2.2.2.2.1 kw_32 dX5_scan_58 ?_
      refine lv_aload_n hx hb dX5_scan_61 rfl (lv_at hl 2 rfl) ?_
      refine rg_Line_number F hK hP ox kw_294 dX5_scan_62 ?_
      refine lv_topi (fun x25 ex25 => ?_)
      refine lv_iload_n hx hb dX5_scan_65 rfl (lv_at hl 3 rfl) ?_
      refine kcallU (kV (n := 2) (As := [.int x25, .int sg]) (rest := []) (b := (z 12)) (C := RX4) F hE hK hP hD hS hA (c_X4_write l hl0 g e0 z (setF (setF S 14 b20 x23) 24 x r1) _ (hI.keep (kp_setSt (kp_setF hI.kp (by decide) (by decide)) hp2).1) x25 sg hsg) (rr_ScanLog hK hP (hI.1.1 12 (by decide))) kw_331 kw_332 kw_333 kw_31 kw_334 (by decide +kernel) ⟨Nat.le_of_ble_eq_true rfl, Nat.le_of_ble_eq_true rfl⟩ rfl hl.1 rfl (Nat.le_of_ble_eq_true rfl) dX5_scan_66 ⟨Nat.le_of_ble_eq_true rfl, Nat.le_of_ble_eq_true rfl⟩) rfl hD hS hA (fun _ _ _ _ _ h => False.elim h) (fun T26 H locs hp hP hD hS => ?_)
      have N27 : Kp z (setF (setF S 14 b20 x23) 24 x r1) T26 := hp
      have K27 : Kp z S T26 := Kp.trans (kp_setSt (kp_setF hI.kp (by decide) (by decide)) hp2) N27
      have I27 : Inv z e0 T26 := hI.keep K27.1
      have o28 : Ob T26 2 x := N27.1.ob ox
      have o29 : Ob T26 1 b20 := N27.1.ob ob20
      have g30 : pG T26 21 x = some b20 := (congrFun (N27.1.2.2.1 21 (by decide)) x).trans hb20
      exact kEndV F hr hlk hP hD hS (Nat.le_of_ble_eq_true rfl) (Nat.le_of_ble_eq_true rfl) dX5_scan_69 ⟨rfl, K27⟩
    · refine lv_aload_n hx hb dX5_scan_36 rfl (lv_at hl 2 rfl) ?_
      refine rs_Line_article (b := b20) F hK hP ox hb20 kw_288 dX5_scan_37 ?_
      refine lv_dup hx hb dX5_scan_40 rfl ?_
      refine rg_Article_promisedUnits F hK hP ob20 kw_275 dX5_scan_41 ?_
      refine lv_topi (fun x31 ex31 => ?_)
      refine lv_aload_n hx hb dX5_scan_44 rfl (lv_at hl 2 rfl) ?_
      refine rg_Line_amount F hK hP ox kw_289 dX5_scan_45 ?_
      refine lv_topi (fun x32 ex32 => ?_)
      refine lv_iadd hx hb dX5_scan_48 ?_
      refine lv_topi (fun x33 ex33 => ?_)
      refine rp_Article_promisedUnits F hK hP hD hS ob20 kw_275 dX5_scan_49 (fun H locs hP hD hS => ?_)
      refine lv_aload_n hx hb dX5_scan_52 rfl (lv_at hl 2 rfl) ?_
      refine lv_iload_n hx hb dX5_scan_53 rfl (lv_at hl 0 rfl) ?_
      refine rp_Line_state F hK hP hD hS ox kw_326 hp2.1 hp2.2 dX5_scan_54 (fun H locs hP hD hS => ?_)
      refine lv_aload_n hx hb dX5_scan_57 rfl (lv_at hl 1 rfl) ?_
      refine rs_Pickwave_log (b := z 12) F hK hP (hI.1.1 0 (by decide)) hI.2.1.2.2.2.2.2.1 kw_32 dX5_scan_58 ?_
      refine lv_aload_n hx hb dX5_scan_61 rfl (lv_at hl 2 rfl) ?_
      refine rg_Line_number F hK hP ox kw_294 dX5_scan_62 ?_
      refine lv_topi (fun x34 ex34 => ?_)
      refine lv_iload_n hx hb dX5_scan_65 rfl (lv_at hl 3 rfl) ?_
      refine kcallU (kV (n := 2) (As := [.int x34, .int sg]) (rest := []) (b := (z 12)) (C := RX4) F hE hK hP hD hS hA (c_X4_write l hl0 g e0 z (setF (setF (setF S 14 b20 x23) 14 b20 x33) 24 x r1) _ (hI.keep (kp_setSt (kp_setF (kp_setF hI.kp (by decide) (by decide)) (by decide) (by decide)) hp2).1) x34 sg hsg) (rr_ScanLog hK hP (hI.1.1 12 (by decide))) kw_331 kw_332 kw_333 kw_31 kw_334 (by decide +kernel) ⟨Nat.le_of_ble_eq_true rfl, Nat.le_of_ble_eq_true rfl⟩ rfl hl.1 rfl (Nat.le_of_ble_eq_true rfl) dX5_scan_66 ⟨Nat.le_of_ble_eq_true rfl, Nat.le_of_ble_eq_true rfl⟩) rfl hD hS hA (fun _ _ _ _ _ h => False.elim h) (fun T35 H locs hp hP hD hS => ?_)
      have N36 : Kp z (setF (setF (setF S 14 b20 x23) 14 b20 x33) 24 x r1) T35 := hp
      have K36 : Kp z S T35 := Kp.trans (kp_setSt (kp_setF (kp_setF hI.kp (by decide) (by decide)) (by decide) (by decide)) hp2) N36
      have I36 : Inv z e0 T35 := hI.keep K36.1
      have o37 : Ob T35 2 x := N36.1.ob ox
      have o38 : Ob T35 1 b20 := N36.1.ob ob20
      have g39 : pG T35 21 x = some b20 := (congrFun (N36.1.2.2.1 21 (by decide)) x).trans hb20
      exact kEndV F hr hlk hP hD hS (Nat.le_of_ble_eq_true rfl) (Nat.le_of_ble_eq_true rfl) dX5_scan_69 ⟨rfl, K36⟩
theorem dX5_canBePromised_0 : decode cX5_canBePromised 0 = .ok (.aload_n 0, 1) := by decide +kernel
theorem dX5_canBePromised_1 : decode cX5_canBePromised 1 = .ok (.getfield 106, 3) := by decide +kernel
theorem dX5_canBePromised_4 : decode cX5_canBePromised 4 = .ok (.getfield 185, 3) := by decide +kernel
theorem dX5_canBePromised_7 : decode cX5_canBePromised 7 = .ok (.getfield 121, 3) := by decide +kernel
theorem dX5_canBePromised_10 : decode cX5_canBePromised 10 = .ok (.ifCond .ne 21, 3) := by decide +kernel
theorem dX5_canBePromised_13 : decode cX5_canBePromised 13 = .ok (.aload_n 0, 1) := by decide +kernel
theorem dX5_canBePromised_14 : decode cX5_canBePromised 14 = .ok (.getfield 114, 3) := by decide +kernel
theorem dX5_canBePromised_17 : decode cX5_canBePromised 17 = .ok (.aload_n 0, 1) := by decide +kernel
theorem dX5_canBePromised_18 : decode cX5_canBePromised 18 = .ok (.getfield 106, 3) := by decide +kernel
theorem dX5_canBePromised_21 : decode cX5_canBePromised 21 = .ok (.invokevirtual 94, 3) := by decide +kernel
theorem dX5_canBePromised_24 : decode cX5_canBePromised 24 = .ok (.if_icmp .gt 7, 3) := by decide +kernel
theorem dX5_canBePromised_27 : decode cX5_canBePromised 27 = .ok (.iconst 1, 1) := by decide +kernel
theorem dX5_canBePromised_28 : decode cX5_canBePromised 28 = .ok (.goto 4, 3) := by decide +kernel
theorem dX5_canBePromised_31 : decode cX5_canBePromised 31 = .ok (.iconst 0, 1) := by decide +kernel
theorem dX5_canBePromised_32 : decode cX5_canBePromised 32 = .ok (.ireturn, 1) := by decide +kernel
set_option maxHeartbeats 4000000 in
set_option maxRecDepth 100000 in
theorem c_X5_canBePromised (l : Launch) (hl0 : l.stackTraces = false) (g : kG) (e0 : Nat) (z : Nat → Nat) (S : wPS) (sz : Nat) (hI : Inv z e0 S) (x : Nat) (ox : Ob S 2 x) : kM l g e0 yX5_canBePromised cX5_canBePromised 1 (some .boolean) 1 20 0 0 [.ref x] S sz (pI (fun r T => T = S ∧ True)) (fun E => False) := by
  refine kM.of (by decide) (Nat.le_of_ble_eq_true rfl) ?_
  intro p e s m below meth c ls B hin
  obtain ⟨F, hr, hlk, hte, hP, hK, hD, hE, hS, hA, hl, hsz⟩ := B
  subst hsz
  have hx := F.1
  have hb := F.2.1
  have hl : lv_has ls 1 [(0, .ref x)] := hl
  refine lv_aload_n hx hb dX5_canBePromised_0 rfl (lv_at hl 0 rfl) ?_
  obtain ⟨b1, hb1, ob1⟩ := hI.2.2.2.2.2.2.1 x ox
  refine rs_Line_article (b := b1) F hK hP ox hb1 kw_288 dX5_canBePromised_1 ?_
  obtain ⟨j2, hj2, hb2⟩ := hI.2.2.2.2.2.1 b1 ob1
  refine rs_Article_aisle (b := z (2 + j2)) F hK hP ob1 hb2 kw_325 dX5_canBePromised_4 ?_
  refine rg_Aisle_blocked F hK hP (hI.oa hj2) kw_316 dX5_canBePromised_7 ?_
  refine lv_topi (fun x3 ex3 => ?_)
  refine lv_if_ne (tgt := 31) hx hb dX5_canBePromised_10 (by decide) (fun c4 => ?_) (fun c4 => ?_)
  · refine lv_iconst (v := 0) hx hb dX5_canBePromised_31 (by decide) ?_
    exact kEndI F hr rfl hlk hP hD hS (Nat.le_of_ble_eq_true rfl) (Nat.le_of_ble_eq_true rfl) dX5_canBePromised_32 ⟨_, rfl, ⟨rfl, trivial⟩⟩
  · refine lv_aload_n hx hb dX5_canBePromised_13 rfl (lv_at hl 0 rfl) ?_
    refine rg_Line_amount F hK hP ox kw_289 dX5_canBePromised_14 ?_
    refine lv_topi (fun x5 ex5 => ?_)
    refine lv_aload_n hx hb dX5_canBePromised_17 rfl (lv_at hl 0 rfl) ?_
    refine rs_Line_article (b := b1) F hK hP ox hb1 kw_288 dX5_canBePromised_18 ?_
    refine kcallI (kV (n := 0) (As := []) (rest := [.int x5]) (b := b1) (C := RX1) F hE hK hP hD hS hA (c_X1_freeUnits l hl0 g e0 S _ b1 ob1) (rr_Article hK hP ob1) kw_250 kw_251 kw_252 kw_101 kw_253 (by decide +kernel) ⟨Nat.le_of_ble_eq_true rfl, Nat.le_of_ble_eq_true rfl⟩ rfl hl.1 rfl (Nat.le_of_ble_eq_true rfl) dX5_canBePromised_21 ⟨Nat.le_of_ble_eq_true rfl, Nat.le_of_ble_eq_true rfl⟩) rfl hD hS hA (fun _ _ _ _ _ h => False.elim h) (fun r6 T6 H locs hp hP hD hS => ?_)
    obtain ⟨hT, hp7⟩ := hp
    have hT := hT.symm
    subst hT
    refine lv_icmp_gt (tgt := 31) hx hb dX5_canBePromised_24 (by decide) (fun c8 => ?_) (fun c8 => ?_)
    · refine lv_iconst (v := 0) hx hb dX5_canBePromised_31 (by decide) ?_
      exact kEndI F hr rfl hlk hP hD hS (Nat.le_of_ble_eq_true rfl) (Nat.le_of_ble_eq_true rfl) dX5_canBePromised_32 ⟨_, rfl, ⟨rfl, trivial⟩⟩
    · refine lv_iconst (v := 1) hx hb dX5_canBePromised_27 (by decide) ?_
      refine lv_goto (tgt := 32) hx hb dX5_canBePromised_28 (by decide) ?_
      exact kEndI F hr rfl hlk hP hD hS (Nat.le_of_ble_eq_true rfl) (Nat.le_of_ble_eq_true rfl) dX5_canBePromised_32 ⟨_, rfl, ⟨rfl, trivial⟩⟩
theorem dX5_hasRobotIn_0 : decode cX5_hasRobotIn 0 = .ok (.iconst 0, 1) := by decide +kernel
theorem dX5_hasRobotIn_1 : decode cX5_hasRobotIn 1 = .ok (.istore_n 2, 1) := by decide +kernel
theorem dX5_hasRobotIn_2 : decode cX5_hasRobotIn 2 = .ok (.iload_n 2, 1) := by decide +kernel
theorem dX5_hasRobotIn_3 : decode cX5_hasRobotIn 3 = .ok (.aload_n 0, 1) := by decide +kernel
theorem dX5_hasRobotIn_4 : decode cX5_hasRobotIn 4 = .ok (.getfield 24, 3) := by decide +kernel
theorem dX5_hasRobotIn_7 : decode cX5_hasRobotIn 7 = .ok (.arraylength, 1) := by decide +kernel
theorem dX5_hasRobotIn_8 : decode cX5_hasRobotIn 8 = .ok (.if_icmp .ge 33, 3) := by decide +kernel
theorem dX5_hasRobotIn_11 : decode cX5_hasRobotIn 11 = .ok (.aload_n 0, 1) := by decide +kernel
theorem dX5_hasRobotIn_12 : decode cX5_hasRobotIn 12 = .ok (.getfield 24, 3) := by decide +kernel
theorem dX5_hasRobotIn_15 : decode cX5_hasRobotIn 15 = .ok (.iload_n 2, 1) := by decide +kernel
theorem dX5_hasRobotIn_16 : decode cX5_hasRobotIn 16 = .ok (.aaload, 1) := by decide +kernel
theorem dX5_hasRobotIn_17 : decode cX5_hasRobotIn 17 = .ok (.getfield 238, 3) := by decide +kernel
theorem dX5_hasRobotIn_20 : decode cX5_hasRobotIn 20 = .ok (.astore_n 3, 1) := by decide +kernel
theorem dX5_hasRobotIn_21 : decode cX5_hasRobotIn 21 = .ok (.aload_n 3, 1) := by decide +kernel
theorem dX5_hasRobotIn_22 : decode cX5_hasRobotIn 22 = .ok (.ifnull 13, 3) := by decide +kernel
theorem dX5_hasRobotIn_25 : decode cX5_hasRobotIn 25 = .ok (.aload_n 3, 1) := by decide +kernel
theorem dX5_hasRobotIn_26 : decode cX5_hasRobotIn 26 = .ok (.getfield 185, 3) := by decide +kernel
theorem dX5_hasRobotIn_29 : decode cX5_hasRobotIn 29 = .ok (.aload_n 1, 1) := by decide +kernel
theorem dX5_hasRobotIn_30 : decode cX5_hasRobotIn 30 = .ok (.if_acmp .ne 5, 3) := by decide +kernel
theorem dX5_hasRobotIn_33 : decode cX5_hasRobotIn 33 = .ok (.iconst 1, 1) := by decide +kernel
theorem dX5_hasRobotIn_34 : decode cX5_hasRobotIn 34 = .ok (.ireturn, 1) := by decide +kernel
theorem dX5_hasRobotIn_35 : decode cX5_hasRobotIn 35 = .ok (.iinc 2 1, 3) := by decide +kernel
theorem dX5_hasRobotIn_38 : decode cX5_hasRobotIn 38 = .ok (.goto (-36), 3) := by decide +kernel
theorem dX5_hasRobotIn_41 : decode cX5_hasRobotIn 41 = .ok (.iconst 0, 1) := by decide +kernel
theorem dX5_hasRobotIn_42 : decode cX5_hasRobotIn 42 = .ok (.ireturn, 1) := by decide +kernel
set_option maxHeartbeats 4000000 in
set_option maxRecDepth 100000 in
theorem c_X5_hasRobotIn (l : Launch) (hl0 : l.stackTraces = false) (g : kG) (e0 : Nat) (z : Nat → Nat) (S : wPS) (sz : Nat) (hI : Inv z e0 S) (a : Nat) (oa : Ob S 0 a) : kM l g e0 yX5_hasRobotIn cX5_hasRobotIn 4 (some .boolean) 0 0 0 0 [.ref (z 0), .ref a] S sz (pI (fun r T => T = S ∧ True)) (fun E => False) := by
  refine kM.of (by decide) (Nat.le_of_ble_eq_true rfl) ?_
  intro p e s m below meth c ls B hin
  obtain ⟨F, hr, hlk, hte, hP, hK, hD, hE, hS, hA, hl, hsz⟩ := B
  subst hsz
  have hx := F.1
  have hb := F.2.1
  have hl : lv_has ls 4 [(0, .ref (z 0)), (1, .ref a)] := hl
  refine lv_iconst (v := 0) hx hb dX5_hasRobotIn_0 (by decide) ?_
  refine lv_istore_n (lv' := [(2, .int 0), (0, .ref (z 0)), (1, .ref a)]) hx hb dX5_hasRobotIn_1 rfl hl (by decide) rfl (fun ls hl => ?_)
  refine lv_iload_n hx hb dX5_hasRobotIn_2 rfl (lv_at hl 0 rfl) ?_
  refine lv_aload_n hx hb dX5_hasRobotIn_3 rfl (lv_at hl 1 rfl) ?_
  refine rs_Pickwave_robots (b := z 7) F hK hP (hI.1.1 0 (by decide)) hI.2.1.2.2.1 kw_21 dX5_hasRobotIn_4 ?_
  refine rl_Robot (v := 2) F hK hP (hI.1.1 7 (by decide)) (congrArg Int32.ofNat (show pN S (z 7) = 2 from hI.2.2.1.2.2.2.1)) dX5_hasRobotIn_7 ?_
  refine lv_icmp_ge (tgt := 41) hx hb dX5_hasRobotIn_8 (by decide) (fun c1 => ?_) (fun c1 => ?_)
  · exact absurd c1 (by decide)
  · refine lv_aload_n hx hb dX5_hasRobotIn_11 rfl (lv_at hl 1 rfl) ?_
    refine rs_Pickwave_robots (b := z 7) F hK hP (hI.1.1 0 (by decide)) hI.2.1.2.2.1 kw_21 dX5_hasRobotIn_12 ?_
    refine lv_iload_n hx hb dX5_hasRobotIn_15 rfl (lv_at hl 0 rfl) ?_
    refine rds_Robot (b := z 8) F hK hP (hI.1.1 7 (by decide)) (by rw [hI.2.2.1.2.2.2.1]; exact vp_in_nI (n := 0) (by decide) (by decide)) (hI.2.2.1.2.2.2.2.1 0 (by decide)) dX5_hasRobotIn_16 ?_
    rcases (hI.2.2.2.2.2.2.2 _ (hI.or (j := 0) (by decide))) with ha2 | ⟨b2, ha2, ob2⟩
    · refine rz_Robot_article F hK hP (hI.or (j := 0) (by decide)) ha2 kw_614 dX5_hasRobotIn_17 ?_
      refine lv_astore_nN (lv' := [(3, .null), (2, .int 0), (0, .ref (z 0)), (1, .ref a)]) hx hb dX5_hasRobotIn_20 rfl hl (by decide) rfl (fun ls hl => ?_)
      refine lv_aload_nN hx hb dX5_hasRobotIn_21 rfl (lv_at hl 0 rfl) ?_
      refine lv_ifnullN (tgt := 35) hx hb dX5_hasRobotIn_22 (by decide) ?_
      refine lv_iinc (v := 1) (lv' := [(2, .int 1), (3, .null), (0, .ref (z 0)), (1, .ref a)]) hx hb dX5_hasRobotIn_35 hl (k := 1) rfl (by decide) (by decide) rfl (fun ls hl => ?_)
      refine lv_goto (tgt := 2) hx hb dX5_hasRobotIn_38 (by decide) ?_
      refine lv_iload_n hx hb dX5_hasRobotIn_2 rfl (lv_at hl 0 rfl) ?_
      refine lv_aload_n hx hb dX5_hasRobotIn_3 rfl (lv_at hl 2 rfl) ?_
      refine rs_Pickwave_robots (b := z 7) F hK hP (hI.1.1 0 (by decide)) hI.2.1.2.2.1 kw_21 dX5_hasRobotIn_4 ?_
      refine rl_Robot (v := 2) F hK hP (hI.1.1 7 (by decide)) (congrArg Int32.ofNat (show pN S (z 7) = 2 from hI.2.2.1.2.2.2.1)) dX5_hasRobotIn_7 ?_
      refine lv_icmp_ge (tgt := 41) hx hb dX5_hasRobotIn_8 (by decide) (fun c3 => ?_) (fun c3 => ?_)
      · exact absurd c3 (by decide)
      · refine lv_aload_n hx hb dX5_hasRobotIn_11 rfl (lv_at hl 2 rfl) ?_
        refine rs_Pickwave_robots (b := z 7) F hK hP (hI.1.1 0 (by decide)) hI.2.1.2.2.1 kw_21 dX5_hasRobotIn_12 ?_
        refine lv_iload_n hx hb dX5_hasRobotIn_15 rfl (lv_at hl 0 rfl) ?_
        refine rds_Robot (b := z 9) F hK hP (hI.1.1 7 (by decide)) (by rw [hI.2.2.1.2.2.2.1]; exact vp_in_nI (n := 1) (by decide) (by decide)) (hI.2.2.1.2.2.2.2.1 1 (by decide)) dX5_hasRobotIn_16 ?_
        rcases (hI.2.2.2.2.2.2.2 _ (hI.or (j := 1) (by decide))) with ha4 | ⟨b4, ha4, ob4⟩
        · refine rz_Robot_article F hK hP (hI.or (j := 1) (by decide)) ha4 kw_614 dX5_hasRobotIn_17 ?_
          refine lv_astore_nN (lv' := [(3, .null), (2, .int 1), (0, .ref (z 0)), (1, .ref a)]) hx hb dX5_hasRobotIn_20 rfl hl (by decide) rfl (fun ls hl => ?_)
          refine lv_aload_nN hx hb dX5_hasRobotIn_21 rfl (lv_at hl 0 rfl) ?_
          refine lv_ifnullN (tgt := 35) hx hb dX5_hasRobotIn_22 (by decide) ?_
          refine lv_iinc (v := 2) (lv' := [(2, .int 2), (3, .null), (0, .ref (z 0)), (1, .ref a)]) hx hb dX5_hasRobotIn_35 hl (k := 1) rfl (by decide) (by decide) rfl (fun ls hl => ?_)
          refine lv_goto (tgt := 2) hx hb dX5_hasRobotIn_38 (by decide) ?_
          refine lv_iload_n hx hb dX5_hasRobotIn_2 rfl (lv_at hl 0 rfl) ?_
          refine lv_aload_n hx hb dX5_hasRobotIn_3 rfl (lv_at hl 2 rfl) ?_
          refine rs_Pickwave_robots (b := z 7) F hK hP (hI.1.1 0 (by decide)) hI.2.1.2.2.1 kw_21 dX5_hasRobotIn_4 ?_
          refine rl_Robot (v := 2) F hK hP (hI.1.1 7 (by decide)) (congrArg Int32.ofNat (show pN S (z 7) = 2 from hI.2.2.1.2.2.2.1)) dX5_hasRobotIn_7 ?_
          refine lv_icmp_ge (tgt := 41) hx hb dX5_hasRobotIn_8 (by decide) (fun c5 => ?_) (fun c5 => ?_)
          · refine lv_iconst (v := 0) hx hb dX5_hasRobotIn_41 (by decide) ?_
            exact kEndI F hr rfl hlk hP hD hS (Nat.le_of_ble_eq_true rfl) (Nat.le_of_ble_eq_true rfl) dX5_hasRobotIn_42 ⟨_, rfl, ⟨rfl, trivial⟩⟩
          · exact absurd (by decide) c5
        · refine rs_Robot_article (b := b4) F hK hP (hI.or (j := 1) (by decide)) ha4 kw_614 dX5_hasRobotIn_17 ?_
          refine lv_astore_n (lv' := [(3, .ref b4), (2, .int 1), (0, .ref (z 0)), (1, .ref a)]) hx hb dX5_hasRobotIn_20 rfl hl (by decide) rfl (fun ls hl => ?_)
          refine lv_aload_n hx hb dX5_hasRobotIn_21 rfl (lv_at hl 0 rfl) ?_
          refine lv_ifnull hx hb dX5_hasRobotIn_22 ?_
          refine lv_aload_n hx hb dX5_hasRobotIn_25 rfl (lv_at hl 0 rfl) ?_
          obtain ⟨j6, hj6, hb6⟩ := hI.2.2.2.2.2.1 b4 ob4
          refine rs_Article_aisle (b := z (2 + j6)) F hK hP ob4 hb6 kw_325 dX5_hasRobotIn_26 ?_
          refine lv_aload_n hx hb dX5_hasRobotIn_29 rfl (lv_at hl 3 rfl) ?_
          refine lv_acmp_ne (rx := (some (z (2 + j6)))) (ry := (some a)) (tgt := 35) hx hb dX5_hasRobotIn_30 (by decide) (fun c7 => ?_) (fun c7 => ?_)
          · refine lv_iinc (v := 2) (lv' := [(2, .int 2), (3, .ref b4), (0, .ref (z 0)), (1, .ref a)]) hx hb dX5_hasRobotIn_35 hl (k := 1) rfl (by decide) (by decide) rfl (fun ls hl => ?_)
            refine lv_goto (tgt := 2) hx hb dX5_hasRobotIn_38 (by decide) ?_
            refine lv_iload_n hx hb dX5_hasRobotIn_2 rfl (lv_at hl 0 rfl) ?_
            refine lv_aload_n hx hb dX5_hasRobotIn_3 rfl (lv_at hl 2 rfl) ?_
            refine rs_Pickwave_robots (b := z 7) F hK hP (hI.1.1 0 (by decide)) hI.2.1.2.2.1 kw_21 dX5_hasRobotIn_4 ?_
            refine rl_Robot (v := 2) F hK hP (hI.1.1 7 (by decide)) (congrArg Int32.ofNat (show pN S (z 7) = 2 from hI.2.2.1.2.2.2.1)) dX5_hasRobotIn_7 ?_
            refine lv_icmp_ge (tgt := 41) hx hb dX5_hasRobotIn_8 (by decide) (fun c8 => ?_) (fun c8 => ?_)
            · refine lv_iconst (v := 0) hx hb dX5_hasRobotIn_41 (by decide) ?_
              exact kEndI F hr rfl hlk hP hD hS (Nat.le_of_ble_eq_true rfl) (Nat.le_of_ble_eq_true rfl) dX5_hasRobotIn_42 ⟨_, rfl, ⟨rfl, trivial⟩⟩
            · exact absurd (by decide) c8
          · refine lv_iconst (v := 1) hx hb dX5_hasRobotIn_33 (by decide) ?_
            exact kEndI F hr rfl hlk hP hD hS (Nat.le_of_ble_eq_true rfl) (Nat.le_of_ble_eq_true rfl) dX5_hasRobotIn_34 ⟨_, rfl, ⟨rfl, trivial⟩⟩
    · refine rs_Robot_article (b := b2) F hK hP (hI.or (j := 0) (by decide)) ha2 kw_614 dX5_hasRobotIn_17 ?_
      refine lv_astore_n (lv' := [(3, .ref b2), (2, .int 0), (0, .ref (z 0)), (1, .ref a)]) hx hb dX5_hasRobotIn_20 rfl hl (by decide) rfl (fun ls hl => ?_)
      refine lv_aload_n hx hb dX5_hasRobotIn_21 rfl (lv_at hl 0 rfl) ?_
      refine lv_ifnull hx hb dX5_hasRobotIn_22 ?_
      refine lv_aload_n hx hb dX5_hasRobotIn_25 rfl (lv_at hl 0 rfl) ?_
      obtain ⟨j9, hj9, hb9⟩ := hI.2.2.2.2.2.1 b2 ob2
      refine rs_Article_aisle (b := z (2 + j9)) F hK hP ob2 hb9 kw_325 dX5_hasRobotIn_26 ?_
      refine lv_aload_n hx hb dX5_hasRobotIn_29 rfl (lv_at hl 3 rfl) ?_
      refine lv_acmp_ne (rx := (some (z (2 + j9)))) (ry := (some a)) (tgt := 35) hx hb dX5_hasRobotIn_30 (by decide) (fun c10 => ?_) (fun c10 => ?_)
      · refine lv_iinc (v := 1) (lv' := [(2, .int 1), (3, .ref b2), (0, .ref (z 0)), (1, .ref a)]) hx hb dX5_hasRobotIn_35 hl (k := 1) rfl (by decide) (by decide) rfl (fun ls hl => ?_)
        refine lv_goto (tgt := 2) hx hb dX5_hasRobotIn_38 (by decide) ?_
        refine lv_iload_n hx hb dX5_hasRobotIn_2 rfl (lv_at hl 0 rfl) ?_
        refine lv_aload_n hx hb dX5_hasRobotIn_3 rfl (lv_at hl 2 rfl) ?_
        refine rs_Pickwave_robots (b := z 7) F hK hP (hI.1.1 0 (by decide)) hI.2.1.2.2.1 kw_21 dX5_hasRobotIn_4 ?_
        refine rl_Robot (v := 2) F hK hP (hI.1.1 7 (by decide)) (congrArg Int32.ofNat (show pN S (z 7) = 2 from hI.2.2.1.2.2.2.1)) dX5_hasRobotIn_7 ?_
        refine lv_icmp_ge (tgt := 41) hx hb dX5_hasRobotIn_8 (by decide) (fun c11 => ?_) (fun c11 => ?_)
        · exact absurd c11 (by decide)
        · refine lv_aload_n hx hb dX5_hasRobotIn_11 rfl (lv_at hl 2 rfl) ?_
          refine rs_Pickwave_robots (b := z 7) F hK hP (hI.1.1 0 (by decide)) hI.2.1.2.2.1 kw_21 dX5_hasRobotIn_12 ?_
          refine lv_iload_n hx hb dX5_hasRobotIn_15 rfl (lv_at hl 0 rfl) ?_
          refine rds_Robot (b := z 9) F hK hP (hI.1.1 7 (by decide)) (by rw [hI.2.2.1.2.2.2.1]; exact vp_in_nI (n := 1) (by decide) (by decide)) (hI.2.2.1.2.2.2.2.1 1 (by decide)) dX5_hasRobotIn_16 ?_
          rcases (hI.2.2.2.2.2.2.2 _ (hI.or (j := 1) (by decide))) with ha12 | ⟨b12, ha12, ob12⟩
          · refine rz_Robot_article F hK hP (hI.or (j := 1) (by decide)) ha12 kw_614 dX5_hasRobotIn_17 ?_
            refine lv_astore_nN (lv' := [(3, .null), (2, .int 1), (0, .ref (z 0)), (1, .ref a)]) hx hb dX5_hasRobotIn_20 rfl hl (by decide) rfl (fun ls hl => ?_)
            refine lv_aload_nN hx hb dX5_hasRobotIn_21 rfl (lv_at hl 0 rfl) ?_
            refine lv_ifnullN (tgt := 35) hx hb dX5_hasRobotIn_22 (by decide) ?_
            refine lv_iinc (v := 2) (lv' := [(2, .int 2), (3, .null), (0, .ref (z 0)), (1, .ref a)]) hx hb dX5_hasRobotIn_35 hl (k := 1) rfl (by decide) (by decide) rfl (fun ls hl => ?_)
            refine lv_goto (tgt := 2) hx hb dX5_hasRobotIn_38 (by decide) ?_
            refine lv_iload_n hx hb dX5_hasRobotIn_2 rfl (lv_at hl 0 rfl) ?_
            refine lv_aload_n hx hb dX5_hasRobotIn_3 rfl (lv_at hl 2 rfl) ?_
            refine rs_Pickwave_robots (b := z 7) F hK hP (hI.1.1 0 (by decide)) hI.2.1.2.2.1 kw_21 dX5_hasRobotIn_4 ?_
            refine rl_Robot (v := 2) F hK hP (hI.1.1 7 (by decide)) (congrArg Int32.ofNat (show pN S (z 7) = 2 from hI.2.2.1.2.2.2.1)) dX5_hasRobotIn_7 ?_
            refine lv_icmp_ge (tgt := 41) hx hb dX5_hasRobotIn_8 (by decide) (fun c13 => ?_) (fun c13 => ?_)
            · refine lv_iconst (v := 0) hx hb dX5_hasRobotIn_41 (by decide) ?_
              exact kEndI F hr rfl hlk hP hD hS (Nat.le_of_ble_eq_true rfl) (Nat.le_of_ble_eq_true rfl) dX5_hasRobotIn_42 ⟨_, rfl, ⟨rfl, trivial⟩⟩
            · exact absurd (by decide) c13
          · refine rs_Robot_article (b := b12) F hK hP (hI.or (j := 1) (by decide)) ha12 kw_614 dX5_hasRobotIn_17 ?_
            refine lv_astore_n (lv' := [(3, .ref b12), (2, .int 1), (0, .ref (z 0)), (1, .ref a)]) hx hb dX5_hasRobotIn_20 rfl hl (by decide) rfl (fun ls hl => ?_)
            refine lv_aload_n hx hb dX5_hasRobotIn_21 rfl (lv_at hl 0 rfl) ?_
            refine lv_ifnull hx hb dX5_hasRobotIn_22 ?_
            refine lv_aload_n hx hb dX5_hasRobotIn_25 rfl (lv_at hl 0 rfl) ?_
            obtain ⟨j14, hj14, hb14⟩ := hI.2.2.2.2.2.1 b12 ob12
            refine rs_Article_aisle (b := z (2 + j14)) F hK hP ob12 hb14 kw_325 dX5_hasRobotIn_26 ?_
            refine lv_aload_n hx hb dX5_hasRobotIn_29 rfl (lv_at hl 3 rfl) ?_
            refine lv_acmp_ne (rx := (some (z (2 + j14)))) (ry := (some a)) (tgt := 35) hx hb dX5_hasRobotIn_30 (by decide) (fun c15 => ?_) (fun c15 => ?_)
            · refine lv_iinc (v := 2) (lv' := [(2, .int 2), (3, .ref b12), (0, .ref (z 0)), (1, .ref a)]) hx hb dX5_hasRobotIn_35 hl (k := 1) rfl (by decide) (by decide) rfl (fun ls hl => ?_)
              refine lv_goto (tgt := 2) hx hb dX5_hasRobotIn_38 (by decide) ?_
              refine lv_iload_n hx hb dX5_hasRobotIn_2 rfl (lv_at hl 0 rfl) ?_
              refine lv_aload_n hx hb dX5_hasRobotIn_3 rfl (lv_at hl 2 rfl) ?_
              refine rs_Pickwave_robots (b := z 7) F hK hP (hI.1.1 0 (by decide)) hI.2.1.2.2.1 kw_21 dX5_hasRobotIn_4 ?_
              refine rl_Robot (v := 2) F hK hP (hI.1.1 7 (by decide)) (congrArg Int32.ofNat (show pN S (z 7) = 2 from hI.2.2.1.2.2.2.1)) dX5_hasRobotIn_7 ?_
              refine lv_icmp_ge (tgt := 41) hx hb dX5_hasRobotIn_8 (by decide) (fun c16 => ?_) (fun c16 => ?_)
              · refine lv_iconst (v := 0) hx hb dX5_hasRobotIn_41 (by decide) ?_
                exact kEndI F hr rfl hlk hP hD hS (Nat.le_of_ble_eq_true rfl) (Nat.le_of_ble_eq_true rfl) dX5_hasRobotIn_42 ⟨_, rfl, ⟨rfl, trivial⟩⟩
              · exact absurd (by decide) c16
            · refine lv_iconst (v := 1) hx hb dX5_hasRobotIn_33 (by decide) ?_
              exact kEndI F hr rfl hlk hP hD hS (Nat.le_of_ble_eq_true rfl) (Nat.le_of_ble_eq_true rfl) dX5_hasRobotIn_34 ⟨_, rfl, ⟨rfl, trivial⟩⟩
      · refine lv_iconst (v := 1) hx hb dX5_hasRobotIn_33 (by decide) ?_
        exact kEndI F hr rfl hlk hP hD hS (Nat.le_of_ble_eq_true rfl) (Nat.le_of_ble_eq_true rfl) dX5_hasRobotIn_34 ⟨_, rfl, ⟨rfl, trivial⟩⟩
theorem dX5_minutesOfAWay_0 : decode cX5_minutesOfAWay 0 = .ok (.iconst 3, 1) := by decide +kernel
theorem dX5_minutesOfAWay_1 : decode cX5_minutesOfAWay 1 = .ok (.iconst 2, 1) := by decide +kernel
theorem dX5_minutesOfAWay_2 : decode cX5_minutesOfAWay 2 = .ok (.aload_n 1, 1) := by decide +kernel
theorem dX5_minutesOfAWay_3 : decode cX5_minutesOfAWay 3 = .ok (.getfield 131, 3) := by decide +kernel
theorem dX5_minutesOfAWay_6 : decode cX5_minutesOfAWay 6 = .ok (.imul, 1) := by decide +kernel
theorem dX5_minutesOfAWay_7 : decode cX5_minutesOfAWay 7 = .ok (.iadd, 1) := by decide +kernel
theorem dX5_minutesOfAWay_8 : decode cX5_minutesOfAWay 8 = .ok (.istore_n 2, 1) := by decide +kernel
theorem dX5_minutesOfAWay_9 : decode cX5_minutesOfAWay 9 = .ok (.aload_n 0, 1) := by decide +kernel
theorem dX5_minutesOfAWay_10 : decode cX5_minutesOfAWay 10 = .ok (.aload_n 1, 1) := by decide +kernel
theorem dX5_minutesOfAWay_11 : decode cX5_minutesOfAWay 11 = .ok (.invokevirtual 319, 3) := by decide +kernel
theorem dX5_minutesOfAWay_14 : decode cX5_minutesOfAWay 14 = .ok (.ifCond .eq 9, 3) := by decide +kernel
theorem dX5_minutesOfAWay_17 : decode cX5_minutesOfAWay 17 = .ok (.iload_n 2, 1) := by decide +kernel
theorem dX5_minutesOfAWay_18 : decode cX5_minutesOfAWay 18 = .ok (.iconst 4, 1) := by decide +kernel
theorem dX5_minutesOfAWay_19 : decode cX5_minutesOfAWay 19 = .ok (.iadd, 1) := by decide +kernel
theorem dX5_minutesOfAWay_20 : decode cX5_minutesOfAWay 20 = .ok (.goto 4, 3) := by decide +kernel
theorem dX5_minutesOfAWay_23 : decode cX5_minutesOfAWay 23 = .ok (.iload_n 2, 1) := by decide +kernel
theorem dX5_minutesOfAWay_24 : decode cX5_minutesOfAWay 24 = .ok (.ireturn, 1) := by decide +kernel
set_option maxHeartbeats 4000000 in
set_option maxRecDepth 100000 in
theorem c_X5_minutesOfAWay (l : Launch) (hl0 : l.stackTraces = false) (g : kG) (e0 : Nat) (z : Nat → Nat) (S : wPS) (sz : Nat) (hI : Inv z e0 S) (a : Nat) (oa : Ob S 0 a) : kM l g e0 yX5_minutesOfAWay cX5_minutesOfAWay 3 (some .int) 1 23 0 0 [.ref (z 0), .ref a] S sz (pI (fun r T => T = S ∧ True)) (fun E => False) := by
  refine kM.of (by decide) (Nat.le_of_ble_eq_true rfl) ?_
  intro p e s m below meth c ls B hin
  obtain ⟨F, hr, hlk, hte, hP, hK, hD, hE, hS, hA, hl, hsz⟩ := B
  subst hsz
  have hx := F.1
  have hb := F.2.1
  have hl : lv_has ls 3 [(0, .ref (z 0)), (1, .ref a)] := hl
  refine lv_iconst (v := 3) hx hb dX5_minutesOfAWay_0 (by decide) ?_
  refine lv_iconst (v := 2) hx hb dX5_minutesOfAWay_1 (by decide) ?_
  refine lv_aload_n hx hb dX5_minutesOfAWay_2 rfl (lv_at hl 1 rfl) ?_
  refine rg_Aisle_pickers F hK hP oa kw_359 dX5_minutesOfAWay_3 ?_
  refine lv_topi (fun x1 ex1 => ?_)
  refine lv_imul hx hb dX5_minutesOfAWay_6 ?_
  refine lv_topi (fun x2 ex2 => ?_)
  refine lv_iadd hx hb dX5_minutesOfAWay_7 ?_
  refine lv_topi (fun x3 ex3 => ?_)
  refine lv_istore_n (lv' := [(2, .int x3), (0, .ref (z 0)), (1, .ref a)]) hx hb dX5_minutesOfAWay_8 rfl hl (by decide) rfl (fun ls hl => ?_)
  refine lv_aload_n hx hb dX5_minutesOfAWay_9 rfl (lv_at hl 1 rfl) ?_
  refine lv_aload_n hx hb dX5_minutesOfAWay_10 rfl (lv_at hl 2 rfl) ?_
  refine kcallI (kV (n := 1) (As := [.ref a]) (rest := []) (b := (z 0)) (C := RX5) F hE hK hP hD hS hA (c_X5_hasRobotIn l hl0 g e0 z S _ hI a oa) (rr_Pickwave hK hP (hI.1.1 0 (by decide))) kw_626 kw_627 kw_628 kw_2 kw_629 (by decide +kernel) ⟨Nat.le_of_ble_eq_true rfl, Nat.le_of_ble_eq_true rfl⟩ rfl hl.1 rfl (Nat.le_of_ble_eq_true rfl) dX5_minutesOfAWay_11 ⟨Nat.le_of_ble_eq_true rfl, Nat.le_of_ble_eq_true rfl⟩) rfl hD hS hA (fun _ _ _ _ _ h => False.elim h) (fun r4 T4 H locs hp hP hD hS => ?_)
  obtain ⟨hT, hp5⟩ := hp
  have hT := hT.symm
  subst hT
  refine lv_if_eq (tgt := 23) hx hb dX5_minutesOfAWay_14 (by decide) (fun c6 => ?_) (fun c6 => ?_)
  · refine lv_iload_n hx hb dX5_minutesOfAWay_23 rfl (lv_at hl 0 rfl) ?_
    exact kEndI F hr rfl hlk hP hD hS (Nat.le_of_ble_eq_true rfl) (Nat.le_of_ble_eq_true rfl) dX5_minutesOfAWay_24 ⟨_, rfl, ⟨rfl, trivial⟩⟩
  · refine lv_iload_n hx hb dX5_minutesOfAWay_17 rfl (lv_at hl 0 rfl) ?_
    refine lv_iconst (v := 4) hx hb dX5_minutesOfAWay_18 (by decide) ?_
    refine lv_iadd hx hb dX5_minutesOfAWay_19 ?_
    refine lv_topi (fun x7 ex7 => ?_)
    refine lv_goto (tgt := 24) hx hb dX5_minutesOfAWay_20 (by decide) ?_
    exact kEndI F hr rfl hlk hP hD hS (Nat.le_of_ble_eq_true rfl) (Nat.le_of_ble_eq_true rfl) dX5_minutesOfAWay_24 ⟨_, rfl, ⟨rfl, trivial⟩⟩
theorem dX5_passMinuteOf_0 : decode cX5_passMinuteOf 0 = .ok (.aload_n 0, 1) := by decide +kernel
theorem dX5_passMinuteOf_1 : decode cX5_passMinuteOf 1 = .ok (.getfield 238, 3) := by decide +kernel
theorem dX5_passMinuteOf_4 : decode cX5_passMinuteOf 4 = .ok (.astore_n 1, 1) := by decide +kernel
theorem dX5_passMinuteOf_5 : decode cX5_passMinuteOf 5 = .ok (.aload_n 1, 1) := by decide +kernel
theorem dX5_passMinuteOf_6 : decode cX5_passMinuteOf 6 = .ok (.ifnull 13, 3) := by decide +kernel
theorem dX5_passMinuteOf_9 : decode cX5_passMinuteOf 9 = .ok (.aload_n 1, 1) := by decide +kernel
theorem dX5_passMinuteOf_10 : decode cX5_passMinuteOf 10 = .ok (.getfield 185, 3) := by decide +kernel
theorem dX5_passMinuteOf_13 : decode cX5_passMinuteOf 13 = .ok (.getfield 121, 3) := by decide +kernel
theorem dX5_passMinuteOf_16 : decode cX5_passMinuteOf 16 = .ok (.ifCond .eq 5, 3) := by decide +kernel
theorem dX5_passMinuteOf_19 : decode cX5_passMinuteOf 19 = .ok (.iconst 0, 1) := by decide +kernel
theorem dX5_passMinuteOf_20 : decode cX5_passMinuteOf 20 = .ok (.ireturn, 1) := by decide +kernel
theorem dX5_passMinuteOf_21 : decode cX5_passMinuteOf 21 = .ok (.aload_n 0, 1) := by decide +kernel
theorem dX5_passMinuteOf_22 : decode cX5_passMinuteOf 22 = .ok (.dup, 1) := by decide +kernel
theorem dX5_passMinuteOf_23 : decode cX5_passMinuteOf 23 = .ok (.getfield 250, 3) := by decide +kernel
theorem dX5_passMinuteOf_26 : decode cX5_passMinuteOf 26 = .ok (.iconst 1, 1) := by decide +kernel
theorem dX5_passMinuteOf_27 : decode cX5_passMinuteOf 27 = .ok (.isub, 1) := by decide +kernel
theorem dX5_passMinuteOf_28 : decode cX5_passMinuteOf 28 = .ok (.putfield 250, 3) := by decide +kernel
theorem dX5_passMinuteOf_31 : decode cX5_passMinuteOf 31 = .ok (.aload_n 0, 1) := by decide +kernel
theorem dX5_passMinuteOf_32 : decode cX5_passMinuteOf 32 = .ok (.getfield 250, 3) := by decide +kernel
theorem dX5_passMinuteOf_35 : decode cX5_passMinuteOf 35 = .ok (.ifCond .le 5, 3) := by decide +kernel
theorem dX5_passMinuteOf_38 : decode cX5_passMinuteOf 38 = .ok (.iconst 0, 1) := by decide +kernel
theorem dX5_passMinuteOf_39 : decode cX5_passMinuteOf 39 = .ok (.ireturn, 1) := by decide +kernel
theorem dX5_passMinuteOf_40 : decode cX5_passMinuteOf 40 = .ok (.aload_n 0, 1) := by decide +kernel
theorem dX5_passMinuteOf_41 : decode cX5_passMinuteOf 41 = .ok (.getfield 253, 3) := by decide +kernel
theorem dX5_passMinuteOf_44 : decode cX5_passMinuteOf 44 = .ok (.istore_n 2, 1) := by decide +kernel
theorem dX5_passMinuteOf_45 : decode cX5_passMinuteOf 45 = .ok (.aload_n 0, 1) := by decide +kernel
theorem dX5_passMinuteOf_46 : decode cX5_passMinuteOf 46 = .ok (.aconst_null, 1) := by decide +kernel
theorem dX5_passMinuteOf_47 : decode cX5_passMinuteOf 47 = .ok (.putfield 238, 3) := by decide +kernel
theorem dX5_passMinuteOf_50 : decode cX5_passMinuteOf 50 = .ok (.aload_n 0, 1) := by decide +kernel
theorem dX5_passMinuteOf_51 : decode cX5_passMinuteOf 51 = .ok (.iconst 0, 1) := by decide +kernel
theorem dX5_passMinuteOf_52 : decode cX5_passMinuteOf 52 = .ok (.putfield 253, 3) := by decide +kernel
theorem dX5_passMinuteOf_55 : decode cX5_passMinuteOf 55 = .ok (.aload_n 1, 1) := by decide +kernel
theorem dX5_passMinuteOf_56 : decode cX5_passMinuteOf 56 = .ok (.iload_n 2, 1) := by decide +kernel
theorem dX5_passMinuteOf_57 : decode cX5_passMinuteOf 57 = .ok (.invokevirtual 152, 3) := by decide +kernel
theorem dX5_passMinuteOf_60 : decode cX5_passMinuteOf 60 = .ok (.ireturn, 1) := by decide +kernel
set_option maxHeartbeats 4000000 in
set_option maxRecDepth 100000 in
theorem c_X5_passMinuteOf (l : Launch) (hl0 : l.stackTraces = false) (g : kG) (e0 : Nat) (z : Nat → Nat) (S : wPS) (sz : Nat) (hI : Inv z e0 S) (x : Nat) (ox : Ob S 3 x) : kM l g e0 yX5_passMinuteOf cX5_passMinuteOf 3 (some .int) 2 42 0 0 [.ref x] S sz (pI (fun r T => Kp z S T ∧ (pG S 30 x = none → r = 0 ∧ T = S))) (fun E => False) := by
  refine kM.of (by decide) (Nat.le_of_ble_eq_true rfl) ?_
  intro p e s m below meth c ls B hin
  obtain ⟨F, hr, hlk, hte, hP, hK, hD, hE, hS, hA, hl, hsz⟩ := B
  subst hsz
  have hx := F.1
  have hb := F.2.1
  have hl : lv_has ls 3 [(0, .ref x)] := hl
  refine lv_aload_n hx hb dX5_passMinuteOf_0 rfl (lv_at hl 0 rfl) ?_
  rcases (hI.2.2.2.2.2.2.2 _ ox) with ha1 | ⟨b1, ha1, ob1⟩
  · refine rz_Robot_article F hK hP ox ha1 kw_614 dX5_passMinuteOf_1 ?_
    refine lv_astore_nN (lv' := [(1, .null), (0, .ref x)]) hx hb dX5_passMinuteOf_4 rfl hl (by decide) rfl (fun ls hl => ?_)
    refine lv_aload_nN hx hb dX5_passMinuteOf_5 rfl (lv_at hl 0 rfl) ?_
    refine lv_ifnullN (tgt := 19) hx hb dX5_passMinuteOf_6 (by decide) ?_
    refine lv_iconst (v := 0) hx hb dX5_passMinuteOf_19 (by decide) ?_
    exact kEndI F hr rfl hlk hP hD hS (Nat.le_of_ble_eq_true rfl) (Nat.le_of_ble_eq_true rfl) dX5_passMinuteOf_20 ⟨_, rfl, ⟨hI.kp, fun _ => ⟨rfl, rfl⟩⟩⟩
  · refine rs_Robot_article (b := b1) F hK hP ox ha1 kw_614 dX5_passMinuteOf_1 ?_
    refine lv_astore_n (lv' := [(1, .ref b1), (0, .ref x)]) hx hb dX5_passMinuteOf_4 rfl hl (by decide) rfl (fun ls hl => ?_)
    refine lv_aload_n hx hb dX5_passMinuteOf_5 rfl (lv_at hl 0 rfl) ?_
    refine lv_ifnull hx hb dX5_passMinuteOf_6 ?_
    refine lv_aload_n hx hb dX5_passMinuteOf_9 rfl (lv_at hl 0 rfl) ?_
    obtain ⟨j2, hj2, hb2⟩ := hI.2.2.2.2.2.1 b1 ob1
    refine rs_Article_aisle (b := z (2 + j2)) F hK hP ob1 hb2 kw_325 dX5_passMinuteOf_10 ?_
    refine rg_Aisle_blocked F hK hP (hI.oa hj2) kw_316 dX5_passMinuteOf_13 ?_
    refine lv_topi (fun x3 ex3 => ?_)
    refine lv_if_eq (tgt := 21) hx hb dX5_passMinuteOf_16 (by decide) (fun c4 => ?_) (fun c4 => ?_)
    · refine lv_aload_n hx hb dX5_passMinuteOf_21 rfl (lv_at hl 1 rfl) ?_
      refine lv_dup hx hb dX5_passMinuteOf_22 rfl ?_
      refine rg_Robot_minutes F hK hP ox kw_616 dX5_passMinuteOf_23 ?_
      refine lv_topi (fun x5 ex5 => ?_)
      refine lv_iconst (v := 1) hx hb dX5_passMinuteOf_26 (by decide) ?_
      refine lv_isub hx hb dX5_passMinuteOf_27 ?_
      refine lv_topi (fun x6 ex6 => ?_)
      refine rp_Robot_minutes F hK hP hD hS ox kw_616 dX5_passMinuteOf_28 (fun H locs hP hD hS => ?_)
      refine lv_aload_n hx hb dX5_passMinuteOf_31 rfl (lv_at hl 1 rfl) ?_
      refine rg_Robot_minutes F hK hP ox kw_616 dX5_passMinuteOf_32 ?_
      refine lv_topi (fun x7 ex7 => ?_)
      refine lv_if_le (tgt := 40) hx hb dX5_passMinuteOf_35 (by decide) (fun c8 => ?_) (fun c8 => ?_)
      · refine lv_aload_n hx hb dX5_passMinuteOf_40 rfl (lv_at hl 1 rfl) ?_
        refine rg_Robot_load F hK hP ox kw_617 dX5_passMinuteOf_41 ?_
        refine lv_topi (fun x9 ex9 => ?_)
        refine lv_istore_n (lv' := [(2, .int x9), (1, .ref b1), (0, .ref x)]) hx hb dX5_passMinuteOf_44 rfl hl (by decide) rfl (fun ls hl => ?_)
        refine lv_aload_n hx hb dX5_passMinuteOf_45 rfl (lv_at hl 2 rfl) ?_
        refine lv_null hx hb dX5_passMinuteOf_46 ?_
        refine rpn_Robot_article F hK hP hD hS ox kw_614 dX5_passMinuteOf_47 (fun H locs hP hD hS => ?_)
        refine lv_aload_n hx hb dX5_passMinuteOf_50 rfl (lv_at hl 2 rfl) ?_
        refine lv_iconst (v := 0) hx hb dX5_passMinuteOf_51 (by decide) ?_
        refine rp_Robot_load F hK hP hD hS ox kw_617 dX5_passMinuteOf_52 (fun H locs hP hD hS => ?_)
        refine lv_aload_n hx hb dX5_passMinuteOf_55 rfl (lv_at hl 1 rfl) ?_
        refine lv_iload_n hx hb dX5_passMinuteOf_56 rfl (lv_at hl 0 rfl) ?_
        refine kcallI (kV (n := 1) (As := [.int x9]) (rest := []) (b := b1) (C := RX1) F hE hK hP hD hS hA (c_X1_putAway l hl0 g e0 z (setF (setG (setF S 32 x x6) 30 x none) 31 x 0) _ (hI.keep (kp_setF (kp_idle (kp_setF hI.kp (by decide) (by decide))) (by decide) (by decide)).1) b1 ob1 x9) (rr_Article hK hP ob1) kw_377 kw_378 kw_379 kw_101 kw_380 (by decide +kernel) ⟨Nat.le_of_ble_eq_true rfl, Nat.le_of_ble_eq_true rfl⟩ rfl hl.1 rfl (Nat.le_of_ble_eq_true rfl) dX5_passMinuteOf_57 ⟨Nat.le_of_ble_eq_true rfl, Nat.le_of_ble_eq_true rfl⟩) rfl hD hS hA (fun _ _ _ _ _ h => False.elim h) (fun r10 T10 H locs hp hP hD hS => ?_)
        have N11 : Kp z (setF (setG (setF S 32 x x6) 30 x none) 31 x 0) T10 := hp
        have K11 : Kp z S T10 := Kp.trans (kp_setF (kp_idle (kp_setF hI.kp (by decide) (by decide))) (by decide) (by decide)) N11
        have I11 : Inv z e0 T10 := hI.keep K11.1
        have o12 : Ob T10 3 x := N11.1.ob ox
        have o13 : Ob T10 1 b1 := N11.1.ob ob1
        have o14 : Ob T10 0 (z (2 + j2)) := N11.1.ob (hI.oa hj2)
        have g15 : pG T10 10 b1 = some (z (2 + j2)) := (congrFun (N11.1.2.2.1 10 (by decide)) b1).trans hb2
        exact kEndI F hr rfl hlk hP hD hS (Nat.le_of_ble_eq_true rfl) (Nat.le_of_ble_eq_true rfl) dX5_passMinuteOf_60 ⟨_, rfl, ⟨K11, fun h => nomatch (ha1.symm.trans h)⟩⟩
      · refine lv_iconst (v := 0) hx hb dX5_passMinuteOf_38 (by decide) ?_
        exact kEndI F hr rfl hlk hP hD hS (Nat.le_of_ble_eq_true rfl) (Nat.le_of_ble_eq_true rfl) dX5_passMinuteOf_39 ⟨_, rfl, ⟨(kp_setF hI.kp (by decide) (by decide)), fun h => nomatch (ha1.symm.trans h)⟩⟩
    · refine lv_iconst (v := 0) hx hb dX5_passMinuteOf_19 (by decide) ?_
      exact kEndI F hr rfl hlk hP hD hS (Nat.le_of_ble_eq_true rfl) (Nat.le_of_ble_eq_true rfl) dX5_passMinuteOf_20 ⟨_, rfl, ⟨hI.kp, fun h => nomatch (ha1.symm.trans h)⟩⟩
theorem dX5_reopenInAisle_0 : decode cX5_reopenInAisle 0 = .ok (.iconst 0, 1) := by decide +kernel
theorem dX5_reopenInAisle_1 : decode cX5_reopenInAisle 1 = .ok (.istore_n 2, 1) := by decide +kernel
theorem dX5_reopenInAisle_2 : decode cX5_reopenInAisle 2 = .ok (.iload_n 2, 1) := by decide +kernel
theorem dX5_reopenInAisle_3 : decode cX5_reopenInAisle 3 = .ok (.aload_n 0, 1) := by decide +kernel
theorem dX5_reopenInAisle_4 : decode cX5_reopenInAisle 4 = .ok (.getfield 36, 3) := by decide +kernel
theorem dX5_reopenInAisle_7 : decode cX5_reopenInAisle 7 = .ok (.invokevirtual 65, 3) := by decide +kernel
theorem dX5_reopenInAisle_10 : decode cX5_reopenInAisle 10 = .ok (.if_icmp .ge 48, 3) := by decide +kernel
theorem dX5_reopenInAisle_13 : decode cX5_reopenInAisle 13 = .ok (.aload_n 0, 1) := by decide +kernel
theorem dX5_reopenInAisle_14 : decode cX5_reopenInAisle 14 = .ok (.getfield 36, 3) := by decide +kernel
theorem dX5_reopenInAisle_17 : decode cX5_reopenInAisle 17 = .ok (.iload_n 2, 1) := by decide +kernel
theorem dX5_reopenInAisle_18 : decode cX5_reopenInAisle 18 = .ok (.invokevirtual 100, 3) := by decide +kernel
theorem dX5_reopenInAisle_21 : decode cX5_reopenInAisle 21 = .ok (.checkcast 104, 3) := by decide +kernel
theorem dX5_reopenInAisle_24 : decode cX5_reopenInAisle 24 = .ok (.astore_n 3, 1) := by decide +kernel
theorem dX5_reopenInAisle_25 : decode cX5_reopenInAisle 25 = .ok (.aload_n 3, 1) := by decide +kernel
theorem dX5_reopenInAisle_26 : decode cX5_reopenInAisle 26 = .ok (.getfield 106, 3) := by decide +kernel
theorem dX5_reopenInAisle_29 : decode cX5_reopenInAisle 29 = .ok (.getfield 185, 3) := by decide +kernel
theorem dX5_reopenInAisle_32 : decode cX5_reopenInAisle 32 = .ok (.aload_n 1, 1) := by decide +kernel
theorem dX5_reopenInAisle_33 : decode cX5_reopenInAisle 33 = .ok (.if_acmp .ne 19, 3) := by decide +kernel
theorem dX5_reopenInAisle_36 : decode cX5_reopenInAisle 36 = .ok (.aload_n 3, 1) := by decide +kernel
theorem dX5_reopenInAisle_37 : decode cX5_reopenInAisle 37 = .ok (.getfield 173, 3) := by decide +kernel
theorem dX5_reopenInAisle_40 : decode cX5_reopenInAisle 40 = .ok (.bipush 112, 2) := by decide +kernel
theorem dX5_reopenInAisle_42 : decode cX5_reopenInAisle 42 = .ok (.if_icmp .ne 10, 3) := by decide +kernel
theorem dX5_reopenInAisle_45 : decode cX5_reopenInAisle 45 = .ok (.aload_n 0, 1) := by decide +kernel
theorem dX5_reopenInAisle_46 : decode cX5_reopenInAisle 46 = .ok (.aload_n 3, 1) := by decide +kernel
theorem dX5_reopenInAisle_47 : decode cX5_reopenInAisle 47 = .ok (.bipush 117, 2) := by decide +kernel
theorem dX5_reopenInAisle_49 : decode cX5_reopenInAisle 49 = .ok (.invokevirtual 179, 3) := by decide +kernel
theorem dX5_reopenInAisle_52 : decode cX5_reopenInAisle 52 = .ok (.iinc 2 1, 3) := by decide +kernel
theorem dX5_reopenInAisle_55 : decode cX5_reopenInAisle 55 = .ok (.goto (-53), 3) := by decide +kernel
theorem dX5_reopenInAisle_58 : decode cX5_reopenInAisle 58 = .ok (.return_, 1) := by decide +kernel
set_option maxHeartbeats 4000000 in
set_option maxRecDepth 100000 in
theorem c_X5_reopenInAisle (l : Launch) (hl0 : l.stackTraces = false) (g : kG) (e0 : Nat) (z : Nat → Nat) (S : wPS) (sz : Nat) (hI : Inv z e0 S) (a : Nat) (oa : Ob S 0 a) : kM l g e0 yX5_reopenInAisle cX5_reopenInAisle 4 none 3 64 0 0 [.ref (z 0), .ref a] S sz (pU (fun T => Kp z S T)) (fun E => False) := by
  refine kM.of (by decide) (Nat.le_of_ble_eq_true rfl) ?_
  intro p e s m below meth c ls B hin
  obtain ⟨F, hr, hlk, hte, hP, hK, hD, hE, hS, hA, hl, hsz⟩ := B
  subst hsz
  have hx := F.1
  have hb := F.2.1
  have hl : lv_has ls 4 [(0, .ref (z 0)), (1, .ref a)] := hl
  obtain ⟨m1, hm1, hL1⟩ := hI.lines
  refine lv_iconst (v := 0) hx hb dX5_reopenInAisle_0 (by decide) ?_
  refine lv_istore_n (lv' := [(2, .int 0), (0, .ref (z 0)), (1, .ref a)]) hx hb dX5_reopenInAisle_1 rfl hl (by decide) rfl (fun ls hl => ?_)
  have loop : ∀ (fu : Nat) (T0 : wPS) (i : Nat) (xi : Int32) (H : Heap) (locs : List Loc) (ls : Array Slot), va_P (kD g) vwCl (kW g T0) H → va_D (kA (pL S) s.heap.size) (kW g T0) → va_S (kA (pL S) s.heap.size) s.heap H locs → lv_has ls 4 [(2, .int xi), (0, .ref (z 0)), (1, .ref a)] → m1 - i < fu → (Kp z S T0) → (xi = nI i) → (i ≤ m1) → W p l e ({ frames := 3, cells := 0, slots := 0, locals := 64 }) s m ([.ref (z 0), .ref a] : List Value).toArray below meth c H locs 0 0 (vx_MQ below (kQ g S s.heap.size (pU (fun T => Kp z S T))) (kX g S s.heap.size (fun E => False)) ([.ref (z 0), .ref a] : List Value).toArray s 0 0 (kA (pL S) s.heap.size)) (F0 m 2 ls []) := by
    intro fu
    induction fu with
    | zero => intro T0 i xi H locs ls hP hD hS hl hn hKp hi hin; exact absurd hn (Nat.not_lt_zero _)
    | succ fu ih =>
      intro T0 i xi H locs ls hP hD hS hl hn hKp hi hin
      have hLT : LI T0 e0 (z 11) 2 m1 := LI.keep hKp.1 hL1
      refine lv_iload_n hx hb dX5_reopenInAisle_2 rfl (lv_at hl 0 rfl) ?_
      refine lv_aload_n hx hb dX5_reopenInAisle_3 rfl (lv_at hl 1 rfl) ?_
      refine rs_Pickwave_lines (b := z 11) F hK hP ((hI.keep hKp.1).1.1 0 (by decide)) ((hI.keep hKp.1).2.1.2.2.2.2.1) kw_28 dX5_reopenInAisle_4 ?_
      refine kcallI (kV (n := 0) (As := []) (rest := [.int xi]) (b := (z 11)) (C := RJx4a65c) F hE hK hP hD hS hA (c_Jx4a65c_size_8abf5 l hl0 g e0 T0 _ (z 11) ((hI.keep hKp.1).1.1 11 (by decide))) (rr_ArrayList hK hP ((hI.keep hKp.1).1.1 11 (by decide))) kw_109 kw_110 kw_111 kw_26 kw_112 (by decide +kernel) ⟨Nat.le_of_ble_eq_true rfl, Nat.le_of_ble_eq_true rfl⟩ rfl hl.1 rfl (Nat.le_of_ble_eq_true rfl) dX5_reopenInAisle_7 ⟨Nat.le_of_ble_eq_true rfl, Nat.le_of_ble_eq_true rfl⟩) rfl hD hS hA (fun _ _ _ _ _ h => False.elim h) (fun r1 T1 H locs hp hP hD hS => ?_)
      obtain ⟨hT, hp2⟩ := hp
      have hT := hT.symm
      subst hT
      refine lv_icmp_ge (tgt := 58) hx hb dX5_reopenInAisle_10 (by decide) (fun c3 => ?_) (fun c3 => ?_)
      · exact kEndV F hr hlk hP hD hS (Nat.le_of_ble_eq_true rfl) (Nat.le_of_ble_eq_true rfl) dX5_reopenInAisle_58 ⟨rfl, hKp⟩
      · obtain ⟨him, hx0, hx1⟩ := klp hLT ⟨hm1, hin⟩ hi hp2 c3
        refine lv_aload_n hx hb dX5_reopenInAisle_13 rfl (lv_at hl 1 rfl) ?_
        refine rs_Pickwave_lines (b := z 11) F hK hP ((hI.keep hKp.1).1.1 0 (by decide)) ((hI.keep hKp.1).2.1.2.2.2.2.1) kw_28 dX5_reopenInAisle_14 ?_
        refine lv_iload_n hx hb dX5_reopenInAisle_17 rfl (lv_at hl 0 rfl) ?_
        refine kcallR (kV (n := 1) (As := [.int xi]) (rest := []) (b := (z 11)) (C := RJx4a65c) F hE hK hP hD hS hA (c_Jx4a65c_get_915e3 l hl0 g e0 T0 _ (z 11) 2 _ xi ((hI.keep hKp.1).1.1 11 (by decide)) hLT hx0 hx1 (by omega)) (rr_ArrayList hK hP ((hI.keep hKp.1).1.1 11 (by decide))) kw_207 kw_208 kw_209 kw_26 kw_210 (by decide +kernel) ⟨Nat.le_of_ble_eq_true rfl, Nat.le_of_ble_eq_true rfl⟩ rfl hl.1 rfl (Nat.le_of_ble_eq_true rfl) dX5_reopenInAisle_18 ⟨Nat.le_of_ble_eq_true rfl, Nat.le_of_ble_eq_true rfl⟩) rfl hD hS hA (fun _ _ _ _ _ h => False.elim h) (fun b4 T4 H locs hp hP hD hS => ?_)
        obtain ⟨hT, hp5⟩ := hp
        have hT := hT.symm
        subst hT
        refine va_castS hx hb F.2.2.2.1 (F.2.2.2.2 _ kw_287) (hK.1 3 _ rfl).2 (rr_Line hK hP hp5.1) dX5_reopenInAisle_21 ?_
        refine lv_astore_n (lv' := [(3, .ref b4), (2, .int xi), (0, .ref (z 0)), (1, .ref a)]) hx hb dX5_reopenInAisle_24 rfl hl (by decide) rfl (fun ls hl => ?_)
        refine lv_aload_n hx hb dX5_reopenInAisle_25 rfl (lv_at hl 0 rfl) ?_
        obtain ⟨b6, hb6, ob6⟩ := (hI.keep hKp.1).2.2.2.2.2.2.1 b4 hp5.1
        refine rs_Line_article (b := b6) F hK hP hp5.1 hb6 kw_288 dX5_reopenInAisle_26 ?_
        obtain ⟨j7, hj7, hb7⟩ := (hI.keep hKp.1).2.2.2.2.2.1 b6 ob6
        refine rs_Article_aisle (b := z (2 + j7)) F hK hP ob6 hb7 kw_325 dX5_reopenInAisle_29 ?_
        refine lv_aload_n hx hb dX5_reopenInAisle_32 rfl (lv_at hl 3 rfl) ?_
        refine lv_acmp_ne (rx := (some (z (2 + j7)))) (ry := (some a)) (tgt := 52) hx hb dX5_reopenInAisle_33 (by decide) (fun c8 => ?_) (fun c8 => ?_)
        · obtain ⟨x9, ex9⟩ : ∃ y : Int32, y = xi + 1 := ⟨_, rfl⟩
          refine lv_iinc (v := x9) (lv' := [(2, .int x9), (3, .ref b4), (0, .ref (z 0)), (1, .ref a)]) hx hb dX5_reopenInAisle_52 hl (k := 1) rfl (by rw [ex9]; rfl) (by decide) rfl (fun ls hl => ?_)
          refine lv_goto (tgt := 2) hx hb dX5_reopenInAisle_55 (by decide) ?_
          exact ih _ (i + 1) x9  H locs ls hP hD hS (lv_sub hl [0, 2, 3] rfl) (by omega) hKp (by rw [ex9, hi]; exact nI_1 i) him
        · refine lv_aload_n hx hb dX5_reopenInAisle_36 rfl (lv_at hl 0 rfl) ?_
          refine rg_Line_state F hK hP hp5.1 kw_326 dX5_reopenInAisle_37 ?_
          refine lv_topi (fun x10 ex10 => ?_)
          refine lv_bipush (v := 112) hx hb dX5_reopenInAisle_40 (by decide) ?_
          refine lv_icmp_ne (tgt := 52) hx hb dX5_reopenInAisle_42 (by decide) (fun c11 => ?_) (fun c11 => ?_)
          · obtain ⟨x12, ex12⟩ : ∃ y : Int32, y = xi + 1 := ⟨_, rfl⟩
            refine lv_iinc (v := x12) (lv' := [(2, .int x12), (3, .ref b4), (0, .ref (z 0)), (1, .ref a)]) hx hb dX5_reopenInAisle_52 hl (k := 1) rfl (by rw [ex12]; rfl) (by decide) rfl (fun ls hl => ?_)
            refine lv_goto (tgt := 2) hx hb dX5_reopenInAisle_55 (by decide) ?_
            exact ih _ (i + 1) x12  H locs ls hP hD hS (lv_sub hl [0, 2, 3] rfl) (by omega) hKp (by rw [ex12, hi]; exact nI_1 i) him
          · refine lv_aload_n hx hb dX5_reopenInAisle_45 rfl (lv_at hl 2 rfl) ?_
            refine lv_aload_n hx hb dX5_reopenInAisle_46 rfl (lv_at hl 0 rfl) ?_
            refine lv_bipush (v := 117) hx hb dX5_reopenInAisle_47 (by decide) ?_
            refine kcallU (kV (n := 2) (As := [.ref b4, .int 117]) (rest := []) (b := (z 0)) (C := RX5) F hE hK hP hD hS hA (c_X5_scan l hl0 g e0 z T0 _ (hI.keep hKp.1) b4 hp5.1 117 ⟨rfl, rfl⟩) (rr_Pickwave hK hP ((hI.keep hKp.1).1.1 0 (by decide))) kw_327 kw_328 kw_329 kw_2 kw_330 (by decide +kernel) ⟨Nat.le_of_ble_eq_true rfl, Nat.le_of_ble_eq_true rfl⟩ rfl hl.1 rfl (Nat.le_of_ble_eq_true rfl) dX5_reopenInAisle_49 ⟨Nat.le_of_ble_eq_true rfl, Nat.le_of_ble_eq_true rfl⟩) rfl hD hS hA (fun _ _ _ _ _ h => False.elim h) (fun T13 H locs hp hP hD hS => ?_)
            have N14 : Kp z T0 T13 := hp
            have K14 : Kp z S T13 := Kp.trans hKp N14
            have I14 : Inv z e0 T13 := hI.keep K14.1
            have o15 : Ob T13 0 a := N14.1.ob (hKp.1.ob oa)
            have o16 : Ob T13 2 b4 := N14.1.ob hp5.1
            have o17 : Ob T13 1 b6 := N14.1.ob ob6
            have o18 : Ob T13 0 (z (2 + j7)) := N14.1.ob ((hI.keep hKp.1).oa hj7)
            have g19 : pG T13 21 b4 = some b6 := (congrFun (N14.1.2.2.1 21 (by decide)) b4).trans hb6
            have g20 : pG T13 10 b6 = some (z (2 + j7)) := (congrFun (N14.1.2.2.1 10 (by decide)) b6).trans hb7
            obtain ⟨x21, ex21⟩ : ∃ y : Int32, y = xi + 1 := ⟨_, rfl⟩
            refine lv_iinc (v := x21) (lv' := [(2, .int x21), (3, .ref b4), (0, .ref (z 0)), (1, .ref a)]) hx hb dX5_reopenInAisle_52 hl (k := 1) rfl (by rw [ex21]; rfl) (by decide) rfl (fun ls hl => ?_)
            refine lv_goto (tgt := 2) hx hb dX5_reopenInAisle_55 (by decide) ?_
            exact ih _ (i + 1) x21  H locs ls hP hD hS (lv_sub hl [0, 2, 3] rfl) (by omega) K14 (by rw [ex21, hi]; exact nI_1 i) him
  exact loop 13 _ 0 0  _ _ _ hP hD hS (lv_sub hl [0, 1, 2] rfl) (by omega) hI.kp rfl (Nat.zero_le _)
theorem dX5_reopenOfArticle_0 : decode cX5_reopenOfArticle 0 = .ok (.iconst 0, 1) := by decide +kernel
theorem dX5_reopenOfArticle_1 : decode cX5_reopenOfArticle 1 = .ok (.istore_n 2, 1) := by decide +kernel
theorem dX5_reopenOfArticle_2 : decode cX5_reopenOfArticle 2 = .ok (.iload_n 2, 1) := by decide +kernel
theorem dX5_reopenOfArticle_3 : decode cX5_reopenOfArticle 3 = .ok (.aload_n 0, 1) := by decide +kernel
theorem dX5_reopenOfArticle_4 : decode cX5_reopenOfArticle 4 = .ok (.getfield 36, 3) := by decide +kernel
theorem dX5_reopenOfArticle_7 : decode cX5_reopenOfArticle 7 = .ok (.invokevirtual 65, 3) := by decide +kernel
theorem dX5_reopenOfArticle_10 : decode cX5_reopenOfArticle 10 = .ok (.if_icmp .ge 45, 3) := by decide +kernel
theorem dX5_reopenOfArticle_13 : decode cX5_reopenOfArticle 13 = .ok (.aload_n 0, 1) := by decide +kernel
theorem dX5_reopenOfArticle_14 : decode cX5_reopenOfArticle 14 = .ok (.getfield 36, 3) := by decide +kernel
theorem dX5_reopenOfArticle_17 : decode cX5_reopenOfArticle 17 = .ok (.iload_n 2, 1) := by decide +kernel
theorem dX5_reopenOfArticle_18 : decode cX5_reopenOfArticle 18 = .ok (.invokevirtual 100, 3) := by decide +kernel
theorem dX5_reopenOfArticle_21 : decode cX5_reopenOfArticle 21 = .ok (.checkcast 104, 3) := by decide +kernel
theorem dX5_reopenOfArticle_24 : decode cX5_reopenOfArticle 24 = .ok (.astore_n 3, 1) := by decide +kernel
theorem dX5_reopenOfArticle_25 : decode cX5_reopenOfArticle 25 = .ok (.aload_n 3, 1) := by decide +kernel
theorem dX5_reopenOfArticle_26 : decode cX5_reopenOfArticle 26 = .ok (.getfield 106, 3) := by decide +kernel
theorem dX5_reopenOfArticle_29 : decode cX5_reopenOfArticle 29 = .ok (.aload_n 1, 1) := by decide +kernel
theorem dX5_reopenOfArticle_30 : decode cX5_reopenOfArticle 30 = .ok (.if_acmp .ne 19, 3) := by decide +kernel
theorem dX5_reopenOfArticle_33 : decode cX5_reopenOfArticle 33 = .ok (.aload_n 3, 1) := by decide +kernel
theorem dX5_reopenOfArticle_34 : decode cX5_reopenOfArticle 34 = .ok (.getfield 173, 3) := by decide +kernel
theorem dX5_reopenOfArticle_37 : decode cX5_reopenOfArticle 37 = .ok (.bipush 112, 2) := by decide +kernel
theorem dX5_reopenOfArticle_39 : decode cX5_reopenOfArticle 39 = .ok (.if_icmp .ne 10, 3) := by decide +kernel
theorem dX5_reopenOfArticle_42 : decode cX5_reopenOfArticle 42 = .ok (.aload_n 0, 1) := by decide +kernel
theorem dX5_reopenOfArticle_43 : decode cX5_reopenOfArticle 43 = .ok (.aload_n 3, 1) := by decide +kernel
theorem dX5_reopenOfArticle_44 : decode cX5_reopenOfArticle 44 = .ok (.bipush 117, 2) := by decide +kernel
theorem dX5_reopenOfArticle_46 : decode cX5_reopenOfArticle 46 = .ok (.invokevirtual 179, 3) := by decide +kernel
theorem dX5_reopenOfArticle_49 : decode cX5_reopenOfArticle 49 = .ok (.iinc 2 1, 3) := by decide +kernel
theorem dX5_reopenOfArticle_52 : decode cX5_reopenOfArticle 52 = .ok (.goto (-50), 3) := by decide +kernel
theorem dX5_reopenOfArticle_55 : decode cX5_reopenOfArticle 55 = .ok (.return_, 1) := by decide +kernel
set_option maxHeartbeats 4000000 in
set_option maxRecDepth 100000 in
theorem c_X5_reopenOfArticle (l : Launch) (hl0 : l.stackTraces = false) (g : kG) (e0 : Nat) (z : Nat → Nat) (S : wPS) (sz : Nat) (hI : Inv z e0 S) (a : Nat) (oa : Ob S 1 a) : kM l g e0 yX5_reopenOfArticle cX5_reopenOfArticle 4 none 3 64 0 0 [.ref (z 0), .ref a] S sz (pU (fun T => Kp z S T)) (fun E => False) := by
  refine kM.of (by decide) (Nat.le_of_ble_eq_true rfl) ?_
  intro p e s m below meth c ls B hin
  obtain ⟨F, hr, hlk, hte, hP, hK, hD, hE, hS, hA, hl, hsz⟩ := B
  subst hsz
  have hx := F.1
  have hb := F.2.1
  have hl : lv_has ls 4 [(0, .ref (z 0)), (1, .ref a)] := hl
  obtain ⟨m1, hm1, hL1⟩ := hI.lines
  refine lv_iconst (v := 0) hx hb dX5_reopenOfArticle_0 (by decide) ?_
  refine lv_istore_n (lv' := [(2, .int 0), (0, .ref (z 0)), (1, .ref a)]) hx hb dX5_reopenOfArticle_1 rfl hl (by decide) rfl (fun ls hl => ?_)
  have loop : ∀ (fu : Nat) (T0 : wPS) (i : Nat) (xi : Int32) (H : Heap) (locs : List Loc) (ls : Array Slot), va_P (kD g) vwCl (kW g T0) H → va_D (kA (pL S) s.heap.size) (kW g T0) → va_S (kA (pL S) s.heap.size) s.heap H locs → lv_has ls 4 [(2, .int xi), (0, .ref (z 0)), (1, .ref a)] → m1 - i < fu → (Kp z S T0) → (xi = nI i) → (i ≤ m1) → W p l e ({ frames := 3, cells := 0, slots := 0, locals := 64 }) s m ([.ref (z 0), .ref a] : List Value).toArray below meth c H locs 0 0 (vx_MQ below (kQ g S s.heap.size (pU (fun T => Kp z S T))) (kX g S s.heap.size (fun E => False)) ([.ref (z 0), .ref a] : List Value).toArray s 0 0 (kA (pL S) s.heap.size)) (F0 m 2 ls []) := by
    intro fu
    induction fu with
    | zero => intro T0 i xi H locs ls hP hD hS hl hn hKp hi hin; exact absurd hn (Nat.not_lt_zero _)
    | succ fu ih =>
      intro T0 i xi H locs ls hP hD hS hl hn hKp hi hin
      have hLT : LI T0 e0 (z 11) 2 m1 := LI.keep hKp.1 hL1
      refine lv_iload_n hx hb dX5_reopenOfArticle_2 rfl (lv_at hl 0 rfl) ?_
      refine lv_aload_n hx hb dX5_reopenOfArticle_3 rfl (lv_at hl 1 rfl) ?_
      refine rs_Pickwave_lines (b := z 11) F hK hP ((hI.keep hKp.1).1.1 0 (by decide)) ((hI.keep hKp.1).2.1.2.2.2.2.1) kw_28 dX5_reopenOfArticle_4 ?_
      refine kcallI (kV (n := 0) (As := []) (rest := [.int xi]) (b := (z 11)) (C := RJx4a65c) F hE hK hP hD hS hA (c_Jx4a65c_size_8abf5 l hl0 g e0 T0 _ (z 11) ((hI.keep hKp.1).1.1 11 (by decide))) (rr_ArrayList hK hP ((hI.keep hKp.1).1.1 11 (by decide))) kw_109 kw_110 kw_111 kw_26 kw_112 (by decide +kernel) ⟨Nat.le_of_ble_eq_true rfl, Nat.le_of_ble_eq_true rfl⟩ rfl hl.1 rfl (Nat.le_of_ble_eq_true rfl) dX5_reopenOfArticle_7 ⟨Nat.le_of_ble_eq_true rfl, Nat.le_of_ble_eq_true rfl⟩) rfl hD hS hA (fun _ _ _ _ _ h => False.elim h) (fun r1 T1 H locs hp hP hD hS => ?_)
      obtain ⟨hT, hp2⟩ := hp
      have hT := hT.symm
      subst hT
      refine lv_icmp_ge (tgt := 55) hx hb dX5_reopenOfArticle_10 (by decide) (fun c3 => ?_) (fun c3 => ?_)
      · exact kEndV F hr hlk hP hD hS (Nat.le_of_ble_eq_true rfl) (Nat.le_of_ble_eq_true rfl) dX5_reopenOfArticle_55 ⟨rfl, hKp⟩
      · obtain ⟨him, hx0, hx1⟩ := klp hLT ⟨hm1, hin⟩ hi hp2 c3
        refine lv_aload_n hx hb dX5_reopenOfArticle_13 rfl (lv_at hl 1 rfl) ?_
        refine rs_Pickwave_lines (b := z 11) F hK hP ((hI.keep hKp.1).1.1 0 (by decide)) ((hI.keep hKp.1).2.1.2.2.2.2.1) kw_28 dX5_reopenOfArticle_14 ?_
        refine lv_iload_n hx hb dX5_reopenOfArticle_17 rfl (lv_at hl 0 rfl) ?_
        refine kcallR (kV (n := 1) (As := [.int xi]) (rest := []) (b := (z 11)) (C := RJx4a65c) F hE hK hP hD hS hA (c_Jx4a65c_get_915e3 l hl0 g e0 T0 _ (z 11) 2 _ xi ((hI.keep hKp.1).1.1 11 (by decide)) hLT hx0 hx1 (by omega)) (rr_ArrayList hK hP ((hI.keep hKp.1).1.1 11 (by decide))) kw_207 kw_208 kw_209 kw_26 kw_210 (by decide +kernel) ⟨Nat.le_of_ble_eq_true rfl, Nat.le_of_ble_eq_true rfl⟩ rfl hl.1 rfl (Nat.le_of_ble_eq_true rfl) dX5_reopenOfArticle_18 ⟨Nat.le_of_ble_eq_true rfl, Nat.le_of_ble_eq_true rfl⟩) rfl hD hS hA (fun _ _ _ _ _ h => False.elim h) (fun b4 T4 H locs hp hP hD hS => ?_)
        obtain ⟨hT, hp5⟩ := hp
        have hT := hT.symm
        subst hT
        refine va_castS hx hb F.2.2.2.1 (F.2.2.2.2 _ kw_287) (hK.1 3 _ rfl).2 (rr_Line hK hP hp5.1) dX5_reopenOfArticle_21 ?_
        refine lv_astore_n (lv' := [(3, .ref b4), (2, .int xi), (0, .ref (z 0)), (1, .ref a)]) hx hb dX5_reopenOfArticle_24 rfl hl (by decide) rfl (fun ls hl => ?_)
        refine lv_aload_n hx hb dX5_reopenOfArticle_25 rfl (lv_at hl 0 rfl) ?_
        obtain ⟨b6, hb6, ob6⟩ := (hI.keep hKp.1).2.2.2.2.2.2.1 b4 hp5.1
        refine rs_Line_article (b := b6) F hK hP hp5.1 hb6 kw_288 dX5_reopenOfArticle_26 ?_
        refine lv_aload_n hx hb dX5_reopenOfArticle_29 rfl (lv_at hl 3 rfl) ?_
        refine lv_acmp_ne (rx := (some b6)) (ry := (some a)) (tgt := 49) hx hb dX5_reopenOfArticle_30 (by decide) (fun c7 => ?_) (fun c7 => ?_)
        · obtain ⟨x8, ex8⟩ : ∃ y : Int32, y = xi + 1 := ⟨_, rfl⟩
          refine lv_iinc (v := x8) (lv' := [(2, .int x8), (3, .ref b4), (0, .ref (z 0)), (1, .ref a)]) hx hb dX5_reopenOfArticle_49 hl (k := 1) rfl (by rw [ex8]; rfl) (by decide) rfl (fun ls hl => ?_)
          refine lv_goto (tgt := 2) hx hb dX5_reopenOfArticle_52 (by decide) ?_
          exact ih _ (i + 1) x8  H locs ls hP hD hS (lv_sub hl [0, 2, 3] rfl) (by omega) hKp (by rw [ex8, hi]; exact nI_1 i) him
        · refine lv_aload_n hx hb dX5_reopenOfArticle_33 rfl (lv_at hl 0 rfl) ?_
          refine rg_Line_state F hK hP hp5.1 kw_326 dX5_reopenOfArticle_34 ?_
          refine lv_topi (fun x9 ex9 => ?_)
          refine lv_bipush (v := 112) hx hb dX5_reopenOfArticle_37 (by decide) ?_
          refine lv_icmp_ne (tgt := 49) hx hb dX5_reopenOfArticle_39 (by decide) (fun c10 => ?_) (fun c10 => ?_)
          · obtain ⟨x11, ex11⟩ : ∃ y : Int32, y = xi + 1 := ⟨_, rfl⟩
            refine lv_iinc (v := x11) (lv' := [(2, .int x11), (3, .ref b4), (0, .ref (z 0)), (1, .ref a)]) hx hb dX5_reopenOfArticle_49 hl (k := 1) rfl (by rw [ex11]; rfl) (by decide) rfl (fun ls hl => ?_)
            refine lv_goto (tgt := 2) hx hb dX5_reopenOfArticle_52 (by decide) ?_
            exact ih _ (i + 1) x11  H locs ls hP hD hS (lv_sub hl [0, 2, 3] rfl) (by omega) hKp (by rw [ex11, hi]; exact nI_1 i) him
          · refine lv_aload_n hx hb dX5_reopenOfArticle_42 rfl (lv_at hl 2 rfl) ?_
            refine lv_aload_n hx hb dX5_reopenOfArticle_43 rfl (lv_at hl 0 rfl) ?_
            refine lv_bipush (v := 117) hx hb dX5_reopenOfArticle_44 (by decide) ?_
            refine kcallU (kV (n := 2) (As := [.ref b4, .int 117]) (rest := []) (b := (z 0)) (C := RX5) F hE hK hP hD hS hA (c_X5_scan l hl0 g e0 z T0 _ (hI.keep hKp.1) b4 hp5.1 117 ⟨rfl, rfl⟩) (rr_Pickwave hK hP ((hI.keep hKp.1).1.1 0 (by decide))) kw_327 kw_328 kw_329 kw_2 kw_330 (by decide +kernel) ⟨Nat.le_of_ble_eq_true rfl, Nat.le_of_ble_eq_true rfl⟩ rfl hl.1 rfl (Nat.le_of_ble_eq_true rfl) dX5_reopenOfArticle_46 ⟨Nat.le_of_ble_eq_true rfl, Nat.le_of_ble_eq_true rfl⟩) rfl hD hS hA (fun _ _ _ _ _ h => False.elim h) (fun T12 H locs hp hP hD hS => ?_)
            have N13 : Kp z T0 T12 := hp
            have K13 : Kp z S T12 := Kp.trans hKp N13
            have I13 : Inv z e0 T12 := hI.keep K13.1
            have o14 : Ob T12 1 a := N13.1.ob (hKp.1.ob oa)
            have o15 : Ob T12 2 b4 := N13.1.ob hp5.1
            have o16 : Ob T12 1 b6 := N13.1.ob ob6
            have g17 : pG T12 21 b4 = some b6 := (congrFun (N13.1.2.2.1 21 (by decide)) b4).trans hb6
            obtain ⟨x18, ex18⟩ : ∃ y : Int32, y = xi + 1 := ⟨_, rfl⟩
            refine lv_iinc (v := x18) (lv' := [(2, .int x18), (3, .ref b4), (0, .ref (z 0)), (1, .ref a)]) hx hb dX5_reopenOfArticle_49 hl (k := 1) rfl (by rw [ex18]; rfl) (by decide) rfl (fun ls hl => ?_)
            refine lv_goto (tgt := 2) hx hb dX5_reopenOfArticle_52 (by decide) ?_
            exact ih _ (i + 1) x18  H locs ls hP hD hS (lv_sub hl [0, 2, 3] rfl) (by omega) K13 (by rw [ex18, hi]; exact nI_1 i) him
  exact loop 13 _ 0 0  _ _ _ hP hD hS (lv_sub hl [0, 1, 2] rfl) (by omega) hI.kp rfl (Nat.zero_le _)
theorem dX5_promiseAll_0 : decode cX5_promiseAll 0 = .ok (.iconst 0, 1) := by decide +kernel
theorem dX5_promiseAll_1 : decode cX5_promiseAll 1 = .ok (.istore 4, 2) := by decide +kernel
theorem dX5_promiseAll_3 : decode cX5_promiseAll 3 = .ok (.iconst 0, 1) := by decide +kernel
theorem dX5_promiseAll_4 : decode cX5_promiseAll 4 = .ok (.istore 5, 2) := by decide +kernel
theorem dX5_promiseAll_6 : decode cX5_promiseAll 6 = .ok (.iload 5, 2) := by decide +kernel
theorem dX5_promiseAll_8 : decode cX5_promiseAll 8 = .ok (.aload_n 0, 1) := by decide +kernel
theorem dX5_promiseAll_9 : decode cX5_promiseAll 9 = .ok (.getfield 36, 3) := by decide +kernel
theorem dX5_promiseAll_12 : decode cX5_promiseAll 12 = .ok (.invokevirtual 65, 3) := by decide +kernel
theorem dX5_promiseAll_15 : decode cX5_promiseAll 15 = .ok (.if_icmp .ge 88, 3) := by decide +kernel
theorem dX5_promiseAll_18 : decode cX5_promiseAll 18 = .ok (.aload_n 0, 1) := by decide +kernel
theorem dX5_promiseAll_19 : decode cX5_promiseAll 19 = .ok (.getfield 36, 3) := by decide +kernel
theorem dX5_promiseAll_22 : decode cX5_promiseAll 22 = .ok (.iload 5, 2) := by decide +kernel
theorem dX5_promiseAll_24 : decode cX5_promiseAll 24 = .ok (.invokevirtual 100, 3) := by decide +kernel
theorem dX5_promiseAll_27 : decode cX5_promiseAll 27 = .ok (.checkcast 104, 3) := by decide +kernel
theorem dX5_promiseAll_30 : decode cX5_promiseAll 30 = .ok (.astore 6, 2) := by decide +kernel
theorem dX5_promiseAll_32 : decode cX5_promiseAll 32 = .ok (.aload 6, 2) := by decide +kernel
theorem dX5_promiseAll_34 : decode cX5_promiseAll 34 = .ok (.getfield 203, 3) := by decide +kernel
theorem dX5_promiseAll_37 : decode cX5_promiseAll 37 = .ok (.iload_n 1, 1) := by decide +kernel
theorem dX5_promiseAll_38 : decode cX5_promiseAll 38 = .ok (.if_icmp .ne 26, 3) := by decide +kernel
theorem dX5_promiseAll_41 : decode cX5_promiseAll 41 = .ok (.aload 6, 2) := by decide +kernel
theorem dX5_promiseAll_43 : decode cX5_promiseAll 43 = .ok (.getfield 114, 3) := by decide +kernel
theorem dX5_promiseAll_46 : decode cX5_promiseAll 46 = .ok (.iload_n 2, 1) := by decide +kernel
theorem dX5_promiseAll_47 : decode cX5_promiseAll 47 = .ok (.if_icmp .ne 17, 3) := by decide +kernel
theorem dX5_promiseAll_50 : decode cX5_promiseAll 50 = .ok (.aload 6, 2) := by decide +kernel
theorem dX5_promiseAll_52 : decode cX5_promiseAll 52 = .ok (.getfield 173, 3) := by decide +kernel
theorem dX5_promiseAll_55 : decode cX5_promiseAll 55 = .ok (.bipush 111, 2) := by decide +kernel
theorem dX5_promiseAll_57 : decode cX5_promiseAll 57 = .ok (.if_icmp .ne 7, 3) := by decide +kernel
theorem dX5_promiseAll_60 : decode cX5_promiseAll 60 = .ok (.iconst 1, 1) := by decide +kernel
theorem dX5_promiseAll_61 : decode cX5_promiseAll 61 = .ok (.goto 4, 3) := by decide +kernel
theorem dX5_promiseAll_64 : decode cX5_promiseAll 64 = .ok (.iconst 0, 1) := by decide +kernel
theorem dX5_promiseAll_65 : decode cX5_promiseAll 65 = .ok (.istore 7, 2) := by decide +kernel
theorem dX5_promiseAll_67 : decode cX5_promiseAll 67 = .ok (.iload 7, 2) := by decide +kernel
theorem dX5_promiseAll_69 : decode cX5_promiseAll 69 = .ok (.ifCond .eq 28, 3) := by decide +kernel
theorem dX5_promiseAll_72 : decode cX5_promiseAll 72 = .ok (.aload 6, 2) := by decide +kernel
theorem dX5_promiseAll_74 : decode cX5_promiseAll 74 = .ok (.invokestatic 315, 3) := by decide +kernel
theorem dX5_promiseAll_77 : decode cX5_promiseAll 77 = .ok (.ifCond .eq 20, 3) := by decide +kernel
theorem dX5_promiseAll_80 : decode cX5_promiseAll 80 = .ok (.aload_n 0, 1) := by decide +kernel
theorem dX5_promiseAll_81 : decode cX5_promiseAll 81 = .ok (.aload 6, 2) := by decide +kernel
theorem dX5_promiseAll_83 : decode cX5_promiseAll 83 = .ok (.bipush 112, 2) := by decide +kernel
theorem dX5_promiseAll_85 : decode cX5_promiseAll 85 = .ok (.invokevirtual 179, 3) := by decide +kernel
theorem dX5_promiseAll_88 : decode cX5_promiseAll 88 = .ok (.aload 6, 2) := by decide +kernel
theorem dX5_promiseAll_90 : decode cX5_promiseAll 90 = .ok (.iload_n 3, 1) := by decide +kernel
theorem dX5_promiseAll_91 : decode cX5_promiseAll 91 = .ok (.putfield 226, 3) := by decide +kernel
theorem dX5_promiseAll_94 : decode cX5_promiseAll 94 = .ok (.iinc 4 1, 3) := by decide +kernel
theorem dX5_promiseAll_97 : decode cX5_promiseAll 97 = .ok (.iinc 5 1, 3) := by decide +kernel
theorem dX5_promiseAll_100 : decode cX5_promiseAll 100 = .ok (.goto (-94), 3) := by decide +kernel
theorem dX5_promiseAll_103 : decode cX5_promiseAll 103 = .ok (.iload 4, 2) := by decide +kernel
theorem dX5_promiseAll_105 : decode cX5_promiseAll 105 = .ok (.ireturn, 1) := by decide +kernel
set_option maxHeartbeats 4000000 in
set_option maxRecDepth 100000 in
theorem c_X5_promiseAll (l : Launch) (hl0 : l.stackTraces = false) (g : kG) (e0 : Nat) (z : Nat → Nat) (S : wPS) (sz : Nat) (hI : Inv z e0 S) (ca am wn : Int32) : kM l g e0 yX5_promiseAll cX5_promiseAll 8 (some .int) 3 64 0 0 [.ref (z 0), .int ca, .int am, .int wn] S sz (pI (fun r T => Kp z S T ∧ (pF S 72 (z 11) = 0 → r = 0))) (fun E => False) := by
  refine kM.of (by decide) (Nat.le_of_ble_eq_true rfl) ?_
  intro p e s m below meth c ls B hin
  obtain ⟨F, hr, hlk, hte, hP, hK, hD, hE, hS, hA, hl, hsz⟩ := B
  subst hsz
  have hx := F.1
  have hb := F.2.1
  have hl : lv_has ls 8 [(0, .ref (z 0)), (1, .int ca), (2, .int am), (3, .int wn)] := hl
  obtain ⟨m1, hm1, hL1⟩ := hI.lines
  refine lv_iconst (v := 0) hx hb dX5_promiseAll_0 (by decide) ?_
  refine lv_istore (lv' := [(4, .int 0), (0, .ref (z 0)), (1, .int ca), (2, .int am), (3, .int wn)]) hx hb dX5_promiseAll_1 hl (by decide) rfl (fun ls hl => ?_)
  refine lv_iconst (v := 0) hx hb dX5_promiseAll_3 (by decide) ?_
  refine lv_istore (lv' := [(5, .int 0), (4, .int 0), (0, .ref (z 0)), (1, .int ca), (2, .int am), (3, .int wn)]) hx hb dX5_promiseAll_4 hl (by decide) rfl (fun ls hl => ?_)
  have loop : ∀ (fu : Nat) (T0 : wPS) (i : Nat) (xi cn : Int32) (H : Heap) (locs : List Loc) (ls : Array Slot), va_P (kD g) vwCl (kW g T0) H → va_D (kA (pL S) s.heap.size) (kW g T0) → va_S (kA (pL S) s.heap.size) s.heap H locs → lv_has ls 8 [(5, .int xi), (4, .int cn), (0, .ref (z 0)), (1, .int ca), (2, .int am), (3, .int wn)] → m1 - i < fu → (Kp z S T0) → (xi = nI i) → (i ≤ m1) → (i = 0 → cn = 0) → W p l e ({ frames := 3, cells := 0, slots := 0, locals := 64 }) s m ([.ref (z 0), .int ca, .int am, .int wn] : List Value).toArray below meth c H locs 0 0 (vx_MQ below (kQ g S s.heap.size (pI (fun r T => Kp z S T ∧ (pF S 72 (z 11) = 0 → r = 0)))) (kX g S s.heap.size (fun E => False)) ([.ref (z 0), .int ca, .int am, .int wn] : List Value).toArray s 0 0 (kA (pL S) s.heap.size)) (F0 m 6 ls []) := by
    intro fu
    induction fu with
    | zero => intro T0 i xi cn H locs ls hP hD hS hl hn hKp hi hin hc; exact absurd hn (Nat.not_lt_zero _)
    | succ fu ih =>
      intro T0 i xi cn H locs ls hP hD hS hl hn hKp hi hin hc
      have hLT : LI T0 e0 (z 11) 2 m1 := LI.keep hKp.1 hL1
      refine lv_iload hx hb dX5_promiseAll_6 (lv_at hl 0 rfl) ?_
      refine lv_aload_n hx hb dX5_promiseAll_8 rfl (lv_at hl 2 rfl) ?_
      refine rs_Pickwave_lines (b := z 11) F hK hP ((hI.keep hKp.1).1.1 0 (by decide)) ((hI.keep hKp.1).2.1.2.2.2.2.1) kw_28 dX5_promiseAll_9 ?_
      refine kcallI (kV (n := 0) (As := []) (rest := [.int xi]) (b := (z 11)) (C := RJx4a65c) F hE hK hP hD hS hA (c_Jx4a65c_size_8abf5 l hl0 g e0 T0 _ (z 11) ((hI.keep hKp.1).1.1 11 (by decide))) (rr_ArrayList hK hP ((hI.keep hKp.1).1.1 11 (by decide))) kw_109 kw_110 kw_111 kw_26 kw_112 (by decide +kernel) ⟨Nat.le_of_ble_eq_true rfl, Nat.le_of_ble_eq_true rfl⟩ rfl hl.1 rfl (Nat.le_of_ble_eq_true rfl) dX5_promiseAll_12 ⟨Nat.le_of_ble_eq_true rfl, Nat.le_of_ble_eq_true rfl⟩) rfl hD hS hA (fun _ _ _ _ _ h => False.elim h) (fun r1 T1 H locs hp hP hD hS => ?_)
      obtain ⟨hT, hp2⟩ := hp
      have hT := hT.symm
      subst hT
      refine lv_icmp_ge (tgt := 103) hx hb dX5_promiseAll_15 (by decide) (fun c3 => ?_) (fun c3 => ?_)
      · refine lv_iload hx hb dX5_promiseAll_103 (lv_at hl 1 rfl) ?_
        exact kEndI F hr rfl hlk hP hD hS (Nat.le_of_ble_eq_true rfl) (Nat.le_of_ble_eq_true rfl) dX5_promiseAll_105 ⟨_, rfl, ⟨hKp, (fun h => hc (by have h9 : nI m1 = nI 0 := hL1.1.symm.trans h; have := (nI_eq (by omega) (by decide)).mp h9; omega))⟩⟩
      · obtain ⟨him, hx0, hx1⟩ := klp hLT ⟨hm1, hin⟩ hi hp2 c3
        refine lv_aload_n hx hb dX5_promiseAll_18 rfl (lv_at hl 2 rfl) ?_
        refine rs_Pickwave_lines (b := z 11) F hK hP ((hI.keep hKp.1).1.1 0 (by decide)) ((hI.keep hKp.1).2.1.2.2.2.2.1) kw_28 dX5_promiseAll_19 ?_
        refine lv_iload hx hb dX5_promiseAll_22 (lv_at hl 0 rfl) ?_
        refine kcallR (kV (n := 1) (As := [.int xi]) (rest := []) (b := (z 11)) (C := RJx4a65c) F hE hK hP hD hS hA (c_Jx4a65c_get_915e3 l hl0 g e0 T0 _ (z 11) 2 _ xi ((hI.keep hKp.1).1.1 11 (by decide)) hLT hx0 hx1 (by omega)) (rr_ArrayList hK hP ((hI.keep hKp.1).1.1 11 (by decide))) kw_207 kw_208 kw_209 kw_26 kw_210 (by decide +kernel) ⟨Nat.le_of_ble_eq_true rfl, Nat.le_of_ble_eq_true rfl⟩ rfl hl.1 rfl (Nat.le_of_ble_eq_true rfl) dX5_promiseAll_24 ⟨Nat.le_of_ble_eq_true rfl, Nat.le_of_ble_eq_true rfl⟩) rfl hD hS hA (fun _ _ _ _ _ h => False.elim h) (fun b4 T4 H locs hp hP hD hS => ?_)
        obtain ⟨hT, hp5⟩ := hp
        have hT := hT.symm
        subst hT
        refine va_castS hx hb F.2.2.2.1 (F.2.2.2.2 _ kw_287) (hK.1 3 _ rfl).2 (rr_Line hK hP hp5.1) dX5_promiseAll_27 ?_
        refine lv_astore (lv' := [(6, .ref b4), (5, .int xi), (4, .int cn), (0, .ref (z 0)), (1, .int ca), (2, .int am), (3, .int wn)]) hx hb dX5_promiseAll_30 hl (by decide) rfl (fun ls hl => ?_)
        refine lv_aload hx hb dX5_promiseAll_32 (lv_at hl 0 rfl) ?_
        refine rg_Line_carrier F hK hP hp5.1 kw_511 dX5_promiseAll_34 ?_
        refine lv_topi (fun x6 ex6 => ?_)
        refine lv_iload_n hx hb dX5_promiseAll_37 rfl (lv_at hl 4 rfl) ?_
        refine lv_icmp_ne (tgt := 64) hx hb dX5_promiseAll_38 (by decide) (fun c7 => ?_) (fun c7 => ?_)
        · refine lv_iconst (v := 0) hx hb dX5_promiseAll_64 (by decide) ?_
          refine lv_istore (lv' := [(7, .int 0), (6, .ref b4), (5, .int xi), (4, .int cn), (0, .ref (z 0)), (1, .int ca), (2, .int am), (3, .int wn)]) hx hb dX5_promiseAll_65 hl (by decide) rfl (fun ls hl => ?_)
          refine lv_iload hx hb dX5_promiseAll_67 (lv_at hl 0 rfl) ?_
          refine lv_if_eq (tgt := 97) hx hb dX5_promiseAll_69 (by decide) (fun c8 => ?_) (fun c8 => ?_)
          · obtain ⟨x9, ex9⟩ : ∃ y : Int32, y = xi + 1 := ⟨_, rfl⟩
            refine lv_iinc (v := x9) (lv' := [(5, .int x9), (7, .int 0), (6, .ref b4), (4, .int cn), (0, .ref (z 0)), (1, .int ca), (2, .int am), (3, .int wn)]) hx hb dX5_promiseAll_97 hl (k := 2) rfl (by rw [ex9]; rfl) (by decide) rfl (fun ls hl => ?_)
            refine lv_goto (tgt := 6) hx hb dX5_promiseAll_100 (by decide) ?_
            exact ih _ (i + 1) x9 cn H locs ls hP hD hS (lv_sub hl [0, 3, 4, 5, 6, 7] rfl) (by omega) hKp (by rw [ex9, hi]; exact nI_1 i) him (fun h => absurd h (by omega))
          · exact absurd (by decide) c8
        · refine lv_aload hx hb dX5_promiseAll_41 (lv_at hl 0 rfl) ?_
          refine rg_Line_amount F hK hP hp5.1 kw_289 dX5_promiseAll_43 ?_
          refine lv_topi (fun x10 ex10 => ?_)
          refine lv_iload_n hx hb dX5_promiseAll_46 rfl (lv_at hl 5 rfl) ?_
          refine lv_icmp_ne (tgt := 64) hx hb dX5_promiseAll_47 (by decide) (fun c11 => ?_) (fun c11 => ?_)
          · refine lv_iconst (v := 0) hx hb dX5_promiseAll_64 (by decide) ?_
            refine lv_istore (lv' := [(7, .int 0), (6, .ref b4), (5, .int xi), (4, .int cn), (0, .ref (z 0)), (1, .int ca), (2, .int am), (3, .int wn)]) hx hb dX5_promiseAll_65 hl (by decide) rfl (fun ls hl => ?_)
            refine lv_iload hx hb dX5_promiseAll_67 (lv_at hl 0 rfl) ?_
            refine lv_if_eq (tgt := 97) hx hb dX5_promiseAll_69 (by decide) (fun c12 => ?_) (fun c12 => ?_)
            · obtain ⟨x13, ex13⟩ : ∃ y : Int32, y = xi + 1 := ⟨_, rfl⟩
              refine lv_iinc (v := x13) (lv' := [(5, .int x13), (7, .int 0), (6, .ref b4), (4, .int cn), (0, .ref (z 0)), (1, .int ca), (2, .int am), (3, .int wn)]) hx hb dX5_promiseAll_97 hl (k := 2) rfl (by rw [ex13]; rfl) (by decide) rfl (fun ls hl => ?_)
              refine lv_goto (tgt := 6) hx hb dX5_promiseAll_100 (by decide) ?_
              exact ih _ (i + 1) x13 cn H locs ls hP hD hS (lv_sub hl [0, 3, 4, 5, 6, 7] rfl) (by omega) hKp (by rw [ex13, hi]; exact nI_1 i) him (fun h => absurd h (by omega))
            · exact absurd (by decide) c12
          · refine lv_aload hx hb dX5_promiseAll_50 (lv_at hl 0 rfl) ?_
            refine rg_Line_state F hK hP hp5.1 kw_326 dX5_promiseAll_52 ?_
            refine lv_topi (fun x14 ex14 => ?_)
            refine lv_bipush (v := 111) hx hb dX5_promiseAll_55 (by decide) ?_
            refine lv_icmp_ne (tgt := 64) hx hb dX5_promiseAll_57 (by decide) (fun c15 => ?_) (fun c15 => ?_)
            · refine lv_iconst (v := 0) hx hb dX5_promiseAll_64 (by decide) ?_
              refine lv_istore (lv' := [(7, .int 0), (6, .ref b4), (5, .int xi), (4, .int cn), (0, .ref (z 0)), (1, .int ca), (2, .int am), (3, .int wn)]) hx hb dX5_promiseAll_65 hl (by decide) rfl (fun ls hl => ?_)
              refine lv_iload hx hb dX5_promiseAll_67 (lv_at hl 0 rfl) ?_
              refine lv_if_eq (tgt := 97) hx hb dX5_promiseAll_69 (by decide) (fun c16 => ?_) (fun c16 => ?_)
              · obtain ⟨x17, ex17⟩ : ∃ y : Int32, y = xi + 1 := ⟨_, rfl⟩
                refine lv_iinc (v := x17) (lv' := [(5, .int x17), (7, .int 0), (6, .ref b4), (4, .int cn), (0, .ref (z 0)), (1, .int ca), (2, .int am), (3, .int wn)]) hx hb dX5_promiseAll_97 hl (k := 2) rfl (by rw [ex17]; rfl) (by decide) rfl (fun ls hl => ?_)
                refine lv_goto (tgt := 6) hx hb dX5_promiseAll_100 (by decide) ?_
                exact ih _ (i + 1) x17 cn H locs ls hP hD hS (lv_sub hl [0, 3, 4, 5, 6, 7] rfl) (by omega) hKp (by rw [ex17, hi]; exact nI_1 i) him (fun h => absurd h (by omega))
              · exact absurd (by decide) c16
            · refine lv_iconst (v := 1) hx hb dX5_promiseAll_60 (by decide) ?_
              refine lv_goto (tgt := 65) hx hb dX5_promiseAll_61 (by decide) ?_
              refine lv_istore (lv' := [(7, .int 1), (6, .ref b4), (5, .int xi), (4, .int cn), (0, .ref (z 0)), (1, .int ca), (2, .int am), (3, .int wn)]) hx hb dX5_promiseAll_65 hl (by decide) rfl (fun ls hl => ?_)
              refine lv_iload hx hb dX5_promiseAll_67 (lv_at hl 0 rfl) ?_
              refine lv_if_eq (tgt := 97) hx hb dX5_promiseAll_69 (by decide) (fun c18 => ?_) (fun c18 => ?_)
              · exact absurd c18 (by decide)
              · refine lv_aload hx hb dX5_promiseAll_72 (lv_at hl 1 rfl) ?_
                refine kcallI (kSt (n := 1) (As := [.ref b4]) (rest := []) F hE hK hP hD hS hA (c_X5_canBePromised l hl0 g e0 z T0 _ (hI.keep hKp.1) b4 hp5.1) kw_565 kw_566 kw_2 kw_567 (by decide +kernel) ⟨Nat.le_of_ble_eq_true rfl, Nat.le_of_ble_eq_true rfl⟩ rfl hl.1 rfl (Nat.le_of_ble_eq_true rfl) dX5_promiseAll_74 ⟨Nat.le_of_ble_eq_true rfl, Nat.le_of_ble_eq_true rfl⟩) rfl hD hS hA (fun _ _ _ _ _ h => False.elim h) (fun r19 T19 H locs hp hP hD hS => ?_)
                obtain ⟨hT, hp20⟩ := hp
                have hT := hT.symm
                subst hT
                refine lv_if_eq (tgt := 97) hx hb dX5_promiseAll_77 (by decide) (fun c21 => ?_) (fun c21 => ?_)
                · obtain ⟨x22, ex22⟩ : ∃ y : Int32, y = xi + 1 := ⟨_, rfl⟩
                  refine lv_iinc (v := x22) (lv' := [(5, .int x22), (7, .int 1), (6, .ref b4), (4, .int cn), (0, .ref (z 0)), (1, .int ca), (2, .int am), (3, .int wn)]) hx hb dX5_promiseAll_97 hl (k := 2) rfl (by rw [ex22]; rfl) (by decide) rfl (fun ls hl => ?_)
                  refine lv_goto (tgt := 6) hx hb dX5_promiseAll_100 (by decide) ?_
                  exact ih _ (i + 1) x22 cn H locs ls hP hD hS (lv_sub hl [0, 3, 4, 5, 6, 7] rfl) (by omega) hKp (by rw [ex22, hi]; exact nI_1 i) him (fun h => absurd h (by omega))
                · refine lv_aload_n hx hb dX5_promiseAll_80 rfl (lv_at hl 4 rfl) ?_
                  refine lv_aload hx hb dX5_promiseAll_81 (lv_at hl 1 rfl) ?_
                  refine lv_bipush (v := 112) hx hb dX5_promiseAll_83 (by decide) ?_
                  refine kcallU (kV (n := 2) (As := [.ref b4, .int 112]) (rest := []) (b := (z 0)) (C := RX5) F hE hK hP hD hS hA (c_X5_scan l hl0 g e0 z T0 _ (hI.keep hKp.1) b4 hp5.1 112 ⟨rfl, rfl⟩) (rr_Pickwave hK hP ((hI.keep hKp.1).1.1 0 (by decide))) kw_327 kw_328 kw_329 kw_2 kw_330 (by decide +kernel) ⟨Nat.le_of_ble_eq_true rfl, Nat.le_of_ble_eq_true rfl⟩ rfl hl.1 rfl (Nat.le_of_ble_eq_true rfl) dX5_promiseAll_85 ⟨Nat.le_of_ble_eq_true rfl, Nat.le_of_ble_eq_true rfl⟩) rfl hD hS hA (fun _ _ _ _ _ h => False.elim h) (fun T23 H locs hp hP hD hS => ?_)
                  have N24 : Kp z T0 T23 := hp
                  have K24 : Kp z S T23 := Kp.trans hKp N24
                  have I24 : Inv z e0 T23 := hI.keep K24.1
                  have o25 : Ob T23 2 b4 := N24.1.ob hp5.1
                  refine lv_aload hx hb dX5_promiseAll_88 (lv_at hl 1 rfl) ?_
                  refine lv_iload_n hx hb dX5_promiseAll_90 rfl (lv_at hl 7 rfl) ?_
                  refine rp_Line_lastWave F hK hP hD hS o25 kw_564 dX5_promiseAll_91 (fun H locs hP hD hS => ?_)
                  obtain ⟨x26, ex26⟩ : ∃ y : Int32, y = cn + 1 := ⟨_, rfl⟩
                  refine lv_iinc (v := x26) (lv' := [(4, .int x26), (7, .int 1), (6, .ref b4), (5, .int xi), (0, .ref (z 0)), (1, .int ca), (2, .int am), (3, .int wn)]) hx hb dX5_promiseAll_94 hl (k := 3) rfl (by rw [ex26]; rfl) (by decide) rfl (fun ls hl => ?_)
                  obtain ⟨x27, ex27⟩ : ∃ y : Int32, y = xi + 1 := ⟨_, rfl⟩
                  refine lv_iinc (v := x27) (lv' := [(5, .int x27), (4, .int x26), (7, .int 1), (6, .ref b4), (0, .ref (z 0)), (1, .int ca), (2, .int am), (3, .int wn)]) hx hb dX5_promiseAll_97 hl (k := 3) rfl (by rw [ex27]; rfl) (by decide) rfl (fun ls hl => ?_)
                  refine lv_goto (tgt := 6) hx hb dX5_promiseAll_100 (by decide) ?_
                  exact ih _ (i + 1) x27 x26 H locs ls hP hD hS (lv_sub hl [0, 1, 4, 5, 6, 7] rfl) (by omega) (kp_setF K24 (by decide) (by decide)) (by rw [ex27, hi]; exact nI_1 i) him (fun h => absurd h (by omega))
  exact loop 13 _ 0 0 0 _ _ _ hP hD hS (lv_sub hl [0, 1, 2, 3, 4, 5] rfl) (by omega) hI.kp rfl (Nat.zero_le _) (fun _ => rfl)
theorem dX5_ship_0 : decode cX5_ship 0 = .ok (.aload_n 0, 1) := by decide +kernel
theorem dX5_ship_1 : decode cX5_ship 1 = .ok (.iload_n 1, 1) := by decide +kernel
theorem dX5_ship_2 : decode cX5_ship 2 = .ok (.invokevirtual 200, 3) := by decide +kernel
theorem dX5_ship_5 : decode cX5_ship 5 = .ok (.iconst 0, 1) := by decide +kernel
theorem dX5_ship_6 : decode cX5_ship 6 = .ok (.istore_n 2, 1) := by decide +kernel
theorem dX5_ship_7 : decode cX5_ship 7 = .ok (.iconst 0, 1) := by decide +kernel
theorem dX5_ship_8 : decode cX5_ship 8 = .ok (.istore_n 3, 1) := by decide +kernel
theorem dX5_ship_9 : decode cX5_ship 9 = .ok (.iload_n 3, 1) := by decide +kernel
theorem dX5_ship_10 : decode cX5_ship 10 = .ok (.aload_n 0, 1) := by decide +kernel
theorem dX5_ship_11 : decode cX5_ship 11 = .ok (.getfield 36, 3) := by decide +kernel
theorem dX5_ship_14 : decode cX5_ship 14 = .ok (.invokevirtual 65, 3) := by decide +kernel
theorem dX5_ship_17 : decode cX5_ship 17 = .ok (.if_icmp .ge 67, 3) := by decide +kernel
theorem dX5_ship_20 : decode cX5_ship 20 = .ok (.aload_n 0, 1) := by decide +kernel
theorem dX5_ship_21 : decode cX5_ship 21 = .ok (.getfield 36, 3) := by decide +kernel
theorem dX5_ship_24 : decode cX5_ship 24 = .ok (.iload_n 3, 1) := by decide +kernel
theorem dX5_ship_25 : decode cX5_ship 25 = .ok (.invokevirtual 100, 3) := by decide +kernel
theorem dX5_ship_28 : decode cX5_ship 28 = .ok (.checkcast 104, 3) := by decide +kernel
theorem dX5_ship_31 : decode cX5_ship 31 = .ok (.astore 4, 2) := by decide +kernel
theorem dX5_ship_33 : decode cX5_ship 33 = .ok (.aload 4, 2) := by decide +kernel
theorem dX5_ship_35 : decode cX5_ship 35 = .ok (.getfield 203, 3) := by decide +kernel
theorem dX5_ship_38 : decode cX5_ship 38 = .ok (.iload_n 1, 1) := by decide +kernel
theorem dX5_ship_39 : decode cX5_ship 39 = .ok (.if_icmp .ne 39, 3) := by decide +kernel
theorem dX5_ship_42 : decode cX5_ship 42 = .ok (.aload 4, 2) := by decide +kernel
theorem dX5_ship_44 : decode cX5_ship 44 = .ok (.getfield 173, 3) := by decide +kernel
theorem dX5_ship_47 : decode cX5_ship 47 = .ok (.bipush 107, 2) := by decide +kernel
theorem dX5_ship_49 : decode cX5_ship 49 = .ok (.if_icmp .ne 29, 3) := by decide +kernel
theorem dX5_ship_52 : decode cX5_ship 52 = .ok (.aload_n 0, 1) := by decide +kernel
theorem dX5_ship_53 : decode cX5_ship 53 = .ok (.aload 4, 2) := by decide +kernel
theorem dX5_ship_55 : decode cX5_ship 55 = .ok (.bipush 115, 2) := by decide +kernel
theorem dX5_ship_57 : decode cX5_ship 57 = .ok (.invokevirtual 179, 3) := by decide +kernel
theorem dX5_ship_60 : decode cX5_ship 60 = .ok (.aload_n 0, 1) := by decide +kernel
theorem dX5_ship_61 : decode cX5_ship 61 = .ok (.dup, 1) := by decide +kernel
theorem dX5_ship_62 : decode cX5_ship 62 = .ok (.getfield 206, 3) := by decide +kernel
theorem dX5_ship_65 : decode cX5_ship 65 = .ok (.aload 4, 2) := by decide +kernel
theorem dX5_ship_67 : decode cX5_ship 67 = .ok (.getfield 114, 3) := by decide +kernel
theorem dX5_ship_70 : decode cX5_ship 70 = .ok (.i2l, 1) := by decide +kernel
theorem dX5_ship_71 : decode cX5_ship 71 = .ok (.ladd, 1) := by decide +kernel
theorem dX5_ship_72 : decode cX5_ship 72 = .ok (.putfield 206, 3) := by decide +kernel
theorem dX5_ship_75 : decode cX5_ship 75 = .ok (.iinc 2 1, 3) := by decide +kernel
theorem dX5_ship_78 : decode cX5_ship 78 = .ok (.iinc 3 1, 3) := by decide +kernel
theorem dX5_ship_81 : decode cX5_ship 81 = .ok (.goto (-72), 3) := by decide +kernel
theorem dX5_ship_84 : decode cX5_ship 84 = .ok (.iload_n 2, 1) := by decide +kernel
theorem dX5_ship_85 : decode cX5_ship 85 = .ok (.ireturn, 1) := by decide +kernel
set_option maxHeartbeats 4000000 in
set_option maxRecDepth 100000 in
theorem c_X5_ship (l : Launch) (hl0 : l.stackTraces = false) (g : kG) (e0 : Nat) (z : Nat → Nat) (S : wPS) (sz : Nat) (hI : Inv z e0 S) (n : Int32) : kM l g e0 yX5_ship cX5_ship 5 (some .int) 7 103 1 6 [.ref (z 0), .int n] S sz (pI (fun r T => Kp z S T ∧ ¬ n < 0 ∧ ¬ 3 ≤ n ∧ (pF S 72 (z 11) = 0 → r = 0))) (fun E => E = xI ∧ (n < 0 ∨ 3 ≤ n)) := by
  refine kM.of (by decide) (Nat.le_of_ble_eq_true rfl) ?_
  intro p e s m below meth c ls B hin
  obtain ⟨F, hr, hlk, hte, hP, hK, hD, hE, hS, hA, hl, hsz⟩ := B
  subst hsz
  have hx := F.1
  have hb := F.2.1
  have hl : lv_has ls 5 [(0, .ref (z 0)), (1, .int n)] := hl
  obtain ⟨m1, hm1, hL1⟩ := hI.lines
  refine lv_aload_n hx hb dX5_ship_0 rfl (lv_at hl 0 rfl) ?_
  refine lv_iload_n hx hb dX5_ship_1 rfl (lv_at hl 1 rfl) ?_
  refine kcallU (kV (n := 1) (As := [.int n]) (rest := []) (b := (z 0)) (C := RX5) F hE hK hP hD hS hA (c_X5_checkCarrier l hl0 g e0 z S _ hI n) (rr_Pickwave hK hP (hI.1.1 0 (by decide))) kw_528 kw_529 kw_530 kw_2 kw_531 (by decide +kernel) ⟨Nat.le_of_ble_eq_true rfl, Nat.le_of_ble_eq_true rfl⟩ rfl hl.1 rfl (Nat.le_of_ble_eq_true rfl) dX5_ship_2 ⟨Nat.le_of_ble_eq_true rfl, Nat.le_of_ble_eq_true rfl⟩) rfl hD hS hA (fun E ce q9 H1 locs1 hex hP1 hS1 hce hcv hcl => kthru hte hlk (hex) hP1 hS1 hce hcv hcl (Nat.le_of_ble_eq_true rfl) (Nat.le_of_ble_eq_true rfl)) (fun T1 H locs hp hP hD hS => ?_)
  obtain ⟨hT, hp2⟩ := hp
  have hT := hT.symm
  subst hT
  refine lv_iconst (v := 0) hx hb dX5_ship_5 (by decide) ?_
  refine lv_istore_n (lv' := [(2, .int 0), (0, .ref (z 0)), (1, .int n)]) hx hb dX5_ship_6 rfl hl (by decide) rfl (fun ls hl => ?_)
  refine lv_iconst (v := 0) hx hb dX5_ship_7 (by decide) ?_
  refine lv_istore_n (lv' := [(3, .int 0), (2, .int 0), (0, .ref (z 0)), (1, .int n)]) hx hb dX5_ship_8 rfl hl (by decide) rfl (fun ls hl => ?_)
  have loop : ∀ (fu : Nat) (T0 : wPS) (i : Nat) (xi cn : Int32) (H : Heap) (locs : List Loc) (ls : Array Slot), va_P (kD g) vwCl (kW g T0) H → va_D (kA (pL S) s.heap.size) (kW g T0) → va_S (kA (pL S) s.heap.size) s.heap H locs → lv_has ls 5 [(3, .int xi), (2, .int cn), (0, .ref (z 0)), (1, .int n)] → m1 - i < fu → (Kp z S T0) → (xi = nI i) → (i ≤ m1) → (i = 0 → cn = 0) → W p l e ({ frames := 7, cells := 1, slots := 6, locals := 103 }) s m ([.ref (z 0), .int n] : List Value).toArray below meth c H locs 1 6 (vx_MQ below (kQ g S s.heap.size (pI (fun r T => Kp z S T ∧ ¬ n < 0 ∧ ¬ 3 ≤ n ∧ (pF S 72 (z 11) = 0 → r = 0)))) (kX g S s.heap.size (fun E => E = xI ∧ (n < 0 ∨ 3 ≤ n))) ([.ref (z 0), .int n] : List Value).toArray s 1 6 (kA (pL S) s.heap.size)) (F0 m 9 ls []) := by
    intro fu
    induction fu with
    | zero => intro T0 i xi cn H locs ls hP hD hS hl hn hKp hi hin hc; exact absurd hn (Nat.not_lt_zero _)
    | succ fu ih =>
      intro T0 i xi cn H locs ls hP hD hS hl hn hKp hi hin hc
      have hLT : LI T0 e0 (z 11) 2 m1 := LI.keep hKp.1 hL1
      refine lv_iload_n hx hb dX5_ship_9 rfl (lv_at hl 0 rfl) ?_
      refine lv_aload_n hx hb dX5_ship_10 rfl (lv_at hl 2 rfl) ?_
      refine rs_Pickwave_lines (b := z 11) F hK hP ((hI.keep hKp.1).1.1 0 (by decide)) ((hI.keep hKp.1).2.1.2.2.2.2.1) kw_28 dX5_ship_11 ?_
      refine kcallI (kV (n := 0) (As := []) (rest := [.int xi]) (b := (z 11)) (C := RJx4a65c) F hE hK hP hD hS hA (c_Jx4a65c_size_8abf5 l hl0 g e0 T0 _ (z 11) ((hI.keep hKp.1).1.1 11 (by decide))) (rr_ArrayList hK hP ((hI.keep hKp.1).1.1 11 (by decide))) kw_109 kw_110 kw_111 kw_26 kw_112 (by decide +kernel) ⟨Nat.le_of_ble_eq_true rfl, Nat.le_of_ble_eq_true rfl⟩ rfl hl.1 rfl (Nat.le_of_ble_eq_true rfl) dX5_ship_14 ⟨Nat.le_of_ble_eq_true rfl, Nat.le_of_ble_eq_true rfl⟩) rfl hD hS hA (fun _ _ _ _ _ h => False.elim h) (fun r3 T3 H locs hp hP hD hS => ?_)
      obtain ⟨hT, hp4⟩ := hp
      have hT := hT.symm
      subst hT
      refine lv_icmp_ge (tgt := 84) hx hb dX5_ship_17 (by decide) (fun c5 => ?_) (fun c5 => ?_)
      · refine lv_iload_n hx hb dX5_ship_84 rfl (lv_at hl 1 rfl) ?_
        exact kEndI F hr rfl hlk hP hD hS (Nat.le_of_ble_eq_true rfl) (Nat.le_of_ble_eq_true rfl) dX5_ship_85 ⟨_, rfl, ⟨hKp, hp2.1, hp2.2, (fun h => hc (by have h9 : nI m1 = nI 0 := hL1.1.symm.trans h; have := (nI_eq (by omega) (by decide)).mp h9; omega))⟩⟩
      · obtain ⟨him, hx0, hx1⟩ := klp hLT ⟨hm1, hin⟩ hi hp4 c5
        refine lv_aload_n hx hb dX5_ship_20 rfl (lv_at hl 2 rfl) ?_
        refine rs_Pickwave_lines (b := z 11) F hK hP ((hI.keep hKp.1).1.1 0 (by decide)) ((hI.keep hKp.1).2.1.2.2.2.2.1) kw_28 dX5_ship_21 ?_
        refine lv_iload_n hx hb dX5_ship_24 rfl (lv_at hl 0 rfl) ?_
        refine kcallR (kV (n := 1) (As := [.int xi]) (rest := []) (b := (z 11)) (C := RJx4a65c) F hE hK hP hD hS hA (c_Jx4a65c_get_915e3 l hl0 g e0 T0 _ (z 11) 2 _ xi ((hI.keep hKp.1).1.1 11 (by decide)) hLT hx0 hx1 (by omega)) (rr_ArrayList hK hP ((hI.keep hKp.1).1.1 11 (by decide))) kw_207 kw_208 kw_209 kw_26 kw_210 (by decide +kernel) ⟨Nat.le_of_ble_eq_true rfl, Nat.le_of_ble_eq_true rfl⟩ rfl hl.1 rfl (Nat.le_of_ble_eq_true rfl) dX5_ship_25 ⟨Nat.le_of_ble_eq_true rfl, Nat.le_of_ble_eq_true rfl⟩) rfl hD hS hA (fun _ _ _ _ _ h => False.elim h) (fun b6 T6 H locs hp hP hD hS => ?_)
        obtain ⟨hT, hp7⟩ := hp
        have hT := hT.symm
        subst hT
        refine va_castS hx hb F.2.2.2.1 (F.2.2.2.2 _ kw_287) (hK.1 3 _ rfl).2 (rr_Line hK hP hp7.1) dX5_ship_28 ?_
        refine lv_astore (lv' := [(4, .ref b6), (3, .int xi), (2, .int cn), (0, .ref (z 0)), (1, .int n)]) hx hb dX5_ship_31 hl (by decide) rfl (fun ls hl => ?_)
        refine lv_aload hx hb dX5_ship_33 (lv_at hl 0 rfl) ?_
        refine rg_Line_carrier F hK hP hp7.1 kw_511 dX5_ship_35 ?_
        refine lv_topi (fun x8 ex8 => ?_)
        refine lv_iload_n hx hb dX5_ship_38 rfl (lv_at hl 4 rfl) ?_
        refine lv_icmp_ne (tgt := 78) hx hb dX5_ship_39 (by decide) (fun c9 => ?_) (fun c9 => ?_)
        · obtain ⟨x10, ex10⟩ : ∃ y : Int32, y = xi + 1 := ⟨_, rfl⟩
          refine lv_iinc (v := x10) (lv' := [(3, .int x10), (4, .ref b6), (2, .int cn), (0, .ref (z 0)), (1, .int n)]) hx hb dX5_ship_78 hl (k := 1) rfl (by rw [ex10]; rfl) (by decide) rfl (fun ls hl => ?_)
          refine lv_goto (tgt := 9) hx hb dX5_ship_81 (by decide) ?_
          exact ih _ (i + 1) x10 cn H locs ls hP hD hS (lv_sub hl [0, 2, 3, 4] rfl) (by omega) hKp (by rw [ex10, hi]; exact nI_1 i) him (fun h => absurd h (by omega))
        · refine lv_aload hx hb dX5_ship_42 (lv_at hl 0 rfl) ?_
          refine rg_Line_state F hK hP hp7.1 kw_326 dX5_ship_44 ?_
          refine lv_topi (fun x11 ex11 => ?_)
          refine lv_bipush (v := 107) hx hb dX5_ship_47 (by decide) ?_
          refine lv_icmp_ne (tgt := 78) hx hb dX5_ship_49 (by decide) (fun c12 => ?_) (fun c12 => ?_)
          · obtain ⟨x13, ex13⟩ : ∃ y : Int32, y = xi + 1 := ⟨_, rfl⟩
            refine lv_iinc (v := x13) (lv' := [(3, .int x13), (4, .ref b6), (2, .int cn), (0, .ref (z 0)), (1, .int n)]) hx hb dX5_ship_78 hl (k := 1) rfl (by rw [ex13]; rfl) (by decide) rfl (fun ls hl => ?_)
            refine lv_goto (tgt := 9) hx hb dX5_ship_81 (by decide) ?_
            exact ih _ (i + 1) x13 cn H locs ls hP hD hS (lv_sub hl [0, 2, 3, 4] rfl) (by omega) hKp (by rw [ex13, hi]; exact nI_1 i) him (fun h => absurd h (by omega))
          · refine lv_aload_n hx hb dX5_ship_52 rfl (lv_at hl 3 rfl) ?_
            refine lv_aload hx hb dX5_ship_53 (lv_at hl 0 rfl) ?_
            refine lv_bipush (v := 115) hx hb dX5_ship_55 (by decide) ?_
            refine kcallU (kV (n := 2) (As := [.ref b6, .int 115]) (rest := []) (b := (z 0)) (C := RX5) F hE hK hP hD hS hA (c_X5_scan l hl0 g e0 z T0 _ (hI.keep hKp.1) b6 hp7.1 115 ⟨rfl, rfl⟩) (rr_Pickwave hK hP ((hI.keep hKp.1).1.1 0 (by decide))) kw_327 kw_328 kw_329 kw_2 kw_330 (by decide +kernel) ⟨Nat.le_of_ble_eq_true rfl, Nat.le_of_ble_eq_true rfl⟩ rfl hl.1 rfl (Nat.le_of_ble_eq_true rfl) dX5_ship_57 ⟨Nat.le_of_ble_eq_true rfl, Nat.le_of_ble_eq_true rfl⟩) rfl hD hS hA (fun _ _ _ _ _ h => False.elim h) (fun T14 H locs hp hP hD hS => ?_)
            have N15 : Kp z T0 T14 := hp
            have K15 : Kp z S T14 := Kp.trans hKp N15
            have I15 : Inv z e0 T14 := hI.keep K15.1
            have o16 : Ob T14 2 b6 := N15.1.ob hp7.1
            refine lv_aload_n hx hb dX5_ship_60 rfl (lv_at hl 3 rfl) ?_
            refine lv_dup hx hb dX5_ship_61 rfl ?_
            refine rg_Pickwave_shippedUnits F hK hP (I15.1.1 0 (by decide)) kw_527 dX5_ship_62 ?_
            refine lv_topl (fun x17 ex17 => ?_)
            refine lv_aload hx hb dX5_ship_65 (lv_at hl 0 rfl) ?_
            refine rg_Line_amount F hK hP o16 kw_289 dX5_ship_67 ?_
            refine lv_topi (fun x18 ex18 => ?_)
            refine lv_i2l (v := x18.toInt64) hx hb dX5_ship_70 rfl ?_
            refine lv_ladd hx hb dX5_ship_71 ?_
            refine lv_topl (fun x19 ex19 => ?_)
            refine rp_Pickwave_shippedUnits F hK hP hD hS (I15.1.1 0 (by decide)) kw_527 dX5_ship_72 (fun H locs hP hD hS => ?_)
            obtain ⟨x20, ex20⟩ : ∃ y : Int32, y = cn + 1 := ⟨_, rfl⟩
            refine lv_iinc (v := x20) (lv' := [(2, .int x20), (4, .ref b6), (3, .int xi), (0, .ref (z 0)), (1, .int n)]) hx hb dX5_ship_75 hl (k := 2) rfl (by rw [ex20]; rfl) (by decide) rfl (fun ls hl => ?_)
            obtain ⟨x21, ex21⟩ : ∃ y : Int32, y = xi + 1 := ⟨_, rfl⟩
            refine lv_iinc (v := x21) (lv' := [(3, .int x21), (2, .int x20), (4, .ref b6), (0, .ref (z 0)), (1, .int n)]) hx hb dX5_ship_78 hl (k := 2) rfl (by rw [ex21]; rfl) (by decide) rfl (fun ls hl => ?_)
            refine lv_goto (tgt := 9) hx hb dX5_ship_81 (by decide) ?_
            exact ih _ (i + 1) x21 x20 H locs ls hP hD hS (lv_sub hl [0, 1, 3, 4] rfl) (by omega) (kp_setJ K15) (by rw [ex21, hi]; exact nI_1 i) him (fun h => absurd h (by omega))
  exact loop 13 _ 0 0 0 _ _ _ hP hD hS (lv_sub hl [0, 1, 2, 3] rfl) (by omega) hI.kp rfl (Nat.zero_le _) (fun _ => rfl)
end
section
theorem dX0_init_0 : decode cX0_init 0 = .ok (.aload_n 0, 1) := by decide +kernel
theorem dX0_init_1 : decode cX0_init 1 = .ok (.invokespecial 1, 3) := by decide +kernel
theorem dX0_init_4 : decode cX0_init 4 = .ok (.aload_n 0, 1) := by decide +kernel
theorem dX0_init_5 : decode cX0_init 5 = .ok (.iload_n 1, 1) := by decide +kernel
theorem dX0_init_6 : decode cX0_init 6 = .ok (.putfield 7, 3) := by decide +kernel
theorem dX0_init_9 : decode cX0_init 9 = .ok (.return_, 1) := by decide +kernel
set_option maxHeartbeats 4000000 in
set_option maxRecDepth 100000 in
theorem c_X0_init (l : Launch) (hl0 : l.stackTraces = false) (g : kG) (e0 : Nat) (S : wPS) (sz : Nat) (a : Nat) (n : Int32) (oa : Ob S 0 a) : kC l g e0 yX0_init cX0_init 2 1 14 0 0 [.ref a, .int n] S sz (fun T => T = setF S 0 a n) := by
  refine kC.of (by decide) (Nat.le_of_ble_eq_true rfl) rfl ?_
  intro p e s m below meth c ls B hin
  obtain ⟨F, hr, hlk, hte, hP, hK, hD, hE, hS, hA, hl, hsz⟩ := B
  subst hsz
  have hx := F.1
  have hb := F.2.1
  have hl : lv_has ls 2 [(0, .ref a), (1, .int n)] := hl
  refine lv_aload_n hx hb dX0_init_0 rfl (lv_at hl 0 rfl) ?_
  refine W.objInit hx hb F.2.2.2.1 (F.2.2.2.2 _ kw_36) (F.2.2.2.2 _ kw_12) (F.2.2.2.2 _ kw_13) rfl (by rw [F.2.2.1]; exact hl.1) rfl dX0_init_1 (Nat.le_of_ble_eq_true rfl) (Nat.le_of_ble_eq_true rfl) ?_
  refine W.eq (g2 := F0 m 4 ls []) rfl ?_
  refine lv_aload_n hx hb dX0_init_4 rfl (lv_at hl 0 rfl) ?_
  refine lv_iload_n hx hb dX0_init_5 rfl (lv_at hl 1 rfl) ?_
  refine rp_Aisle_number F hK hP hD hS oa kw_37 hin rfl dX0_init_6 (fun H locs hP hD hS => ?_)
  exact kEndC F hr hlk hP hD hS (Nat.le_of_ble_eq_true rfl) (Nat.le_of_ble_eq_true rfl) dX0_init_9 rfl
theorem dX1_init_0 : decode cX1_init 0 = .ok (.aload_n 0, 1) := by decide +kernel
theorem dX1_init_1 : decode cX1_init 1 = .ok (.invokespecial 1, 3) := by decide +kernel
theorem dX1_init_4 : decode cX1_init 4 = .ok (.aload_n 0, 1) := by decide +kernel
theorem dX1_init_5 : decode cX1_init 5 = .ok (.aload_n 1, 1) := by decide +kernel
theorem dX1_init_6 : decode cX1_init 6 = .ok (.putfield 7, 3) := by decide +kernel
theorem dX1_init_9 : decode cX1_init 9 = .ok (.aload_n 0, 1) := by decide +kernel
theorem dX1_init_10 : decode cX1_init 10 = .ok (.iload_n 2, 1) := by decide +kernel
theorem dX1_init_11 : decode cX1_init 11 = .ok (.putfield 13, 3) := by decide +kernel
theorem dX1_init_14 : decode cX1_init 14 = .ok (.aload_n 0, 1) := by decide +kernel
theorem dX1_init_15 : decode cX1_init 15 = .ok (.iload_n 3, 1) := by decide +kernel
theorem dX1_init_16 : decode cX1_init 16 = .ok (.putfield 17, 3) := by decide +kernel
theorem dX1_init_19 : decode cX1_init 19 = .ok (.aload_n 0, 1) := by decide +kernel
theorem dX1_init_20 : decode cX1_init 20 = .ok (.iload 4, 2) := by decide +kernel
theorem dX1_init_22 : decode cX1_init 22 = .ok (.putfield 20, 3) := by decide +kernel
theorem dX1_init_25 : decode cX1_init 25 = .ok (.return_, 1) := by decide +kernel
set_option maxHeartbeats 4000000 in
set_option maxRecDepth 100000 in
theorem c_X1_init (l : Launch) (hl0 : l.stackTraces = false) (g : kG) (e0 : Nat) (S : wPS) (sz : Nat) (a b : Nat) (st re ro : Int32) (oa : Ob S 1 a) : kC l g e0 yX1_init cX1_init 5 1 14 0 0 [.ref a, .ref b, .int st, .int re, .int ro] S sz (fun T => T = setF (setF (setF (setG S 10 a (some b)) 12 a st) 13 a re) 11 a ro) := by
  refine kC.of (by decide) (Nat.le_of_ble_eq_true rfl) rfl ?_
  intro p e s m below meth c ls B hin
  obtain ⟨F, hr, hlk, hte, hP, hK, hD, hE, hS, hA, hl, hsz⟩ := B
  subst hsz
  have hx := F.1
  have hb := F.2.1
  have hl : lv_has ls 5 [(0, .ref a), (1, .ref b), (2, .int st), (3, .int re), (4, .int ro)] := hl
  refine lv_aload_n hx hb dX1_init_0 rfl (lv_at hl 0 rfl) ?_
  refine W.objInit hx hb F.2.2.2.1 (F.2.2.2.2 _ kw_117) (F.2.2.2.2 _ kw_12) (F.2.2.2.2 _ kw_13) rfl (by rw [F.2.2.1]; exact hl.1) rfl dX1_init_1 (Nat.le_of_ble_eq_true rfl) (Nat.le_of_ble_eq_true rfl) ?_
  refine W.eq (g2 := F0 m 4 ls []) rfl ?_
  refine lv_aload_n hx hb dX1_init_4 rfl (lv_at hl 0 rfl) ?_
  refine lv_aload_n hx hb dX1_init_5 rfl (lv_at hl 1 rfl) ?_
  refine rps_Article_aisle F hK hP hD hS oa kw_118 hin rfl dX1_init_6 (fun H locs hP hD hS => ?_)
  refine lv_aload_n hx hb dX1_init_9 rfl (lv_at hl 0 rfl) ?_
  refine lv_iload_n hx hb dX1_init_10 rfl (lv_at hl 2 rfl) ?_
  refine rp_Article_stock F hK hP hD hS oa kw_119 dX1_init_11 (fun H locs hP hD hS => ?_)
  refine lv_aload_n hx hb dX1_init_14 rfl (lv_at hl 0 rfl) ?_
  refine lv_iload_n hx hb dX1_init_15 rfl (lv_at hl 3 rfl) ?_
  refine rp_Article_reserve F hK hP hD hS oa kw_120 dX1_init_16 (fun H locs hP hD hS => ?_)
  refine lv_aload_n hx hb dX1_init_19 rfl (lv_at hl 0 rfl) ?_
  refine lv_iload hx hb dX1_init_20 (lv_at hl 4 rfl) ?_
  refine rp_Article_room F hK hP hD hS oa kw_121 hin rfl dX1_init_22 (fun H locs hP hD hS => ?_)
  exact kEndC F hr hlk hP hD hS (Nat.le_of_ble_eq_true rfl) (Nat.le_of_ble_eq_true rfl) dX1_init_25 rfl
theorem dX2_init_0 : decode cX2_init 0 = .ok (.aload_n 0, 1) := by decide +kernel
theorem dX2_init_1 : decode cX2_init 1 = .ok (.invokespecial 3, 3) := by decide +kernel
theorem dX2_init_4 : decode cX2_init 4 = .ok (.aload_n 0, 1) := by decide +kernel
theorem dX2_init_5 : decode cX2_init 5 = .ok (.iload_n 1, 1) := by decide +kernel
theorem dX2_init_6 : decode cX2_init 6 = .ok (.putfield 9, 3) := by decide +kernel
theorem dX2_init_9 : decode cX2_init 9 = .ok (.aload_n 0, 1) := by decide +kernel
theorem dX2_init_10 : decode cX2_init 10 = .ok (.aload_n 2, 1) := by decide +kernel
theorem dX2_init_11 : decode cX2_init 11 = .ok (.putfield 15, 3) := by decide +kernel
theorem dX2_init_14 : decode cX2_init 14 = .ok (.aload_n 0, 1) := by decide +kernel
theorem dX2_init_15 : decode cX2_init 15 = .ok (.iload_n 3, 1) := by decide +kernel
theorem dX2_init_16 : decode cX2_init 16 = .ok (.putfield 19, 3) := by decide +kernel
theorem dX2_init_19 : decode cX2_init 19 = .ok (.aload_n 0, 1) := by decide +kernel
theorem dX2_init_20 : decode cX2_init 20 = .ok (.iload 4, 2) := by decide +kernel
theorem dX2_init_22 : decode cX2_init 22 = .ok (.putfield 22, 3) := by decide +kernel
theorem dX2_init_25 : decode cX2_init 25 = .ok (.aload_n 0, 1) := by decide +kernel
theorem dX2_init_26 : decode cX2_init 26 = .ok (.bipush 111, 2) := by decide +kernel
theorem dX2_init_28 : decode cX2_init 28 = .ok (.putfield 25, 3) := by decide +kernel
theorem dX2_init_31 : decode cX2_init 31 = .ok (.aload_n 0, 1) := by decide +kernel
theorem dX2_init_32 : decode cX2_init 32 = .ok (.iconst (-1), 1) := by decide +kernel
theorem dX2_init_33 : decode cX2_init 33 = .ok (.putfield 29, 3) := by decide +kernel
theorem dX2_init_36 : decode cX2_init 36 = .ok (.return_, 1) := by decide +kernel
set_option maxHeartbeats 4000000 in
set_option maxRecDepth 100000 in
theorem c_X2_init (l : Launch) (hl0 : l.stackTraces = false) (g : kG) (e0 : Nat) (S : wPS) (sz : Nat) (a b : Nat) (nu am ca : Int32) (oa : Ob S 2 a) : kC l g e0 yX2_init cX2_init 5 1 14 0 0 [.ref a, .int nu, .ref b, .int am, .int ca] S sz (fun T => T = setF (setF (setF (setF (setG (setF S 20 a nu) 21 a (some b)) 23 a am) 22 a ca) 24 a 111) 25 a (-1)) := by
  refine kC.of (by decide) (Nat.le_of_ble_eq_true rfl) rfl ?_
  intro p e s m below meth c ls B hin
  obtain ⟨F, hr, hlk, hte, hP, hK, hD, hE, hS, hA, hl, hsz⟩ := B
  subst hsz
  have hx := F.1
  have hb := F.2.1
  have hl : lv_has ls 5 [(0, .ref a), (1, .int nu), (2, .ref b), (3, .int am), (4, .int ca)] := hl
  refine lv_aload_n hx hb dX2_init_0 rfl (lv_at hl 0 rfl) ?_
  refine W.objInit hx hb F.2.2.2.1 (F.2.2.2.2 _ kw_421) (F.2.2.2.2 _ kw_12) (F.2.2.2.2 _ kw_13) rfl (by rw [F.2.2.1]; exact hl.1) rfl dX2_init_1 (Nat.le_of_ble_eq_true rfl) (Nat.le_of_ble_eq_true rfl) ?_
  refine W.eq (g2 := F0 m 4 ls []) rfl ?_
  refine lv_aload_n hx hb dX2_init_4 rfl (lv_at hl 0 rfl) ?_
  refine lv_iload_n hx hb dX2_init_5 rfl (lv_at hl 1 rfl) ?_
  refine rp_Line_number F hK hP hD hS oa kw_422 hin rfl dX2_init_6 (fun H locs hP hD hS => ?_)
  refine lv_aload_n hx hb dX2_init_9 rfl (lv_at hl 0 rfl) ?_
  refine lv_aload_n hx hb dX2_init_10 rfl (lv_at hl 2 rfl) ?_
  refine rps_Line_article F hK hP hD hS oa kw_423 hin rfl dX2_init_11 (fun H locs hP hD hS => ?_)
  refine lv_aload_n hx hb dX2_init_14 rfl (lv_at hl 0 rfl) ?_
  refine lv_iload_n hx hb dX2_init_15 rfl (lv_at hl 3 rfl) ?_
  refine rp_Line_amount F hK hP hD hS oa kw_424 dX2_init_16 (fun H locs hP hD hS => ?_)
  refine lv_aload_n hx hb dX2_init_19 rfl (lv_at hl 0 rfl) ?_
  refine lv_iload hx hb dX2_init_20 (lv_at hl 4 rfl) ?_
  refine rp_Line_carrier F hK hP hD hS oa kw_425 hin rfl dX2_init_22 (fun H locs hP hD hS => ?_)
  refine lv_aload_n hx hb dX2_init_25 rfl (lv_at hl 0 rfl) ?_
  refine lv_bipush (v := 111) hx hb dX2_init_26 (by decide) ?_
  refine rp_Line_state F hK hP hD hS oa kw_426 rfl rfl dX2_init_28 (fun H locs hP hD hS => ?_)
  refine lv_aload_n hx hb dX2_init_31 rfl (lv_at hl 0 rfl) ?_
  refine lv_iconst (v := (-1)) hx hb dX2_init_32 (by decide) ?_
  refine rp_Line_lastWave F hK hP hD hS oa kw_427 dX2_init_33 (fun H locs hP hD hS => ?_)
  exact kEndC F hr hlk hP hD hS (Nat.le_of_ble_eq_true rfl) (Nat.le_of_ble_eq_true rfl) dX2_init_36 rfl
theorem dX3_init_0 : decode cX3_init 0 = .ok (.aload_n 0, 1) := by decide +kernel
theorem dX3_init_1 : decode cX3_init 1 = .ok (.invokespecial 1, 3) := by decide +kernel
theorem dX3_init_4 : decode cX3_init 4 = .ok (.return_, 1) := by decide +kernel
set_option maxHeartbeats 4000000 in
set_option maxRecDepth 100000 in
theorem c_X3_init (l : Launch) (hl0 : l.stackTraces = false) (g : kG) (e0 : Nat) (S : wPS) (sz : Nat) (a : Nat) (oa : Ob S 3 a) : kC l g e0 yX3_init cX3_init 1 1 14 0 0 [.ref a] S sz (fun T => T = S) := by
  refine kC.of (by decide) (Nat.le_of_ble_eq_true rfl) rfl ?_
  intro p e s m below meth c ls B hin
  obtain ⟨F, hr, hlk, hte, hP, hK, hD, hE, hS, hA, hl, hsz⟩ := B
  subst hsz
  have hx := F.1
  have hb := F.2.1
  have hl : lv_has ls 1 [(0, .ref a)] := hl
  refine lv_aload_n hx hb dX3_init_0 rfl (lv_at hl 0 rfl) ?_
  refine W.objInit hx hb F.2.2.2.1 (F.2.2.2.2 _ kw_40) (F.2.2.2.2 _ kw_12) (F.2.2.2.2 _ kw_13) rfl (by rw [F.2.2.1]; exact hl.1) rfl dX3_init_1 (Nat.le_of_ble_eq_true rfl) (Nat.le_of_ble_eq_true rfl) ?_
  refine W.eq (g2 := F0 m 4 ls []) rfl ?_
  exact kEndC F hr hlk hP hD hS (Nat.le_of_ble_eq_true rfl) (Nat.le_of_ble_eq_true rfl) dX3_init_4 rfl
theorem dX4_init_0 : decode cX4_init 0 = .ok (.aload_n 0, 1) := by decide +kernel
theorem dX4_init_1 : decode cX4_init 1 = .ok (.invokespecial 3, 3) := by decide +kernel
theorem dX4_init_4 : decode cX4_init 4 = .ok (.aload_n 0, 1) := by decide +kernel
theorem dX4_init_5 : decode cX4_init 5 = .ok (.sipush 516, 3) := by decide +kernel
theorem dX4_init_8 : decode cX4_init 8 = .ok (.newarray .int, 2) := by decide +kernel
theorem dX4_init_10 : decode cX4_init 10 = .ok (.putfield 9, 3) := by decide +kernel
theorem dX4_init_13 : decode cX4_init 13 = .ok (.aload_n 0, 1) := by decide +kernel
theorem dX4_init_14 : decode cX4_init 14 = .ok (.sipush 516, 3) := by decide +kernel
theorem dX4_init_17 : decode cX4_init 17 = .ok (.newarray .char, 2) := by decide +kernel
theorem dX4_init_19 : decode cX4_init 19 = .ok (.putfield 15, 3) := by decide +kernel
theorem dX4_init_22 : decode cX4_init 22 = .ok (.return_, 1) := by decide +kernel
set_option maxHeartbeats 4000000 in
set_option maxRecDepth 100000 in
theorem c_X4_init (l : Launch) (hl0 : l.stackTraces = false) (g : kG) (e0 : Nat) (S : wPS) (sz : Nat) (a : Nat) (oa : Ob S 4 a) : kC l g e0 yX4_init cX4_init 1 1 14 2 1032 [.ref a] S sz (fun T => ∃ (q1 q2 : Nat) (P1 P2 P3 : wPS), q1 ∉ pL S ∧ P1 = newA S q1 9 516 ∧ P2 = setG P1 40 a (some q1) ∧ q2 ∉ pL P2 ∧ P3 = newA P2 q2 8 516 ∧ T = setG P3 41 a (some q2)) := by
  refine kC.of (by decide) (Nat.le_of_ble_eq_true rfl) rfl ?_
  intro p e s m below meth c ls B hin
  obtain ⟨F, hr, hlk, hte, hP, hK, hD, hE, hS, hA, hl, hsz⟩ := B
  subst hsz
  have hx := F.1
  have hb := F.2.1
  have hl : lv_has ls 1 [(0, .ref a)] := hl
  refine lv_aload_n hx hb dX4_init_0 rfl (lv_at hl 0 rfl) ?_
  refine W.objInit hx hb F.2.2.2.1 (F.2.2.2.2 _ kw_59) (F.2.2.2.2 _ kw_12) (F.2.2.2.2 _ kw_13) rfl (by rw [F.2.2.1]; exact hl.1) rfl dX4_init_1 (Nat.le_of_ble_eq_true rfl) (Nat.le_of_ble_eq_true rfl) ?_
  refine W.eq (g2 := F0 m 4 ls []) rfl ?_
  refine lv_aload_n hx hb dX4_init_4 rfl (lv_at hl 0 rfl) ?_
  refine lv_sipush (v := 516) hx hb dX4_init_5 (by decide) ?_
  refine rn_R_I (N := 516) F hK hP hD hS hA kw_18 (by decide) (by decide) (Nat.le_of_ble_eq_true rfl) (Nat.le_of_ble_eq_true rfl) (Nat.le_of_ble_eq_true rfl) dX4_init_8 (fun q1 H hq1 hP hD hS => ?_)
  refine rps_ScanLog_numbers F hK hP hD hS (obA_old (kd := 9) (n := 516) hq1 oa) kw_60 hin rfl dX4_init_10 (fun H locs hP hD hS => ?_)
  refine lv_aload_n hx hb dX4_init_13 rfl (lv_at hl 0 rfl) ?_
  refine lv_sipush (v := 516) hx hb dX4_init_14 (by decide) ?_
  refine rn_R_C (N := 516) F hK hP hD hS hA kw_61 (by decide) (by decide) (Nat.le_of_ble_eq_true rfl) (Nat.le_of_ble_eq_true rfl) (Nat.le_of_ble_eq_true rfl) dX4_init_17 (fun q2 H hq2 hP hD hS => ?_)
  refine rps_ScanLog_signs F hK hP hD hS (obA_old (kd := 8) (n := 516) hq2 (obA_old (kd := 9) (n := 516) hq1 oa)) kw_62 hin rfl dX4_init_19 (fun H locs hP hD hS => ?_)
  exact kEndC F hr hlk hP hD hS (Nat.le_of_ble_eq_true rfl) (Nat.le_of_ble_eq_true rfl) dX4_init_22 (⟨_, _, _, _, _, hq1, rfl, rfl, hq2, rfl, rfl⟩)
theorem dJxa1e45_init_da8c8_0 : decode cJxa1e45_init_da8c8 0 = .ok (.aload_n 0, 1) := by decide +kernel
theorem dJxa1e45_init_da8c8_1 : decode cJxa1e45_init_da8c8 1 = .ok (.invokespecial 1, 3) := by decide +kernel
theorem dJxa1e45_init_da8c8_4 : decode cJxa1e45_init_da8c8 4 = .ok (.return_, 1) := by decide +kernel
set_option maxHeartbeats 4000000 in
set_option maxRecDepth 100000 in
theorem c_Jxa1e45_init_da8c8 (l : Launch) (hl0 : l.stackTraces = false) (g : kG) (e0 : Nat) (S : wPS) (sz : Nat) (a : Nat) : kC l g e0 yJxa1e45_init_da8c8 cJxa1e45_init_da8c8 1 1 14 0 0 [.ref a] S sz (fun T => T = S) := by
  refine kC.of (by decide) (Nat.le_of_ble_eq_true rfl) rfl ?_
  intro p e s m below meth c ls B hin
  obtain ⟨F, hr, hlk, hte, hP, hK, hD, hE, hS, hA, hl, hsz⟩ := B
  subst hsz
  have hx := F.1
  have hb := F.2.1
  have hl : lv_has ls 1 [(0, .ref a)] := hl
  refine lv_aload_n hx hb dJxa1e45_init_da8c8_0 rfl (lv_at hl 0 rfl) ?_
  refine W.objInit hx hb F.2.2.2.1 (F.2.2.2.2 _ kw_55) (F.2.2.2.2 _ kw_12) (F.2.2.2.2 _ kw_13) rfl (by rw [F.2.2.1]; exact hl.1) rfl dJxa1e45_init_da8c8_1 (Nat.le_of_ble_eq_true rfl) (Nat.le_of_ble_eq_true rfl) ?_
  refine W.eq (g2 := F0 m 4 ls []) rfl ?_
  exact kEndC F hr hlk hP hD hS (Nat.le_of_ble_eq_true rfl) (Nat.le_of_ble_eq_true rfl) dJxa1e45_init_da8c8_4 rfl
theorem dJxc12de_init_da8c8_0 : decode cJxc12de_init_da8c8 0 = .ok (.aload_n 0, 1) := by decide +kernel
theorem dJxc12de_init_da8c8_1 : decode cJxc12de_init_da8c8 1 = .ok (.invokespecial 1, 3) := by decide +kernel
theorem dJxc12de_init_da8c8_4 : decode cJxc12de_init_da8c8 4 = .ok (.aload_n 0, 1) := by decide +kernel
theorem dJxc12de_init_da8c8_5 : decode cJxc12de_init_da8c8 5 = .ok (.iconst 0, 1) := by decide +kernel
theorem dJxc12de_init_da8c8_6 : decode cJxc12de_init_da8c8 6 = .ok (.putfield 7, 3) := by decide +kernel
theorem dJxc12de_init_da8c8_9 : decode cJxc12de_init_da8c8 9 = .ok (.return_, 1) := by decide +kernel
set_option maxHeartbeats 4000000 in
set_option maxRecDepth 100000 in
theorem c_Jxc12de_init_da8c8 (l : Launch) (hl0 : l.stackTraces = false) (g : kG) (e0 : Nat) (S : wPS) (sz : Nat) (a : Nat) (oa : Ob S 7 a) : kC l g e0 yJxc12de_init_da8c8 cJxc12de_init_da8c8 1 2 34 0 0 [.ref a] S sz (fun T => T = setF S 70 a 0) := by
  refine kC.of (by decide) (Nat.le_of_ble_eq_true rfl) rfl ?_
  intro p e s m below meth c ls B hin
  obtain ⟨F, hr, hlk, hte, hP, hK, hD, hE, hS, hA, hl, hsz⟩ := B
  subst hsz
  have hx := F.1
  have hb := F.2.1
  have hl : lv_has ls 1 [(0, .ref a)] := hl
  refine lv_aload_n hx hb dJxc12de_init_da8c8_0 rfl (lv_at hl 0 rfl) ?_
  refine kcallU (kIn (n := 0) (As := []) (rest := []) (b := a) F hE hK hP hD hS hA (c_Jxa1e45_init_da8c8 l hl0 g e0 S _ a) kw_51 kw_52 kw_53 kw_54 rfl (by decide +kernel) ⟨Nat.le_of_ble_eq_true rfl, Nat.le_of_ble_eq_true rfl⟩ rfl hl.1 rfl (Nat.le_of_ble_eq_true rfl) dJxc12de_init_da8c8_1 ⟨Nat.le_of_ble_eq_true rfl, Nat.le_of_ble_eq_true rfl⟩) rfl hD hS hA (fun _ _ _ _ _ h => False.elim h) (fun T1 H locs hp hP hD hS => ?_)
  have hT := hp.symm
  subst hT
  refine lv_aload_n hx hb dJxc12de_init_da8c8_4 rfl (lv_at hl 0 rfl) ?_
  refine lv_iconst (v := 0) hx hb dJxc12de_init_da8c8_5 (by decide) ?_
  refine rp_ArrayList_modCount F hK hP hD hS oa kw_50 dJxc12de_init_da8c8_6 (fun H locs hP hD hS => ?_)
  exact kEndC F hr hlk hP hD hS (Nat.le_of_ble_eq_true rfl) (Nat.le_of_ble_eq_true rfl) dJxc12de_init_da8c8_9 rfl
theorem dJx4a65c_init_da8c8_0 : decode cJx4a65c_init_da8c8 0 = .ok (.aload_n 0, 1) := by decide +kernel
theorem dJx4a65c_init_da8c8_1 : decode cJx4a65c_init_da8c8 1 = .ok (.invokespecial 1, 3) := by decide +kernel
theorem dJx4a65c_init_da8c8_4 : decode cJx4a65c_init_da8c8 4 = .ok (.aload_n 0, 1) := by decide +kernel
theorem dJx4a65c_init_da8c8_5 : decode cJx4a65c_init_da8c8 5 = .ok (.getstatic 39, 3) := by decide +kernel
theorem dJx4a65c_init_da8c8_8 : decode cJx4a65c_init_da8c8 8 = .ok (.putfield 9, 3) := by decide +kernel
theorem dJx4a65c_init_da8c8_11 : decode cJx4a65c_init_da8c8 11 = .ok (.return_, 1) := by decide +kernel
set_option maxHeartbeats 4000000 in
set_option maxRecDepth 100000 in
theorem c_Jx4a65c_init_da8c8 (l : Launch) (hl0 : l.stackTraces = false) (g : kG) (e0 : Nat) (S : wPS) (sz : Nat) (a : Nat) (oa : Ob S 7 a) : kC l g e0 yJx4a65c_init_da8c8 cJx4a65c_init_da8c8 1 3 54 0 0 [.ref a] S sz (fun T => ∃ P1, P1 = setF S 70 a 0 ∧ T = setG P1 71 a (some e0)) := by
  refine kC.of (by decide) (Nat.le_of_ble_eq_true rfl) rfl ?_
  intro p e s m below meth c ls B hin
  obtain ⟨F, hr, hlk, hte, hP, hK, hD, hE, hS, hA, hl, hsz⟩ := B
  subst hsz
  have hx := F.1
  have hb := F.2.1
  have hl : lv_has ls 1 [(0, .ref a)] := hl
  refine lv_aload_n hx hb dJx4a65c_init_da8c8_0 rfl (lv_at hl 0 rfl) ?_
  refine kcallU (kIn (n := 0) (As := []) (rest := []) (b := a) F hE hK hP hD hS hA (c_Jxc12de_init_da8c8 l hl0 g e0 S _ a oa) kw_46 kw_47 kw_48 kw_49 rfl (by decide +kernel) ⟨Nat.le_of_ble_eq_true rfl, Nat.le_of_ble_eq_true rfl⟩ rfl hl.1 rfl (Nat.le_of_ble_eq_true rfl) dJx4a65c_init_da8c8_1 ⟨Nat.le_of_ble_eq_true rfl, Nat.le_of_ble_eq_true rfl⟩) rfl hD hS hA (fun _ _ _ _ _ h => False.elim h) (fun T1 H locs hp hP hD hS => ?_)
  have hT1 := hp
  have oa : Ob T1 7 a := by rw [hT1]; exact oa
  refine lv_aload_n hx hb dJx4a65c_init_da8c8_4 rfl (lv_at hl 0 rfl) ?_
  refine va_gets hx hb hE.1 hS F.2.2.2.1 (F.2.2.2.2 _ kw_44) (fun _ h => h) dJx4a65c_init_da8c8_5 ?_
  refine rps_ArrayList_elementData F hK hP hD hS oa kw_45 dJx4a65c_init_da8c8_8 (fun H locs hP hD hS => ?_)
  exact kEndC F hr hlk hP hD hS (Nat.le_of_ble_eq_true rfl) (Nat.le_of_ble_eq_true rfl) dJx4a65c_init_da8c8_11 (⟨_, hT1, rfl⟩)
end
section
/-! THE CLAIM OUT OF ONE WALK OF THE LAW'S BODY. Your part is whole_start (and what it stands on); all else here is the same for every law, but numbers. -/
def R_law : String := "PickwaveLaw"
def lw_P (b : Addr) (xs : List Int32) (args : Array Value) (s : State) : Prop := args = #[.ref b] ∧ s.IntsAt b xs ∧ xs.length ≤ 5 ∧ (Jvm.Cond.and given_1 narrow_1).before args s = true
/-- what a walk over the start with the record d0 says of its end, said of the start itself -/
theorem lw_closed {s t : State} {o : Outcome} {d0 : Drawn} {L : List Loc} {k n : Nat} (hd0 : s.drawn.sameBut d0 lw_cs) (hv : ∃ v, o = .returned v) (hW : (s.setDrawn d0).WarmedH t.vm) (hs : (s.setDrawn d0).sameButNew ({ t with vm := s.vm } : State) L k n) : State.butDraws s t lw_cs (fun t1 => Framed s o t1 L k n) := by
  have h2 : t.drawn = d0 := congrArg State.drawn hs.1
  refine ⟨⟨hv, hW, State.sameButNew.setDrawn hs s.drawn⟩, ?_, by decide⟩
  rw [h2]
  exact hd0
def lw_Q (_ : Array Value) (s : State) (o : Outcome) (t : State) : Prop := o = .returned (some (.int 1)) ∧ State.butDraws s t lw_cs (fun t1 => Framed s o t1 [] 600002 7302232)
def lw_Z (below : List Frame) (a : Array Value) (s : State) : State → Prop := fun t => ∃ o, t.status = .running ∧ Ended t below o ∧ lw_Q a s o t
/-- the law's own end, with 1 on the stack, nothing written that was there before, its room as the claim has it; d0: the record of draws at this point (at the entry s.drawn: begin with 'refine W.base ?_' and 'have hd0 := Drawn.sameBut.refl s.drawn lw_cs') -/
theorem lw_ret {p : Program} {l : Launch} {e : Env} {s : State} {m : MethodId} {below : List Frame} {meth : Method} {c : Code} {b : Nat} {d0 : Drawn} (hd0 : s.drawn.sameBut d0 lw_cs) (hx : p.tables.exec = Jvm.exec) (hb : c.code = code) (hr : meth.sig.returnType = ret) (hlocks : meth.locks = false) {pc : Nat} {H : Heap} {ls : Array Slot} (hdg : decode code pc = .ok (.ireturn, 1)) : W p l e room_1 (s.setDrawn d0) m #[Value.ref b] below meth c H [] 600002 7302232 (lw_Z below #[Value.ref b] s) (F0 m pc ls [.int 1]) := by
  intro T hT X
  obtain ⟨fs, hret, hrun, hended, hW, hframe⟩ := X.leave (v := some (.int 1)) (hlocks := hlocks) (fun h => by rw [hr] at h; cases h)
  have hmeth' : T.vm.method? m = some meth := X.method'
  refine ⟨T.setFrames fs, ?_, .returned (some (.int 1)), hrun, hended, rfl, lw_closed hd0 ⟨_, rfl⟩ hW hframe⟩
  jvm_step X.here [X.here.top, hx, hb, hdg, hmeth', hr, ret, narrow_b1]
  (try refine ⟨rfl, ?_⟩); (try refine ⟨rfl, ?_⟩)
  first | (intro acts; rw [hret _ acts rfl rfl rfl]) | rw [hret _ _ rfl rfl rfl]
  exact Steps.refl _
/-- what holds at the law's entry: the machine, the code, the tables' words (any of lw_tbl by 'hts w (by decide +kernel)'), the script of L ints xs at the cell b, what the Statement gives of the start (any of its parts by flat_of_before) -/
def lw_At (p : Program) (s : State) (m : MethodId) (meth : Method) (c : Code) (b L : Nat) (xs : Nat → Int32) : Prop :=
  p.tables.exec = Jvm.exec ∧ c.code = code ∧ meth.sig.returnType = ret ∧ c.maxLocals = 8 ∧ s.vm.findClass R_law = some m.cls ∧ (∀ w ∈ lw_tbl, w.before #[Value.ref b] s = true) ∧ va_X b L xs s s.heap ∧ b < s.heap.size ∧ meth.locks = false ∧ (Jvm.Cond.and given_1 narrow_1).before #[Value.ref b] s = true
-- ===== YOUR PART BEGINS =====
/-- YOUR PART: from the entry, for every script of at most 5 ints, the law comes to its end with true ('hflags': the launch's flags, for a law that throws: no stack traces) -/
theorem whole_start {p : Program} {e : Env} {s : State} {m : MethodId} {below : List Frame} {meth : Method} {c : Code} (l : Launch) (hflags : l.flags = flags0) {b L : Nat} {xs : Nat → Int32} (hL : L ≤ 5) (C0 : lw_At p s m meth c b L xs) : W p l e room_1 s m #[Value.ref b] below meth c s.heap [] 0 0 (lw_Z below #[Value.ref b] s) (entryFrame m ([Value.ref b] : List Value).toArray 8) := by
  sorry
-- ===== YOUR PART ENDS =====
set_option maxHeartbeats 4000000 in
theorem lw_walk (l : Launch) (hflags : l.flags = flags0) (b : Addr) (xs : List Int32) : MetFree l x (headSpec (Jvm.Cond.code x code maxLocals ret :: tables_1) room_1) (lw_P b xs) (fun _ _ _ _ _ => True) lw_Q := by
  refine MetFree.of_bodyS (code := code) (maxLocals := maxLocals) (ret := ret) (by decide) ?_ ?_
  · intro args s m h hn
    obtain ⟨meth, c, h1, h2, h3, h4, h5, h6, -, -⟩ := Cond.code_spec hn (atoms_spec (ws := Jvm.Cond.code x code maxLocals ret :: tables_1) h _ List.mem_cons_self)
    exact ⟨meth, c, h1, h2, h3, h4, h5, h6⟩
  · intro p e s m args below meth c s₁ B hml0 hP _
    obtain ⟨rfl, hx, hbd, hgv⟩ := hP
    obtain ⟨scr, harrAt, hlist, hof, hsmall⟩ := hx
    obtain ⟨hcb, hkn, -, -⟩ := State.arrayAt?_spec harrAt
    have hown : s.vm.findClass R_law = some m.cls := findClass_of_methodNamed B.named
    have hts0 : ∀ c ∈ (Jvm.Cond.code x code maxLocals ret :: tables_1), c.before #[Value.ref b] s = true := atoms_spec (ws := Jvm.Cond.code x code maxLocals ret :: tables_1) B.pre
    have hts : ∀ w ∈ lw_tbl, w.before #[Value.ref b] s = true := k2_hts_sels lw_privs (fun w hw => hts0 w (List.mem_cons_of_mem _ hw)) lw_privs_ok
    have hml : c.maxLocals = 8 := B.maxLocals_eq (hts0 _ List.mem_cons_self)
    have X₀ : Stand p l e room_1 s m #[Value.ref b] below meth c s₁ [] 0 0 := Stand.of_body B
    have hh0 : s₁.heap = s.heap := by rw [B.state]; rfl
    have hsz : scr.slots.size = xs.length := by rw [← Array.length_toList, hlist, List.length_map]
    have hval : ∀ j : Nat, j < xs.length → scr.slots[j]? = some (.int (xs.getD j 0)) := fun j hj => by
      rw [← Array.getElem?_toList, hlist]
      simp [hj]
    have hbl : b < s.heap.size := (Array.getElem?_eq_some_iff.mp hcb).1
    have hX : va_X b xs.length (fun j => xs.getD j 0) s s.heap := ⟨scr, hcb, hof, hkn, hsz, hval⟩
    have K : W p l e room_1 s m #[Value.ref b] below meth c s₁.heap [] 0 0 (lw_Z below #[Value.ref b] s) (entryFrame m ([Value.ref b] : List Value).toArray 8) := by
      rw [hh0]
      exact whole_start l hflags hbd ⟨B.exec, B.bytes, B.returns, hml, hown, hts, hX, hbl, B.notSynchronized, hgv⟩
    obtain ⟨t, a1, o, b1, b2, b3⟩ := K s₁ rfl X₀
    exact ⟨t, o, a1, b1, b2, b3⟩
theorem lw_pre_spec {args : Array Value} {s : State} (h : (Jvm.Cond.and given_1 narrow_1).before args s = true) (hr : rest_1_c.before args s = true) : ∃ (b : Addr) (xs : List Int32), lw_P b xs args s := by
  have hs := flat_of_before _ h
  have hq := flat_of_before _ hr
  have hc : (Cond.count 1).before args s = true := hs _ (by decide +kernel)
  have harr : (Cond.arrayOf (.arg 0) .int).before args s = true := hs _ (by decide +kernel)
  have hle : (Cond.le (.length (.arg 0)) (.int 5)).before args s = true := hs _ (by decide +kernel)
  have hlen : (Cond.isInt (.length (.arg 0))).before args s = true := hq _ (by decide +kernel)
  have hall : (Cond.all (.arg 0) (.isInt (.elem (.arg 0) (.index 0)))).before args s = true := hq _ (by decide +kernel)
  obtain ⟨b, xs, hb, hx⟩ := State.ints_of_pre rfl harr hlen hall
  have hsm : xs.length < 2 ^ 31 := hx.choose_spec.2.2.2
  have hev : (Term.length (.arg 0)).eval args s none [] s = some (.int xs.length.toInt32) := hx.length_eval hb
  have hv := Cond.le_ints hev (show (Term.int 5).eval args s none [] s = some (.int 5) from rfl)
  have hd : xs.length.toInt32 ≤ 5 := by
    simpa [Cond.before, Cond.holds, hv] using hle
  have hN : xs.length ≤ 5 := (Int32.ofNat_le_ofNat hsm (by decide)).mp (show Int32.ofNat xs.length ≤ Int32.ofNat 5 from hd)
  exact ⟨b, xs, Cond.one_arg hc (show args[0]? = some (.ref b) from hb), hx, hN, h⟩
theorem lw_comes (l : Launch) (hflags : l.flags = flags0) : Comes l x (Jvm.Cond.code x code maxLocals ret :: tables_1) room_1 (fun tb e args s => Calls_1 tb e args s ∧ rest_1 tb e args s ∧ Pre_1 tb e args s)
    (fun _ _ args s o t => lw_Q args s o t) := by
  intro p e ha hc hk s m args below hf hfit hheap happ hpre
  obtain ⟨b, xs, hP⟩ := lw_pre_spec hpre.2.2 hpre.2.1
  obtain ⟨k, o, h1, h2, h3, hQ⟩ := lw_walk l hflags b xs p e ha hc hk s m args below hf ((Spec.applies_iff_loose hf).mp happ).1 hP trivial
  exact ⟨k, o, h1, h2, h3, hQ⟩
theorem lw_frame {s t : State} {o : Outcome} {args : Array Value} (h : State.butDraws s t lw_cs (fun t1 => Framed s o t1 [] 600002 7302232)) :
    State.butDraws s t [Jvm.Choice.named "NaN.bits"] (fun t1 => Framed s o t1 (fieldLocs frame_1_writes args s ++ arrayLocs frame_1_arrays args s ++ staticLocs frame_1_statics s) 600002 7302232) := h
theorem lw_limb (L : Cond) (hL : ∀ (args : Array Value) (s t : State), L.after args s (.returned (some (.int 1))) t = true) :
    ArmFor flags0 classFile x code maxLocals ret World_1 tables_1 room_1 Calls_1 rest_1 Pre_1
      (fun tb e a s o t => postC L tb e a s o t ∧ State.butDraws s t [Jvm.Choice.named "NaN.bits"] (fun t1 => Framed s o t1 (fieldLocs frame_1_writes a s ++ arrayLocs frame_1_arrays a s ++ staticLocs frame_1_statics s) 600002 7302232)) := by
  intro l hflags _ _ p e ha hc hk s m args below hf hfit hheap happ hpre
  obtain ⟨k, o, h1, h2, h3, rfl, hF⟩ := lw_comes l hflags p e ha hc hk s m args below hf hfit hheap happ hpre
  exact ⟨k, _, h1, h2, h3, hL args s _, lw_frame hF⟩
theorem i_vc : Claimed_1_1 ∧ Claimed_1_2 := ⟨lw_limb limb_1_1 (fun args s t => by simp [limb_1_1, Cond.after, Cond.holds, Cond.value]), lw_limb limb_1_2 (fun args s t => Cond.after_iff.mpr (by
  first | (rw [show limb_1_2 = Cond.eq .result (.int 1) from rfl, Cond.eq_ints (x := 1) (y := 1) rfl rfl]; simp; done) | (simp [limb_1_2, Cond.value, Term.eval]; done)))⟩
end
