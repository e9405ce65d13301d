section
-- ===== PART A: goes FIRST, ahead of the names: the tables' words, and 'selects' of the private methods out of them =====
/-- a private method of a class that the tables say can be made, by its rows of tables_1 -/
def lw_okq (q : MethodName × Nat) : Prop := (q.1.cls ≠ "java/lang/invoke/MethodHandle" ∧ q.1.cls ≠ "java/lang/invoke/VarHandle") ∧ Cond.instantiable q.1.cls q.2 ∈ tables_1 ∧ Cond.privateMethod q.1 ∈ tables_1 ∧ Cond.instanceMethod q.1 ∈ tables_1
theorem lw_p0 : lw_okq (⟨"java/lang/Throwable", "fillInStackTrace", "(I)Ljava/lang/Throwable;"⟩, 6) := ⟨⟨by decide +kernel, by decide +kernel⟩, List.mem_of_getElem? (i := 125) (by decide +kernel), List.mem_of_getElem? (i := 123) (by decide +kernel), List.mem_of_getElem? (i := 124) (by decide +kernel)⟩
theorem lw_p1 : lw_okq (⟨"AtelierBook", "move", "(III)Z"⟩, 17) := ⟨⟨by decide +kernel, by decide +kernel⟩, List.mem_of_getElem? (i := 11) (by decide +kernel), List.mem_of_getElem? (i := 229) (by decide +kernel), List.mem_of_getElem? (i := 230) (by decide +kernel)⟩
theorem lw_p2 : lw_okq (⟨"AtelierBook", "sumOfRow", "(I)I"⟩, 17) := ⟨⟨by decide +kernel, by decide +kernel⟩, List.mem_of_getElem? (i := 11) (by decide +kernel), List.mem_of_getElem? (i := 233) (by decide +kernel), List.mem_of_getElem? (i := 234) (by decide +kernel)⟩
theorem lw_p3 : lw_okq (⟨"AtelierBook", "waste", "(I)I"⟩, 17) := ⟨⟨by decide +kernel, by decide +kernel⟩, List.mem_of_getElem? (i := 11) (by decide +kernel), List.mem_of_getElem? (i := 245) (by decide +kernel), List.mem_of_getElem? (i := 246) (by decide +kernel)⟩
theorem lw_p4 : lw_okq (⟨"AtelierBook", "checkAtHome", "(I)V"⟩, 17) := ⟨⟨by decide +kernel, by decide +kernel⟩, List.mem_of_getElem? (i := 11) (by decide +kernel), List.mem_of_getElem? (i := 264) (by decide +kernel), List.mem_of_getElem? (i := 265) (by decide +kernel)⟩
theorem lw_p5 : lw_okq (⟨"AtelierBook", "isLent", "(I)Z"⟩, 17) := ⟨⟨by decide +kernel, by decide +kernel⟩, List.mem_of_getElem? (i := 11) (by decide +kernel), List.mem_of_getElem? (i := 268) (by decide +kernel), List.mem_of_getElem? (i := 269) (by decide +kernel)⟩
theorem lw_p6 : lw_okq (⟨"AtelierBook", "valueOf", "(I)I"⟩, 17) := ⟨⟨by decide +kernel, by decide +kernel⟩, List.mem_of_getElem? (i := 11) (by decide +kernel), List.mem_of_getElem? (i := 300) (by decide +kernel), List.mem_of_getElem? (i := 301) (by decide +kernel)⟩
theorem lw_p7 : lw_okq (⟨"AtelierBook", "averagePriceOfAlike", "(I)I"⟩, 17) := ⟨⟨by decide +kernel, by decide +kernel⟩, List.mem_of_getElem? (i := 11) (by decide +kernel), List.mem_of_getElem? (i := 304) (by decide +kernel), List.mem_of_getElem? (i := 305) (by decide +kernel)⟩
theorem lw_p8 : lw_okq (⟨"AtelierBook", "mainPigmentOf", "(I)I"⟩, 17) := ⟨⟨by decide +kernel, by decide +kernel⟩, List.mem_of_getElem? (i := 11) (by decide +kernel), List.mem_of_getElem? (i := 308) (by decide +kernel), List.mem_of_getElem? (i := 309) (by decide +kernel)⟩
theorem lw_p9 : lw_okq (⟨"AtelierBook", "mainPigmentOfRow", "(I)I"⟩, 17) := ⟨⟨by decide +kernel, by decide +kernel⟩, List.mem_of_getElem? (i := 11) (by decide +kernel), List.mem_of_getElem? (i := 312) (by decide +kernel), List.mem_of_getElem? (i := 313) (by decide +kernel)⟩
theorem lw_p10 : lw_okq (⟨"AtelierBook", "gramsOfPigment", "(II)I"⟩, 17) := ⟨⟨by decide +kernel, by decide +kernel⟩, List.mem_of_getElem? (i := 11) (by decide +kernel), List.mem_of_getElem? (i := 316) (by decide +kernel), List.mem_of_getElem? (i := 317) (by decide +kernel)⟩
theorem lw_p11 : lw_okq (⟨"AtelierBook", "passForLoan", "(II)V"⟩, 17) := ⟨⟨by decide +kernel, by decide +kernel⟩, List.mem_of_getElem? (i := 11) (by decide +kernel), List.mem_of_getElem? (i := 340) (by decide +kernel), List.mem_of_getElem? (i := 341) (by decide +kernel)⟩
theorem lw_p12 : lw_okq (⟨"AtelierBook", "colourOfRow", "(II)I"⟩, 17) := ⟨⟨by decide +kernel, by decide +kernel⟩, List.mem_of_getElem? (i := 11) (by decide +kernel), List.mem_of_getElem? (i := 371) (by decide +kernel), List.mem_of_getElem? (i := 372) (by decide +kernel)⟩
theorem lw_p13 : lw_okq (⟨"AtelierBook", "colourOfTube", "(II)I"⟩, 17) := ⟨⟨by decide +kernel, by decide +kernel⟩, List.mem_of_getElem? (i := 11) (by decide +kernel), List.mem_of_getElem? (i := 375) (by decide +kernel), List.mem_of_getElem? (i := 376) (by decide +kernel)⟩
theorem lw_p14 : lw_okq (⟨"AtelierBook", "lookOf", "(II)I"⟩, 17) := ⟨⟨by decide +kernel, by decide +kernel⟩, List.mem_of_getElem? (i := 11) (by decide +kernel), List.mem_of_getElem? (i := 386) (by decide +kernel), List.mem_of_getElem? (i := 387) (by decide +kernel)⟩
theorem lw_p15 : lw_okq (⟨"AtelierBook", "sumOfTube", "(III)I"⟩, 17) := ⟨⟨by decide +kernel, by decide +kernel⟩, List.mem_of_getElem? (i := 11) (by decide +kernel), List.mem_of_getElem? (i := 404) (by decide +kernel), List.mem_of_getElem? (i := 405) (by decide +kernel)⟩
def lw_privs_1 : List (MethodName × Nat) := [(⟨"java/lang/Throwable", "fillInStackTrace", "(I)Ljava/lang/Throwable;"⟩, 6), (⟨"AtelierBook", "move", "(III)Z"⟩, 17), (⟨"AtelierBook", "sumOfRow", "(I)I"⟩, 17), (⟨"AtelierBook", "waste", "(I)I"⟩, 17), (⟨"AtelierBook", "checkAtHome", "(I)V"⟩, 17), (⟨"AtelierBook", "isLent", "(I)Z"⟩, 17), (⟨"AtelierBook", "valueOf", "(I)I"⟩, 17), (⟨"AtelierBook", "averagePriceOfAlike", "(I)I"⟩, 17), (⟨"AtelierBook", "mainPigmentOf", "(I)I"⟩, 17), (⟨"AtelierBook", "mainPigmentOfRow", "(I)I"⟩, 17), (⟨"AtelierBook", "gramsOfPigment", "(II)I"⟩, 17), (⟨"AtelierBook", "passForLoan", "(II)V"⟩, 17), (⟨"AtelierBook", "colourOfRow", "(II)I"⟩, 17), (⟨"AtelierBook", "colourOfTube", "(II)I"⟩, 17), (⟨"AtelierBook", "lookOf", "(II)I"⟩, 17), (⟨"AtelierBook", "sumOfTube", "(III)I"⟩, 17)]
theorem lw_r1 : ∀ q ∈ lw_privs_1, lw_okq q := List.forall_mem_cons.mpr ⟨lw_p0, List.forall_mem_cons.mpr ⟨lw_p1, List.forall_mem_cons.mpr ⟨lw_p2, List.forall_mem_cons.mpr ⟨lw_p3, List.forall_mem_cons.mpr ⟨lw_p4, List.forall_mem_cons.mpr ⟨lw_p5, List.forall_mem_cons.mpr ⟨lw_p6, List.forall_mem_cons.mpr ⟨lw_p7, List.forall_mem_cons.mpr ⟨lw_p8, List.forall_mem_cons.mpr ⟨lw_p9, List.forall_mem_cons.mpr ⟨lw_p10, List.forall_mem_cons.mpr ⟨lw_p11, List.forall_mem_cons.mpr ⟨lw_p12, List.forall_mem_cons.mpr ⟨lw_p13, List.forall_mem_cons.mpr ⟨lw_p14, List.forall_mem_cons.mpr ⟨lw_p15, fun _ h => absurd h List.not_mem_nil⟩⟩⟩⟩⟩⟩⟩⟩⟩⟩⟩⟩⟩⟩⟩⟩
theorem lw_p16 : lw_okq (⟨"AtelierBook", "mixed", "(IIII)I"⟩, 17) := ⟨⟨by decide +kernel, by decide +kernel⟩, List.mem_of_getElem? (i := 11) (by decide +kernel), List.mem_of_getElem? (i := 415) (by decide +kernel), List.mem_of_getElem? (i := 416) (by decide +kernel)⟩
theorem lw_p17 : lw_okq (⟨"AtelierBookModel", "isPot", "(I)Z"⟩, 22) := ⟨⟨by decide +kernel, by decide +kernel⟩, List.mem_of_getElem? (i := 429) (by decide +kernel), List.mem_of_getElem? (i := 528) (by decide +kernel), List.mem_of_getElem? (i := 529) (by decide +kernel)⟩
theorem lw_p18 : lw_okq (⟨"AtelierBookModel", "isTube", "(I)Z"⟩, 22) := ⟨⟨by decide +kernel, by decide +kernel⟩, List.mem_of_getElem? (i := 429) (by decide +kernel), List.mem_of_getElem? (i := 532) (by decide +kernel), List.mem_of_getElem? (i := 533) (by decide +kernel)⟩
theorem lw_p19 : lw_okq (⟨"AtelierBookModel", "gramsOf", "(I)I"⟩, 22) := ⟨⟨by decide +kernel, by decide +kernel⟩, List.mem_of_getElem? (i := 429) (by decide +kernel), List.mem_of_getElem? (i := 540) (by decide +kernel), List.mem_of_getElem? (i := 541) (by decide +kernel)⟩
theorem lw_p20 : lw_okq (⟨"AtelierBookModel", "flows", "(II)V"⟩, 22) := ⟨⟨by decide +kernel, by decide +kernel⟩, List.mem_of_getElem? (i := 429) (by decide +kernel), List.mem_of_getElem? (i := 544) (by decide +kernel), List.mem_of_getElem? (i := 545) (by decide +kernel)⟩
theorem lw_p21 : lw_okq (⟨"AtelierBookModel", "isPicture", "(I)Z"⟩, 22) := ⟨⟨by decide +kernel, by decide +kernel⟩, List.mem_of_getElem? (i := 429) (by decide +kernel), List.mem_of_getElem? (i := 560) (by decide +kernel), List.mem_of_getElem? (i := 561) (by decide +kernel)⟩
theorem lw_p22 : lw_okq (⟨"AtelierBookModel", "value", "(I)I"⟩, 22) := ⟨⟨by decide +kernel, by decide +kernel⟩, List.mem_of_getElem? (i := 429) (by decide +kernel), List.mem_of_getElem? (i := 582) (by decide +kernel), List.mem_of_getElem? (i := 583) (by decide +kernel)⟩
theorem lw_p23 : lw_okq (⟨"AtelierBookModel", "main", "(I)I"⟩, 22) := ⟨⟨by decide +kernel, by decide +kernel⟩, List.mem_of_getElem? (i := 429) (by decide +kernel), List.mem_of_getElem? (i := 586) (by decide +kernel), List.mem_of_getElem? (i := 587) (by decide +kernel)⟩
theorem lw_p24 : lw_okq (⟨"AtelierBookModel", "passOne", "()V"⟩, 22) := ⟨⟨by decide +kernel, by decide +kernel⟩, List.mem_of_getElem? (i := 429) (by decide +kernel), List.mem_of_getElem? (i := 599) (by decide +kernel), List.mem_of_getElem? (i := 600) (by decide +kernel)⟩
theorem lw_p25 : lw_okq (⟨"AtelierBookModel", "look", "(II)I"⟩, 22) := ⟨⟨by decide +kernel, by decide +kernel⟩, List.mem_of_getElem? (i := 429) (by decide +kernel), List.mem_of_getElem? (i := 619) (by decide +kernel), List.mem_of_getElem? (i := 620) (by decide +kernel)⟩
theorem lw_p26 : lw_okq (⟨"AtelierBookModel", "inPots", "(I)I"⟩, 22) := ⟨⟨by decide +kernel, by decide +kernel⟩, List.mem_of_getElem? (i := 429) (by decide +kernel), List.mem_of_getElem? (i := 631) (by decide +kernel), List.mem_of_getElem? (i := 632) (by decide +kernel)⟩
theorem lw_p27 : lw_okq (⟨"AtelierBookModel", "onPictures", "(I)I"⟩, 22) := ⟨⟨by decide +kernel, by decide +kernel⟩, List.mem_of_getElem? (i := 429) (by decide +kernel), List.mem_of_getElem? (i := 635) (by decide +kernel), List.mem_of_getElem? (i := 636) (by decide +kernel)⟩
theorem lw_p28 : lw_okq (⟨"AtelierBookModel", "far", "(IIIII)I"⟩, 22) := ⟨⟨by decide +kernel, by decide +kernel⟩, List.mem_of_getElem? (i := 429) (by decide +kernel), List.mem_of_getElem? (i := 643) (by decide +kernel), List.mem_of_getElem? (i := 644) (by decide +kernel)⟩
def lw_privs_2 : List (MethodName × Nat) := [(⟨"AtelierBook", "mixed", "(IIII)I"⟩, 17), (⟨"AtelierBookModel", "isPot", "(I)Z"⟩, 22), (⟨"AtelierBookModel", "isTube", "(I)Z"⟩, 22), (⟨"AtelierBookModel", "gramsOf", "(I)I"⟩, 22), (⟨"AtelierBookModel", "flows", "(II)V"⟩, 22), (⟨"AtelierBookModel", "isPicture", "(I)Z"⟩, 22), (⟨"AtelierBookModel", "value", "(I)I"⟩, 22), (⟨"AtelierBookModel", "main", "(I)I"⟩, 22), (⟨"AtelierBookModel", "passOne", "()V"⟩, 22), (⟨"AtelierBookModel", "look", "(II)I"⟩, 22), (⟨"AtelierBookModel", "inPots", "(I)I"⟩, 22), (⟨"AtelierBookModel", "onPictures", "(I)I"⟩, 22), (⟨"AtelierBookModel", "far", "(IIIII)I"⟩, 22)]
theorem lw_r2 : ∀ q ∈ lw_privs_2, lw_okq q := List.forall_mem_cons.mpr ⟨lw_p16, List.forall_mem_cons.mpr ⟨lw_p17, List.forall_mem_cons.mpr ⟨lw_p18, List.forall_mem_cons.mpr ⟨lw_p19, List.forall_mem_cons.mpr ⟨lw_p20, List.forall_mem_cons.mpr ⟨lw_p21, List.forall_mem_cons.mpr ⟨lw_p22, List.forall_mem_cons.mpr ⟨lw_p23, List.forall_mem_cons.mpr ⟨lw_p24, List.forall_mem_cons.mpr ⟨lw_p25, List.forall_mem_cons.mpr ⟨lw_p26, List.forall_mem_cons.mpr ⟨lw_p27, List.forall_mem_cons.mpr ⟨lw_p28, fun _ h => absurd h List.not_mem_nil⟩⟩⟩⟩⟩⟩⟩⟩⟩⟩⟩⟩⟩
def lw_privs : List (MethodName × Nat) := lw_privs_1 ++ (lw_privs_2)
def lw_tbl : List Cond := k2_sels lw_privs ++ tables_1
theorem lw_privs_ok : ∀ q ∈ lw_privs, lw_okq q := by
  show ∀ q ∈ lw_privs_1 ++ (lw_privs_2), lw_okq q
  exact List.forall_mem_append.mpr ⟨lw_r1, lw_r2⟩
-- ===== end of PART A; then your names; then what follows =====
end
section
/-! ===== BEGIN words of one list among another's, by their places ===== -/
theorem goodIn_r {big : List Cond} (ws : List Cond) (ps : List Nat) (hp : ws = ps.filterMap (fun i => big[i]?)) (h : ws.all goodWord = true) : GoodIn big ws := by
  intro w hw
  have h1 := List.all_eq_true.mp h w hw
  rw [hp] at hw
  obtain ⟨i, -, hi⟩ := List.mem_filterMap.mp hw
  have hm : w ∈ big := by first | exact List.mem_of_getElem? hi | exact List.getElem?_mem hi
  exact ⟨hm, good_of_word h1⟩
theorem goodIn_app {big a b : List Cond} (ha : GoodIn big a) (hb : GoodIn big b) : GoodIn big (a ++ b) := fun w h => (List.mem_append.mp h).elim (ha w) (hb w)
theorem goodIn_ca {big a b : List Cond} {c : Cond} (ha : GoodIn big (c :: a)) (hb : GoodIn big b) : GoodIn big (c :: (a ++ b)) := fun w h => (List.mem_cons.mp h).elim (fun e => ha w (List.mem_cons.mpr (Or.inl e))) (fun h => (List.mem_append.mp h).elim (fun h => ha w (List.mem_cons.mpr (Or.inr h))) (hb w))
theorem goodIn_sub {big ws : List Cond} (hm : ∀ w ∈ ws, w ∈ big) (h : ws.all goodWord = true) : GoodIn big ws := fun w hw => ⟨hm w hw, good_of_word (List.all_eq_true.mp h w hw)⟩
/-! ===== END ===== -/

/-! ===== BEGIN exceptions that leave a method, and their catching by the caller (launches without stack traces) ===== -/
section VXA
/-! The laws vx_back, vx_callV, vx_callS, vx_callSW, vx_throw0, vx_throwS follow proofs of the library, with one case more: JvmDerived/Free/Laws.lean (Back.of_free), Shelf42/LK1.lean (callV, callS), Shelf/KitTraced.lean (throwNew0V, throwNewS). -/
/-- where a method has thrown q: the class by its name, the cell, what was written, the world -/
def vx_T (XC : String → State → State → Prop) (st : State) (q : Addr) (t : State) (mc ms : Nat) (free : Addr → Prop) : Prop :=
  ∃ (E : String) (ce : Cell) (L : List Loc), XC E st t ∧ t.heap[q]? = some ce ∧ ce.vm = .none ∧ st.vm.findClass E = some ce.cls ∧ st.WarmedH t.vm ∧ st.sameButNew ({ t with vm := st.vm } : State) L mc ms ∧ ∀ z ∈ L, free z.base
def vx_Q (Qc : Array Value → State → Outcome → State → Prop) (XC : String → State → State → Prop) (mc ms : Nat) (free : Addr → Prop) : Array Value → State → Outcome → State → Prop := fun a st o t =>
  (Qc a st o t ∧ ∃ L, FrameEnd st o t L mc ms ∧ ∀ q ∈ L, free q.base) ∨ ∃ q, o = .threw q ∧ vx_T XC st q t mc ms free
/-- a callee that returns or throws -/
def vx_Met (l : Launch) (y : MethodName) (ws : List Cond) (rm : Room) (Pc : Array Value → State → Prop) (Qc : Array Value → State → Outcome → State → Prop) (XC : String → State → State → Prop) (mc ms : Nat) (free : Addr → Prop) : Prop :=
  MetFree l y (headSpec ws rm) Pc (fun _ _ _ _ _ => True) (vx_Q Qc XC mc ms free)
def vx_Post (XC : String → State → State → Prop) (mc ms : Nat) (free : Addr → Prop) : Pt → Array Value → Addr → Pt → Prop := fun A a q B =>
  ∃ (g : JFrame) (mk : MethodId) (t : State) (L : List Loc) (E : String) (ce : Cell), B.U.heap = t.heap ∧ B.U.vm = t.vm ∧ XC E (A.U.calling g mk a) t ∧ t.heap[q]? = some ce ∧ ce.vm = .none ∧ A.U.vm.findClass E = some ce.cls ∧ B.locs = A.locs ++ L ∧ (∀ z ∈ L, free z.base) ∧ B.cells = A.cells + mc ∧ B.slots = A.slots + ms
def vx_Back (l : Launch) (R : Room) (p : Program) (e : Env) (below : List Frame) (s : State) (sargs : Array Value) (y : MethodName) (len W9 : Nat)
    (Pre : Pt → Array Value → Prop) (Post : Pt → Array Value → Option Value → Pt → Prop) (PostX : Pt → Array Value → Addr → Pt → Prop) : Prop :=
  ∀ (m : MethodId) (meth : Method) (c : Code) (A : Pt) (g : JFrame) (ig : Instr) (mk : MethodId) (a : Array Value),
    Stand p l e R s m sargs below meth c A.U A.locs A.cells A.slots → g.method = m → g.locals.size = c.maxLocals → decode c.code g.pc = .ok (ig, len) →
    2 * g.monitorRoom + (g.stack.map fun v => v.category).sum ≤ W9 → A.U.methodNamed? y = some mk → Pre A a →
    (∃ (v : Option Value) (B : Pt), Stand p l e R s m sargs below meth c B.U B.locs B.cells B.slots ∧ Post A a v B ∧
      Steps p.tables e below (doInvoke e (A.U.setTop g) [] mk a).1 (B.U.setTop { g with pc := g.pc + len, stack := v.toList ++ g.stack })) ∨
    (∃ (q : Addr) (B : Pt), Stand p l e R s m sargs below meth c B.U B.locs B.cells B.slots ∧ PostX A a q B ∧
      Steps p.tables e below (doInvoke e (A.U.setTop g) [] mk a).1 ((B.U.setTop g).pushFrame (.throwing q)))
section Payer
variable {l : Launch} {R : Room} {p : Program} {e : Env} {below : List Frame} {s : State} {sargs : Array Value} {y : MethodName} {len W9 : Nat}
theorem vx_back {ws : List Cond} {rm : Room} {Pc : Array Value → State → Prop} {Qc : Array Value → State → Outcome → State → Prop} {XC : String → State → State → Prop} {mc ms : Nat} {free : Addr → Prop} {bytes : ByteArray} {maxL : Nat} {ret : Option FieldType}
    (hM : vx_Met l y ws rm Pc Qc XC mc ms free) (hblind : FrameBlind Pc) (hrc : rm.cells = mc) (hrs : rm.slots = ms)
    (hframes : rm.frames + 1 ≤ R.frames) (hlocals : W9 + (maxL + 11) + rm.locals ≤ R.locals)
    (hws : ∀ w ∈ ws, ∀ a' U, s.WarmedH U.vm → w.before a' U = true) (hcode : Cond.code y bytes maxL ret ∈ ws) (hinit : ∀ a' U, s.WarmedH U.vm → (Cond.initialized y.cls).before a' U = true) :
    vx_Back l R p e below s sargs y len W9 (PreOf R mc ms Pc) (PostOf Qc mc ms free) (vx_Post XC mc ms free) := by
  intro m meth c A g ig mk a X hg hsize hdg hW hn hp
  have h1 : (headSpec ws rm).pre.before a A.U = true := atoms_intro fun w hw => hws w hw _ _ X.warmed
  have h2 : (Cond.code y bytes maxL ret).before a A.U = true := hws _ hcode _ _ X.warmed
  have h3 : (Cond.initialized y.cls).before a A.U = true := hinit _ _ X.warmed
  have h4 : A.cells + (headSpec ws rm).room.cells ≤ R.cells := by rw [show (headSpec ws rm).room.cells = mc from hrc]; exact hp.1
  have h5 : A.slots + (headSpec ws rm).room.slots ≤ R.slots := by rw [show (headSpec ws rm).room.slots = ms from hrs]; exact hp.2.1
  have hPc : Pc a (A.U.calling g mk a) := hblind _ _ _ _ hp.2.2
  obtain ⟨U, Ls, c0, s0⟩ := A
  dsimp only [Pt.U, Pt.locs, Pt.cells, Pt.slots] at h1 h2 h3 h4 h5 X hn hPc ⊢
  obtain ⟨methY, cY, hmY, hcY, -, hlY, -, -, -, -⟩ := Cond.code_spec hn h2
  obtain ⟨kY, hkY, -⟩ := className_of_methodNamed hn
  have hinitY : kY.init = .initialized := Cond.initialized_spec (findClass_of_methodNamed hn) hkY h3
  have h : At U g.method c below := by rw [hg]; exact X.here
  have hlocals9 : W9 + (maxL + 11) + (headSpec ws rm).room.locals ≤ R.locals := hlocals
  have happ : (headSpec ws rm).appliesLoose y e.platform (U.calling g mk a) = true :=
    Spec.appliesLoose_calling (g := g) h hdg hn hkY hinitY
      (X.room_calling (g := g) (R' := (headSpec ws rm).room) hsize hmY hcY hframes (by rw [hlY]; omega) h4 h5) h1
  obtain ⟨mid, hmid⟩ := h.above
  have hfr : (U.setTop g).frames = (.java g :: mid) ++ below := by rw [State.frames_setTop' g h.top, hmid]; rfl
  obtain ⟨o, s₂, hsteps, -, hend, hq⟩ := Steps.callFree hM p X.admits X.cas X.clock (acts := []) hfr happ hPc trivial
  have hq' : vx_Q Qc XC mc ms free a (U.calling g mk a) o s₂ := hq
  rw [State.frames_setTop' g h.top] at hend
  obtain ⟨g₀, hg0⟩ := Option.isSome_iff_exists.mp h.top
  obtain ⟨r, hr⟩ := State.topJava?_eq_some.mp hg0
  have hr' : (({ U with heap := s₂.heap, slotsUsed := s₂.slotsUsed } : State).setVm s₂.vm).frames = .java g₀ :: r := hr
  rcases hq' with ⟨hqc, L, hfe, hL⟩ | ⟨q, rfl, E, ce, L, hx, hce, hcv, hcl, hW₂, hsm, hL⟩
  · obtain ⟨⟨v, rfl⟩, hW₂, e2, q2, q3, q4, q5, q6⟩ := id hfe
    have e3 : s₂ = ({ (U.calling g mk a).setFrames s₂.frames with heap := s₂.heap, slotsUsed := s₂.slotsUsed } : State).setVm s₂.vm := by
      have : s₂ = ({ s₂ with vm := (U.calling g mk a).vm } : State).setVm s₂.vm := rfl
      rw [e2] at this
      exact this
    obtain ⟨c₂, i₂, len₂, hc₂, hd₂, hf₂⟩ := hend
    have hW' : U.WarmedH s₂.vm := hW₂
    have hcc : c₂ = c := by
      have h1 : s₂.code? g.method = U.code? g.method := by
        rw [State.code?_eq, State.code?_eq, hW'.alike.method?]
      exact Option.some.inj (hc₂.symm.trans (h1.trans h.code))
    subst hcc
    have hlen : len₂ = len := by rw [hdg] at hd₂; cases hd₂; rfl
    subst hlen
    have hs₂ : s₂ = (({ U with heap := s₂.heap, slotsUsed := s₂.slotsUsed } : State).setVm s₂.vm).setTop { g with pc := g.pc + len₂, stack := v.toList ++ g.stack } := by
      refine e3.trans ?_
      rw [hf₂, State.calling_eq h.top, State.setFrames_setFrames, State.setTop_of_frames _ hr', hr]
      rfl
    have hsame : U.sameButNew ({ U with heap := s₂.heap, slotsUsed := s₂.slotsUsed } : State) L mc ms := by
      refine ⟨?_, q2, q3, q4, q5, q6⟩
      obtain ⟨t, ht, -⟩ := State.frames_cons hr
      show ({ U with heap := s₂.heap, slotsUsed := s₂.slotsUsed } : State) = { U.setFrames U.frames with heap := s₂.heap, slotsUsed := s₂.slotsUsed }
      rw [State.setFrames_self ht]
    subst hg
    refine Or.inl ⟨v, ⟨(({ U with heap := s₂.heap, slotsUsed := s₂.slotsUsed } : State).setVm s₂.vm), Ls ++ L, c0 + mc, s0 + ms⟩,
      ⟨X.admits, X.cas, X.clock, X.frames, X.room, X.hears, X.method, X.code, (X.here.setHeapUsed s₂.heap s₂.slotsUsed).setVm hW'.alike, X.tail, State.WarmedH.trans X.warmed hW', X.limits, X.bytes, X.same.trans (hsame.setVm s.vm)⟩,
      ⟨g, mk, s₂, L, rfl, rfl, hqc, rfl, hL, rfl, rfl⟩, ?_⟩
    show Steps p.tables e below _ ((({ U with heap := s₂.heap, slotsUsed := s₂.slotsUsed } : State).setVm s₂.vm).setTop { g with pc := g.pc + len₂, stack := v.toList ++ g.stack })
    rw [← hs₂]
    exact hsteps
  · obtain ⟨e2, q2, q3, q4, q5, q6⟩ := id hsm
    have e3 : s₂ = ({ (U.calling g mk a).setFrames s₂.frames with heap := s₂.heap, slotsUsed := s₂.slotsUsed } : State).setVm s₂.vm := by
      have : s₂ = ({ s₂ with vm := (U.calling g mk a).vm } : State).setVm s₂.vm := rfl
      rw [e2] at this
      exact this
    have hf₂ : s₂.frames = .throwing q :: .java g :: U.frames.tail := hend
    have hW' : U.WarmedH s₂.vm := hW₂
    have hs₂ : s₂ = ((({ U with heap := s₂.heap, slotsUsed := s₂.slotsUsed } : State).setVm s₂.vm).setTop g).pushFrame (.throwing q) := by
      refine e3.trans ?_
      rw [hf₂, State.calling_eq h.top, State.setFrames_setFrames, State.pushFrame, State.frames_setTop _ hr', State.setTop_of_frames _ hr', State.setFrames_setFrames, hr]
      rfl
    have hsame : U.sameButNew ({ U with heap := s₂.heap, slotsUsed := s₂.slotsUsed } : State) L mc ms := by
      refine ⟨?_, q2, q3, q4, q5, q6⟩
      obtain ⟨t, ht, -⟩ := State.frames_cons hr
      show ({ U with heap := s₂.heap, slotsUsed := s₂.slotsUsed } : State) = { U.setFrames U.frames with heap := s₂.heap, slotsUsed := s₂.slotsUsed }
      rw [State.setFrames_self ht]
    subst hg
    refine Or.inr ⟨q, ⟨(({ U with heap := s₂.heap, slotsUsed := s₂.slotsUsed } : State).setVm s₂.vm), Ls ++ L, c0 + mc, s0 + ms⟩,
      ⟨X.admits, X.cas, X.clock, X.frames, X.room, X.hears, X.method, X.code, (X.here.setHeapUsed s₂.heap s₂.slotsUsed).setVm hW'.alike, X.tail, State.WarmedH.trans X.warmed hW', X.limits, X.bytes, X.same.trans (hsame.setVm s.vm)⟩,
      ⟨g, mk, s₂, L, E, ce, rfl, rfl, hx, hce, hcv, hcl, rfl, hL, rfl, rfl⟩, ?_⟩
    show Steps p.tables e below _ (((({ U with heap := s₂.heap, slotsUsed := s₂.slotsUsed } : State).setVm s₂.vm).setTop g).pushFrame (.throwing q))
    rw [← hs₂]
    exact hsteps
end Payer
section Calls
variable {p : Program} {l : Launch} {e : Env} {R : Room} {s : State} {m : MethodId} {args : Array Value} {below : List Frame} {meth : Method} {c : Code} {T : State} {locs : List Loc} {cells slots : Nat}
theorem vx_callV (X : Stand p l e R s m args below meth c T locs cells slots) (hexec : p.tables.exec = Jvm.exec) {own C : String} {index : Nat} {y : MethodName} {bytes : ByteArray} {maxL : Nat} {ret : Option FieldType}
    (hown : s.vm.findClass own = some m.cls) (hlink : (Cond.methodLink own index y).before args s = true) (hinst : (Cond.instanceMethod y).before args s = true) (hsel : (Cond.selects C y y).before args s = true)
    (hcode : (Cond.code y bytes maxL ret).before args s = true) (hy : y.cls ≠ "java/lang/invoke/MethodHandle" ∧ y.cls ≠ "java/lang/invoke/VarHandle")
    {W9 : Nat} {Pre : Pt → Array Value → Prop} {Post : Pt → Array Value → Option Value → Pt → Prop} {PostX : Pt → Array Value → Addr → Pt → Prop} (hK : vx_Back l R p e below s args y 3 W9 Pre Post PostX)
    {b : Addr} {cellB : Cell} (hcell : T.heap[b]? = some cellB) (hobj : cellB.vm.isStatics = false) (hcls : s.vm.findClass C = some cellB.cls)
    {g : JFrame} (hg : g.method = m) (hsize : g.locals.size = c.maxLocals) {argsL rest : List Value} (hlen : ∀ sig, parseMethodDescriptor y.desc = some sig → argsL.length = sig.parameters.length)
    (hstack : g.stack = argsL.reverse ++ .ref b :: rest) (hW : 2 * g.monitorRoom + (rest.map fun v => v.category).sum ≤ W9) (hdg : decode c.code g.pc = .ok (.invokevirtual index, 3))
    (hpre : ∀ vm₁, s.WarmedH vm₁ → Pre ⟨T.setVm vm₁, locs, cells, slots⟩ (Value.ref b :: argsL).toArray) :
    (∃ (v : Option Value) (vm₁ : Vm) (B : Pt), s.WarmedH vm₁ ∧ Stand p l e R s m args below meth c B.U B.locs B.cells B.slots ∧ Post ⟨T.setVm vm₁, locs, cells, slots⟩ (Value.ref b :: argsL).toArray v B ∧
      ∀ target, Steps p.tables e below (B.U.setTop { g with pc := g.pc + 3, stack := v.toList ++ rest }) target → Steps p.tables e below (T.setTop g) target) ∨
    (∃ (q : Addr) (vm₁ : Vm) (B : Pt), s.WarmedH vm₁ ∧ Stand p l e R s m args below meth c B.U B.locs B.cells B.slots ∧ PostX ⟨T.setVm vm₁, locs, cells, slots⟩ (Value.ref b :: argsL).toArray q B ∧
      Steps p.tables e below (T.setTop g) ((B.U.setTop { g with stack := rest }).pushFrame (.throwing q))) := by
  obtain ⟨mk, methM, hnamed, hmethM, hstM, habM⟩ := Cond.instanceMethod_spec hinst
  obtain ⟨methM', cM, hmethM', -, -, -, -, -, -, hsigM⟩ := Cond.code_spec hnamed hcode
  cases hmethM.symm.trans hmethM'
  obtain ⟨c2, r2, m2, q1, q2, q3, q4, kP, hkP, hkPi⟩ := Cond.selects_spec hsel
  cases hcls.symm.trans q1
  cases (State.methodFound?_of_named hnamed hy).symm.trans q2
  cases hnamed.symm.trans q3
  have hselP : selectMethod e.platform s.vm cellB.cls mk = .method mk := by rw [Launch.admits_selectMethod X.admits]; exact q4
  obtain ⟨vm₁, X₁, hstep₁⟩ := X.invokevirtual hexec hown hlink hnamed hmethM hstM hkP hkPi hy (a := b) (cell := cellB) hcell
    (fun z h => by rw [h] at hobj; cases hobj) hselP hmethM habM hkP hkPi (g := g) hg (argsL := argsL) (rest := rest) (hlen _ hsigM) hstack hdg
  rcases hK m meth c ⟨T.setVm vm₁, locs, cells, slots⟩ { g with stack := rest } (.invokevirtual index) mk (Value.ref b :: argsL).toArray X₁ hg hsize hdg hW (X₁.named hnamed) (hpre vm₁ X₁.warmed) with ⟨v, B, X', hpost, hsteps⟩ | ⟨q, B, X', hpost, hsteps⟩
  · exact Or.inl ⟨v, vm₁, B, X₁.warmed, X', hpost, fun target h => hstep₁ _ fun acts => by rw [doInvoke_state]; exact hsteps.trans h⟩
  · exact Or.inr ⟨q, vm₁, B, X₁.warmed, X', hpost, hstep₁ _ fun acts => by rw [doInvoke_state]; exact hsteps⟩
theorem vx_callS (X : Stand p l e R s m args below meth c T locs cells slots) (hexec : p.tables.exec = Jvm.exec) {own : String} {index : Nat} {y : MethodName} {bytes : ByteArray} {maxL : Nat} {ret : Option FieldType}
    (hown : s.vm.findClass own = some m.cls) (hlink : (Cond.methodLink own index y).before args s = true) (hstat : (Cond.static y).before args s = true) (hinit : (Cond.initialized y.cls).before args s = true)
    (hcode : (Cond.code y bytes maxL ret).before args s = true) (hy : y.cls ≠ "java/lang/invoke/MethodHandle" ∧ y.cls ≠ "java/lang/invoke/VarHandle")
    {W9 : Nat} {Pre : Pt → Array Value → Prop} {Post : Pt → Array Value → Option Value → Pt → Prop} {PostX : Pt → Array Value → Addr → Pt → Prop} (hK : vx_Back l R p e below s args y 3 W9 Pre Post PostX)
    {g : JFrame} (hg : g.method = m) (hsize : g.locals.size = c.maxLocals) {argsL rest : List Value} (hlen : ∀ sig, parseMethodDescriptor y.desc = some sig → argsL.length = sig.parameters.length)
    (hstack : g.stack = argsL.reverse ++ rest) (hW : 2 * g.monitorRoom + (rest.map fun v => v.category).sum ≤ W9) (hdg : decode c.code g.pc = .ok (.invokestatic index, 3))
    (hpre : ∀ vm₁, s.WarmedH vm₁ → Pre ⟨T.setVm vm₁, locs, cells, slots⟩ argsL.toArray) :
    (∃ (v : Option Value) (vm₁ : Vm) (B : Pt), s.WarmedH vm₁ ∧ Stand p l e R s m args below meth c B.U B.locs B.cells B.slots ∧ Post ⟨T.setVm vm₁, locs, cells, slots⟩ argsL.toArray v B ∧
      ∀ target, Steps p.tables e below (B.U.setTop { g with pc := g.pc + 3, stack := v.toList ++ rest }) target → Steps p.tables e below (T.setTop g) target) ∨
    (∃ (q : Addr) (vm₁ : Vm) (B : Pt), s.WarmedH vm₁ ∧ Stand p l e R s m args below meth c B.U B.locs B.cells B.slots ∧ PostX ⟨T.setVm vm₁, locs, cells, slots⟩ argsL.toArray q B ∧
      Steps p.tables e below (T.setTop g) ((B.U.setTop { g with stack := rest }).pushFrame (.throwing q))) := by
  obtain ⟨mk, hnamed⟩ := Cond.code_named hcode
  obtain ⟨methM, cM, hmethM, -, -, -, -, -, -, hsigM⟩ := Cond.code_spec hnamed hcode
  have hstatic : methM.isStatic = true := Cond.static_spec hnamed hmethM hstat
  obtain ⟨kP, hkP, -⟩ := className_of_methodNamed hnamed
  have hinitP : kP.init = .initialized := Cond.initialized_spec (findClass_of_methodNamed hnamed) hkP hinit
  obtain ⟨vm₁, X₁, hstep₁⟩ := X.invokestatic hexec hown hlink hnamed hmethM hstatic hkP hinitP hy (g := g) hg (argsL := argsL) (rest := rest) (hlen _ hsigM) hstack hdg
  rcases hK m meth c ⟨T.setVm vm₁, locs, cells, slots⟩ { g with stack := rest } (.invokestatic index) mk argsL.toArray X₁ hg hsize hdg hW (X₁.named hnamed) (hpre vm₁ X₁.warmed) with ⟨v, B, X', hpost, hsteps⟩ | ⟨q, B, X', hpost, hsteps⟩
  · exact Or.inl ⟨v, vm₁, B, X₁.warmed, X', hpost, fun target h => hstep₁ _ fun acts => by rw [doInvoke_state]; exact hsteps.trans h⟩
  · exact Or.inr ⟨q, vm₁, B, X₁.warmed, X', hpost, hstep₁ _ fun acts => by rw [doInvoke_state]; exact hsteps⟩
end Calls
theorem vx_cls {s : State} {T : State} {vm₁ : Vm} {E : String} {k : ClassId} (hW : s.WarmedH vm₁) (h : (T.setVm vm₁).vm.findClass E = some k) : s.vm.findClass E = some k := by
  have h1 : vm₁.findClass E = some k := h
  rw [hW.alike.findClass] at h1
  exact h1
/-- the method's frame g, with q thrown over it -/
def vx_W (p : Program) (l : Launch) (e : Env) (R : Room) (s : State) (m : MethodId) (args : Array Value) (below : List Frame) (meth : Method) (c : Code) (H : Heap) (locs : List Loc) (cells slots : Nat) (Q : State → Prop) (g : JFrame) (q : Addr) : Prop :=
  ∀ T : State, T.heap = H → Stand p l e R s m args below meth c T locs cells slots → ∃ t, Steps p.tables e below ((T.setTop g).pushFrame (.throwing q)) t ∧ Q t
def vx_Run (p : Program) (l : Launch) (e : Env) (R : Room) (s : State) (m : MethodId) (args : Array Value) (below : List Frame) (meth : Method) (c : Code) (H : Heap) (locs : List Loc) (cells slots mc ms : Nat) (g : JFrame) (rest : List Value) (Qa : State → Outcome → State → Prop) (XC : String → State → State → Prop) (free : Addr → Prop) : Prop :=
  ∀ T : State, T.heap = H → Stand p l e R s m args below meth c T locs cells slots →
    (∃ (v : Option Value) (st₀ t T' : State) (L : List Loc), st₀.heap = H ∧ Stand p l e R s m args below meth c T' (locs ++ L) (cells + mc) (slots + ms) ∧ (∀ q ∈ L, free q.base) ∧ T'.heap = t.heap ∧ T'.vm = t.vm ∧ Qa st₀ (.returned v) t ∧
      Goes p e below T g T' { g with pc := g.pc + 3, stack := v.toList ++ rest }) ∨
    (∃ (q : Addr) (st₀ t T' : State) (L : List Loc) (E : String) (ce : Cell), st₀.heap = H ∧ Stand p l e R s m args below meth c T' (locs ++ L) (cells + mc) (slots + ms) ∧ (∀ z ∈ L, free z.base) ∧ T'.heap = t.heap ∧ T'.vm = t.vm ∧ XC E st₀ t ∧ t.heap[q]? = some ce ∧ ce.vm = .none ∧ s.vm.findClass E = some ce.cls ∧
      Steps p.tables e below (T.setTop g) ((T'.setTop { g with stack := rest }).pushFrame (.throwing q)))
def vx_X {S : Type} (px : S → Prop) (B : String → S → State → Prop) (A : Nat → Prop) : String → State → State → Prop := fun E st t => ∃ u : S, px u ∧ B E u t ∧ va_F A st t
section Runs
variable {p : Program} {l : Launch} {e : Env} {R : Room} {s : State} {m : MethodId} {args : Array Value} {below : List Frame} {meth : Method} {c : Code} {H : Heap} {locs : List Loc} {cells slots : Nat}
variable {y : MethodName} {bytes cc : ByteArray} {maxL nL mc ms n index : Nat} {ret : Option FieldType} {ws : List Cond} {rm : Room} {Pc : Array Value → State → Prop} {Qc : Array Value → State → Outcome → State → Prop} {XC : String → State → State → Prop} {free : Addr → Prop} {Ts : List Cond} {own C : String} {b : Addr} {As rest : List Value} {g : JFrame}
theorem vx_callBack (cb : CallB R s args own index y bytes maxL ret ws rm mc ms n) (hM : vx_Met l y ws rm Pc Qc XC mc ms free) (hbl : FrameBlind Pc) : vx_Back l R p e below s args y 3 8 (PreOf R mc ms Pc) (PostOf Qc mc ms free) (vx_Post XC mc ms free) := by
  obtain ⟨hrc, hrs, hfr, hlo, hws, hcw, -, hini, -⟩ := cb
  exact vx_back (bytes := bytes) (maxL := maxL) (ret := ret) hM hbl hrc hrs hfr hlo hws hcw (fun a' U hW => word_at hW (Or.inl (by first | rfl | simp [Cond.onTables, Cond.keeps, Cond.steady])) hini)
theorem vx_runV (S : CallFix p m c cc nL s args Ts own) (hM : vx_Met l y ws rm Pc Qc XC mc ms free) (cw : CallW R s args own C index y bytes maxL ret ws rm mc ms n) (hp : PreV s H C b Pc As)
    (hg : g.method = m) (hn : As.length = n) (hsize : g.locals.size = nL) (hstack : g.stack = As.reverse ++ .ref b :: rest) (hW : 2 * g.monitorRoom + (rest.map fun v => v.category).sum ≤ 8) (hdg : decode cc g.pc = .ok (.invokevirtual index, 3)) (hf : cells + mc ≤ R.cells ∧ slots + ms ≤ R.slots) :
    vx_Run p l e R s m args below meth c H locs cells slots mc ms g rest (Qc (Value.ref b :: As).toArray) XC free := by
  have hK : vx_Back l R p e below s args y 3 8 (PreOf R mc ms Pc) (PostOf Qc mc ms free) (vx_Post XC mc ms free) := vx_callBack cw.1 hM hp.1
  obtain ⟨⟨-, -, -, -, -, -, hcode, -, hy, hlen, hl⟩, hin, hse⟩ := cw
  obtain ⟨hx, hb, hml, ho, -⟩ := S
  obtain ⟨-, ⟨cellB, hcB, hoB, hclB⟩, hPc⟩ := hp
  intro T hT X
  rcases vx_callV X hx (C := C) (bytes := bytes) (maxL := maxL) (ret := ret) ho hl hin hse hcode hy hK (by rw [hT]; exact hcB) hoB hclB hg (hsize.trans hml.symm) (argsL := As) (rest := rest) (fun sig h => hn.trans (hlen sig h)) hstack hW (by rw [hb]; exact hdg)
    (fun vm₁ hW₁ => ⟨hf.1, hf.2, hPc (T.setVm vm₁) hT hW₁⟩) with ⟨v, vm₁, ⟨U', l2, c2, s2⟩, hW₁, X', ⟨g', mk, t, L, e1, e2, hq, h1, hL, h2, h3⟩, st⟩ | ⟨q, vm₁, ⟨U', l2, c2, s2⟩, hW₁, X', ⟨g', mk, t, L, E, ce, e1, e2, hq, hce, hcv, hcl, h1, hL, h2, h3⟩, st⟩
  · dsimp only [Pt.U, Pt.locs, Pt.cells, Pt.slots] at X' e1 e2 h1 h2 h3 st
    subst h1; subst h2; subst h3
    exact Or.inl ⟨v, (T.setVm vm₁).calling g' mk (Value.ref b :: As).toArray, t, U', L, hT, X', hL, e1, e2, hq, st⟩
  · dsimp only [Pt.U, Pt.locs, Pt.cells, Pt.slots] at X' e1 e2 h1 h2 h3 st hcl
    subst h1; subst h2; subst h3
    exact Or.inr ⟨q, (T.setVm vm₁).calling g' mk (Value.ref b :: As).toArray, t, U', L, E, ce, hT, X', hL, e1, e2, hq, hce, hcv, vx_cls hW₁ hcl, st⟩
theorem vx_runS (S : CallFix p m c cc nL s args Ts own) (hM : vx_Met l y ws rm Pc Qc XC mc ms free) (cw : CallB R s args own index y bytes maxL ret ws rm mc ms n ∧ (Cond.static y).before args s = true) (hp : PreS s H Pc As)
    (hg : g.method = m) (hn : As.length = n) (hsize : g.locals.size = nL) (hstack : g.stack = As.reverse ++ rest) (hW : 2 * g.monitorRoom + (rest.map fun v => v.category).sum ≤ 8) (hdg : decode cc g.pc = .ok (.invokestatic index, 3)) (hf : cells + mc ≤ R.cells ∧ slots + ms ≤ R.slots) :
    vx_Run p l e R s m args below meth c H locs cells slots mc ms g rest (Qc As.toArray) XC free := by
  have hK : vx_Back l R p e below s args y 3 8 (PreOf R mc ms Pc) (PostOf Qc mc ms free) (vx_Post XC mc ms free) := vx_callBack cw.1 hM hp.1
  obtain ⟨⟨-, -, -, -, -, -, hcode, hini, hy, hlen, hl⟩, hstt⟩ := cw
  obtain ⟨hx, hb, hml, ho, -⟩ := S
  intro T hT X
  rcases vx_callS X hx (bytes := bytes) (maxL := maxL) (ret := ret) ho hl hstt hini hcode hy hK hg (hsize.trans hml.symm) (argsL := As) (rest := rest) (fun sig h => hn.trans (hlen sig h)) hstack hW (by rw [hb]; exact hdg)
    (fun vm₁ hW₁ => ⟨hf.1, hf.2, hp.2 (T.setVm vm₁) hT hW₁⟩) with ⟨v, vm₁, ⟨U', l2, c2, s2⟩, hW₁, X', ⟨g', mk, t, L, e1, e2, hq, h1, hL, h2, h3⟩, st⟩ | ⟨q, vm₁, ⟨U', l2, c2, s2⟩, hW₁, X', ⟨g', mk, t, L, E, ce, e1, e2, hq, hce, hcv, hcl, h1, hL, h2, h3⟩, st⟩
  · dsimp only [Pt.U, Pt.locs, Pt.cells, Pt.slots] at X' e1 e2 h1 h2 h3 st
    subst h1; subst h2; subst h3
    exact Or.inl ⟨v, (T.setVm vm₁).calling g' mk As.toArray, t, U', L, hT, X', hL, e1, e2, hq, st⟩
  · dsimp only [Pt.U, Pt.locs, Pt.cells, Pt.slots] at X' e1 e2 h1 h2 h3 st hcl
    subst h1; subst h2; subst h3
    exact Or.inr ⟨q, (T.setVm vm₁).calling g' mk As.toArray, t, U', L, E, ce, hT, X', hL, e1, e2, hq, hce, hcv, vx_cls hW₁ hcl, st⟩
end Runs
section Rows
variable {p : Program} {l : Launch} {e : Env} {R : Room} {s : State} {m : MethodId} {args : Array Value} {below : List Frame} {meth : Method} {c : Code} {H : Heap} {locs : List Loc} {cells slots : Nat} {Q : State → Prop}
variable {mc ms : Nat} {free : Addr → Prop} {A0 A1 : Nat → Prop} {H0 : Heap} {a : Array Value} {pc : Nat} {ls : Array Slot} {st0 rest : List Value}
theorem vx_keep {st₀ t T' : State} {L : List Loc} (h0 : st₀.heap = H) (e1 : T'.heap = t.heap) (hS : va_S A0 H0 H locs) (hA : ∀ q, q < H.size → A1 q → A0 q) (hf : ∀ q, free q → A0 q) (hL : ∀ q ∈ L, free q.base) (hF : va_F A1 st₀ t) :
    H.size ≤ T'.heap.size ∧ (∀ q : Nat, q < H.size → ¬ A1 q → T'.heap[q]? = H[q]?) ∧ va_S A0 H0 T'.heap (locs ++ L) := by
  obtain ⟨hz, hk⟩ := hF
  rw [h0] at hz hk
  exact ⟨by rw [e1]; exact hz, fun q h1 h2 => by rw [e1]; exact hk q h1 h2,
    ⟨Nat.le_trans hS.1 (by rw [e1]; exact hz), fun q h1 h2 => by rw [e1, hk q (Nat.lt_of_lt_of_le h1 hS.1) (fun z => h2 (hA q (Nat.lt_of_lt_of_le h1 hS.1) z))]; exact hS.2.1 q h1 h2, fun q hq => by
      rcases List.mem_append.mp hq with h | h
      · exact hS.2.2 q h
      · exact hf _ (hL q h)⟩⟩
theorem vx_calli {S SX : Type} {post : Int32 → S → Prop} {px : SX → Prop} {B : S → State → Prop} {BX : String → SX → State → Prop} {AX : Nat → Prop} (hr : vx_Run p l e R s m args below meth c H locs cells slots mc ms (F0 m pc ls st0) rest (va_Qi post B A1 a) (vx_X px BX AX) free) (hS : va_S A0 H0 H locs) (hA : ∀ q, q < H.size → A1 q → A0 q) (hf : ∀ q, free q → A0 q) (hAX : ∀ q, q < H.size → AX q → A0 q)
    (kx : ∀ (E : String) (ce : Cell) (q9 : Addr) (u : SX) (t : State) (H1 : Heap) (locs1 : List Loc), t.heap = H1 → s.vm.Alike t.vm → px u → BX E u t → H.size ≤ H1.size → (∀ q : Nat, q < H.size → ¬ AX q → H1[q]? = H[q]?) → va_S A0 H0 H1 locs1 → H1[q9]? = some ce → ce.vm = .none → s.vm.findClass E = some ce.cls → vx_W p l e R s m args below meth c H1 locs1 (cells + mc) (slots + ms) Q (F0 m pc ls rest) q9)
    (kk : ∀ (r : Int32) (u : S) (t : State) (H1 : Heap) (locs1 : List Loc), t.heap = H1 → s.vm.Alike t.vm → post r u → B u t → H.size ≤ H1.size → (∀ q : Nat, q < H.size → ¬ A1 q → H1[q]? = H[q]?) → va_S A0 H0 H1 locs1 → W p l e R s m args below meth c H1 locs1 (cells + mc) (slots + ms) Q (F0 m (pc + 3) ls (.int r :: rest))) : W p l e R s m args below meth c H locs cells slots Q (F0 m pc ls st0) := by
  intro T hT X
  rcases hr T hT X with ⟨v, st₀, t, T', L, h0, X', hL, e1, e2, ⟨⟨r, u, hv, hp, hb⟩, hF⟩, st⟩ | ⟨q, st₀, t, T', L, E, ce, h0, X', hL, e1, e2, ⟨u, hp, hb, hF⟩, hce, hcv, hcl, st⟩
  · cases hv
    obtain ⟨k1, k2, k3⟩ := vx_keep h0 e1 hS hA hf hL hF
    obtain ⟨t2, a1, b1⟩ := kk r u t T'.heap (locs ++ L) e1.symm (by rw [← e2]; exact X'.warmed.alike) hp hb k1 k2 k3 T' rfl X'
    exact ⟨t2, st t2 a1, b1⟩
  · obtain ⟨k1, k2, k3⟩ := vx_keep h0 e1 hS hAX hf hL hF
    obtain ⟨t2, a1, b1⟩ := kx E ce q u t T'.heap (locs ++ L) e1.symm (by rw [← e2]; exact X'.warmed.alike) hp hb k1 k2 k3 (by rw [e1]; exact hce) hcv hcl T' rfl X'
    exact ⟨t2, st.trans a1, b1⟩
theorem vx_calll {S SX : Type} {post : Int64 → S → Prop} {px : SX → Prop} {B : S → State → Prop} {BX : String → SX → State → Prop} {AX : Nat → Prop} (hr : vx_Run p l e R s m args below meth c H locs cells slots mc ms (F0 m pc ls st0) rest (va_Ql post B A1 a) (vx_X px BX AX) free) (hS : va_S A0 H0 H locs) (hA : ∀ q, q < H.size → A1 q → A0 q) (hf : ∀ q, free q → A0 q) (hAX : ∀ q, q < H.size → AX q → A0 q)
    (kx : ∀ (E : String) (ce : Cell) (q9 : Addr) (u : SX) (t : State) (H1 : Heap) (locs1 : List Loc), t.heap = H1 → s.vm.Alike t.vm → px u → BX E u t → H.size ≤ H1.size → (∀ q : Nat, q < H.size → ¬ AX q → H1[q]? = H[q]?) → va_S A0 H0 H1 locs1 → H1[q9]? = some ce → ce.vm = .none → s.vm.findClass E = some ce.cls → vx_W p l e R s m args below meth c H1 locs1 (cells + mc) (slots + ms) Q (F0 m pc ls rest) q9)
    (kk : ∀ (r : Int64) (u : S) (t : State) (H1 : Heap) (locs1 : List Loc), t.heap = H1 → s.vm.Alike t.vm → post r u → B u t → H.size ≤ H1.size → (∀ q : Nat, q < H.size → ¬ A1 q → H1[q]? = H[q]?) → va_S A0 H0 H1 locs1 → W p l e R s m args below meth c H1 locs1 (cells + mc) (slots + ms) Q (F0 m (pc + 3) ls (.long r :: rest))) : W p l e R s m args below meth c H locs cells slots Q (F0 m pc ls st0) := by
  intro T hT X
  rcases hr T hT X with ⟨v, st₀, t, T', L, h0, X', hL, e1, e2, ⟨⟨r, u, hv, hp, hb⟩, hF⟩, st⟩ | ⟨q, st₀, t, T', L, E, ce, h0, X', hL, e1, e2, ⟨u, hp, hb, hF⟩, hce, hcv, hcl, st⟩
  · cases hv
    obtain ⟨k1, k2, k3⟩ := vx_keep h0 e1 hS hA hf hL hF
    obtain ⟨t2, a1, b1⟩ := kk r u t T'.heap (locs ++ L) e1.symm (by rw [← e2]; exact X'.warmed.alike) hp hb k1 k2 k3 T' rfl X'
    exact ⟨t2, st t2 a1, b1⟩
  · obtain ⟨k1, k2, k3⟩ := vx_keep h0 e1 hS hAX hf hL hF
    obtain ⟨t2, a1, b1⟩ := kx E ce q u t T'.heap (locs ++ L) e1.symm (by rw [← e2]; exact X'.warmed.alike) hp hb k1 k2 k3 (by rw [e1]; exact hce) hcv hcl T' rfl X'
    exact ⟨t2, st.trans a1, b1⟩
theorem vx_callf {S SX : Type} {post : UInt32 → S → Prop} {px : SX → Prop} {B : S → State → Prop} {BX : String → SX → State → Prop} {AX : Nat → Prop} (hr : vx_Run p l e R s m args below meth c H locs cells slots mc ms (F0 m pc ls st0) rest (va_Qf post B A1 a) (vx_X px BX AX) free) (hS : va_S A0 H0 H locs) (hA : ∀ q, q < H.size → A1 q → A0 q) (hf : ∀ q, free q → A0 q) (hAX : ∀ q, q < H.size → AX q → A0 q)
    (kx : ∀ (E : String) (ce : Cell) (q9 : Addr) (u : SX) (t : State) (H1 : Heap) (locs1 : List Loc), t.heap = H1 → s.vm.Alike t.vm → px u → BX E u t → H.size ≤ H1.size → (∀ q : Nat, q < H.size → ¬ AX q → H1[q]? = H[q]?) → va_S A0 H0 H1 locs1 → H1[q9]? = some ce → ce.vm = .none → s.vm.findClass E = some ce.cls → vx_W p l e R s m args below meth c H1 locs1 (cells + mc) (slots + ms) Q (F0 m pc ls rest) q9)
    (kk : ∀ (r : UInt32) (u : S) (t : State) (H1 : Heap) (locs1 : List Loc), t.heap = H1 → s.vm.Alike t.vm → post r u → B u t → H.size ≤ H1.size → (∀ q : Nat, q < H.size → ¬ A1 q → H1[q]? = H[q]?) → va_S A0 H0 H1 locs1 → W p l e R s m args below meth c H1 locs1 (cells + mc) (slots + ms) Q (F0 m (pc + 3) ls (.float r :: rest))) : W p l e R s m args below meth c H locs cells slots Q (F0 m pc ls st0) := by
  intro T hT X
  rcases hr T hT X with ⟨v, st₀, t, T', L, h0, X', hL, e1, e2, ⟨⟨r, u, hv, hp, hb⟩, hF⟩, st⟩ | ⟨q, st₀, t, T', L, E, ce, h0, X', hL, e1, e2, ⟨u, hp, hb, hF⟩, hce, hcv, hcl, st⟩
  · cases hv
    obtain ⟨k1, k2, k3⟩ := vx_keep h0 e1 hS hA hf hL hF
    obtain ⟨t2, a1, b1⟩ := kk r u t T'.heap (locs ++ L) e1.symm (by rw [← e2]; exact X'.warmed.alike) hp hb k1 k2 k3 T' rfl X'
    exact ⟨t2, st t2 a1, b1⟩
  · obtain ⟨k1, k2, k3⟩ := vx_keep h0 e1 hS hAX hf hL hF
    obtain ⟨t2, a1, b1⟩ := kx E ce q u t T'.heap (locs ++ L) e1.symm (by rw [← e2]; exact X'.warmed.alike) hp hb k1 k2 k3 (by rw [e1]; exact hce) hcv hcl T' rfl X'
    exact ⟨t2, st.trans a1, b1⟩
theorem vx_calld {S SX : Type} {post : UInt64 → S → Prop} {px : SX → Prop} {B : S → State → Prop} {BX : String → SX → State → Prop} {AX : Nat → Prop} (hr : vx_Run p l e R s m args below meth c H locs cells slots mc ms (F0 m pc ls st0) rest (va_Qd post B A1 a) (vx_X px BX AX) free) (hS : va_S A0 H0 H locs) (hA : ∀ q, q < H.size → A1 q → A0 q) (hf : ∀ q, free q → A0 q) (hAX : ∀ q, q < H.size → AX q → A0 q)
    (kx : ∀ (E : String) (ce : Cell) (q9 : Addr) (u : SX) (t : State) (H1 : Heap) (locs1 : List Loc), t.heap = H1 → s.vm.Alike t.vm → px u → BX E u t → H.size ≤ H1.size → (∀ q : Nat, q < H.size → ¬ AX q → H1[q]? = H[q]?) → va_S A0 H0 H1 locs1 → H1[q9]? = some ce → ce.vm = .none → s.vm.findClass E = some ce.cls → vx_W p l e R s m args below meth c H1 locs1 (cells + mc) (slots + ms) Q (F0 m pc ls rest) q9)
    (kk : ∀ (r : UInt64) (u : S) (t : State) (H1 : Heap) (locs1 : List Loc), t.heap = H1 → s.vm.Alike t.vm → post r u → B u t → H.size ≤ H1.size → (∀ q : Nat, q < H.size → ¬ A1 q → H1[q]? = H[q]?) → va_S A0 H0 H1 locs1 → W p l e R s m args below meth c H1 locs1 (cells + mc) (slots + ms) Q (F0 m (pc + 3) ls (.double r :: rest))) : W p l e R s m args below meth c H locs cells slots Q (F0 m pc ls st0) := by
  intro T hT X
  rcases hr T hT X with ⟨v, st₀, t, T', L, h0, X', hL, e1, e2, ⟨⟨r, u, hv, hp, hb⟩, hF⟩, st⟩ | ⟨q, st₀, t, T', L, E, ce, h0, X', hL, e1, e2, ⟨u, hp, hb, hF⟩, hce, hcv, hcl, st⟩
  · cases hv
    obtain ⟨k1, k2, k3⟩ := vx_keep h0 e1 hS hA hf hL hF
    obtain ⟨t2, a1, b1⟩ := kk r u t T'.heap (locs ++ L) e1.symm (by rw [← e2]; exact X'.warmed.alike) hp hb k1 k2 k3 T' rfl X'
    exact ⟨t2, st t2 a1, b1⟩
  · obtain ⟨k1, k2, k3⟩ := vx_keep h0 e1 hS hAX hf hL hF
    obtain ⟨t2, a1, b1⟩ := kx E ce q u t T'.heap (locs ++ L) e1.symm (by rw [← e2]; exact X'.warmed.alike) hp hb k1 k2 k3 (by rw [e1]; exact hce) hcv hcl T' rfl X'
    exact ⟨t2, st.trans a1, b1⟩
theorem vx_callv {S SX : Type} {post : S → Prop} {px : SX → Prop} {B : S → State → Prop} {BX : String → SX → State → Prop} {AX : Nat → Prop} (hr : vx_Run p l e R s m args below meth c H locs cells slots mc ms (F0 m pc ls st0) rest (va_Qv post B A1 a) (vx_X px BX AX) free) (hS : va_S A0 H0 H locs) (hA : ∀ q, q < H.size → A1 q → A0 q) (hf : ∀ q, free q → A0 q) (hAX : ∀ q, q < H.size → AX q → A0 q)
    (kx : ∀ (E : String) (ce : Cell) (q9 : Addr) (u : SX) (t : State) (H1 : Heap) (locs1 : List Loc), t.heap = H1 → s.vm.Alike t.vm → px u → BX E u t → H.size ≤ H1.size → (∀ q : Nat, q < H.size → ¬ AX q → H1[q]? = H[q]?) → va_S A0 H0 H1 locs1 → H1[q9]? = some ce → ce.vm = .none → s.vm.findClass E = some ce.cls → vx_W p l e R s m args below meth c H1 locs1 (cells + mc) (slots + ms) Q (F0 m pc ls rest) q9)
    (kk : ∀ (u : S) (t : State) (H1 : Heap) (locs1 : List Loc), t.heap = H1 → s.vm.Alike t.vm → post u → B u t → H.size ≤ H1.size → (∀ q : Nat, q < H.size → ¬ A1 q → H1[q]? = H[q]?) → va_S A0 H0 H1 locs1 → W p l e R s m args below meth c H1 locs1 (cells + mc) (slots + ms) Q (F0 m (pc + 3) ls (rest))) : W p l e R s m args below meth c H locs cells slots Q (F0 m pc ls st0) := by
  intro T hT X
  rcases hr T hT X with ⟨v, st₀, t, T', L, h0, X', hL, e1, e2, ⟨⟨u, hv, hp, hb⟩, hF⟩, st⟩ | ⟨q, st₀, t, T', L, E, ce, h0, X', hL, e1, e2, ⟨u, hp, hb, hF⟩, hce, hcv, hcl, st⟩
  · cases hv
    obtain ⟨k1, k2, k3⟩ := vx_keep h0 e1 hS hA hf hL hF
    obtain ⟨t2, a1, b1⟩ := kk u t T'.heap (locs ++ L) e1.symm (by rw [← e2]; exact X'.warmed.alike) hp hb k1 k2 k3 T' rfl X'
    exact ⟨t2, st t2 a1, b1⟩
  · obtain ⟨k1, k2, k3⟩ := vx_keep h0 e1 hS hAX hf hL hF
    obtain ⟨t2, a1, b1⟩ := kx E ce q u t T'.heap (locs ++ L) e1.symm (by rw [← e2]; exact X'.warmed.alike) hp hb k1 k2 k3 (by rw [e1]; exact hce) hcv hcl T' rfl X'
    exact ⟨t2, st.trans a1, b1⟩
/-- caught by the row x of this method's table; the rows ahead don't take it -/
theorem vx_catch {own name : String} {E : String} {ce : Cell} {q : Addr} (hown : s.vm.findClass own = some m.cls) (pre : List ExceptionTableEntry) (x : ExceptionTableEntry) (suf : List ExceptionTableEntry) (hsplit : c.exceptionTable.toList = pre ++ x :: suf)
    (hpass : ∀ z ∈ pre, covers z pc = false ∨ (z.catchType ≠ 0 ∧ ∃ nm : String, (Cond.classLink own z.catchType nm).before args s = true ∧ va_Nc E nm s)) (hx : covers x pc = true) (h0 : x.catchType ≠ 0)
    (hlink : (Cond.classLink own x.catchType name).before args s = true) (hcast : (Cond.castable E name).before args s = true) (hcell : H[q]? = some ce) (hv : ce.vm = .none) (hcl : s.vm.findClass E = some ce.cls)
    (kk : W p l e R s m args below meth c H locs cells slots Q (F0 m x.handlerPc ls [.ref q])) : vx_W p l e R s m args below meth c H locs cells slots Q (F0 m pc ls rest) q := by
  intro T hT X
  have hpl : e.platform.magicAccessors = ({} : Platform).magicAccessors := by rw [X.admits.platform]
  obtain ⟨c3, c4, hc3, hc4, hasg⟩ := Cond.castable_spec hcast
  cases Option.some.inj (hc3.symm.trans hcl)
  obtain ⟨c5, hc5, hcl5⟩ := Cond.classLink_spec hown hlink e.platform hpl
  cases Option.some.inj (hc4.symm.trans hc5)
  obtain ⟨vm', X', st⟩ := X.thenCaughtThrough q (g := F0 m pc ls rest) rfl (Steps.refl _) (by rw [hT]; exact hcell) (by rw [hv]; rfl) (by obtain ⟨k9, h9, -⟩ := Vm.findClass_spec hcl; exact ⟨k9, h9⟩) pre x suf hsplit
    (fun z hz => by
      rcases hpass z hz with h | ⟨hz0, nm, hl1, hn1⟩
      · exact Or.inl h
      · obtain ⟨c6, hc6, hcl6⟩ := Cond.classLink_spec hown hl1 e.platform hpl
        obtain ⟨a8, b8, h1, h2, h3⟩ := hn1
        cases Option.some.inj (h1.symm.trans hcl)
        cases Option.some.inj (h2.symm.trans hc6)
        exact Or.inr ⟨hz0, _, hcl6, h3⟩) hx (Or.inr ⟨h0, c4, hcl5, hasg⟩)
  obtain ⟨t, a1, b1⟩ := kk (T.setVm vm') hT X'
  exact ⟨t, st.trans a1, b1⟩
end Rows
section Ends
variable {p : Program} {l : Launch} {e : Env} {R : Room} {s : State} {m : MethodId} {args : Array Value} {below : List Frame} {meth : Method} {c : Code} {H : Heap} {locs : List Loc} {cells slots : Nat} {Q : State → Prop}
variable {mc ms : Nat} {free : Addr → Prop} {A0 A1 : Nat → Prop} {H0 : Heap} {a : Array Value} {ls : Array Slot} {st0 rest : List Value}
variable {Qc : Array Value → State → Outcome → State → Prop} {XC : String → State → State → Prop}
/-- what a body that may throw owes at its end -/
def vx_MQ (below : List Frame) (Qc : Array Value → State → Outcome → State → Prop) (XC : String → State → State → Prop) (a : Array Value) (s : State) (mc ms : Nat) (free : Addr → Prop) : State → Prop := fun t =>
  ∃ o, t.status = .running ∧ Ended t below o ∧ vx_Q Qc XC mc ms free a s o t
theorem vx_ret {g : JFrame} {mc ms : Nat} (k : W p l e R s m args below meth c H locs cells slots (MQ below Qc args s mc ms free) g) : W p l e R s m args below meth c H locs cells slots (vx_MQ below Qc XC args s mc ms free) g := by
  intro T hT X
  obtain ⟨t, a1, o, b1, b2, b3, b4⟩ := k T hT X
  exact ⟨t, a1, o, b1, b2, Or.inl ⟨b3, b4⟩⟩
/-- not caught here: it goes on to the caller -/
theorem vx_widen {g : JFrame} {q : Addr} {k n : Nat} (h1 : cells ≤ k) (h2 : slots ≤ n) (kk : vx_W p l e R s m args below meth c H locs k n Q g q) : vx_W p l e R s m args below meth c H locs cells slots Q g q := fun T hT X => kk T hT (stand_widen X h1 h2)
theorem vx_out {pc : Nat} {E : String} {ce : Cell} {q : Addr} {mc ms : Nat} (hout : ∀ x ∈ c.exceptionTable.toList, covers x pc = false) (hlocks : meth.locks = false) (hcell : H[q]? = some ce) (hv : ce.vm = .none) (hcl : s.vm.findClass E = some ce.cls)
    (hx : ∀ t : State, t.heap = H → s.vm.Alike t.vm → XC E s t) (hf : ∀ z ∈ locs, free z.base) (hc : cells ≤ mc) (hs : slots ≤ ms) :
    vx_W p l e R s m args below meth c H locs cells slots (vx_MQ below Qc XC args s mc ms free) (F0 m pc ls rest) q := by
  intro T hT X
  obtain ⟨st1, hrun, hend, hW, hsm⟩ := X.leaveThrown q (g := F0 m pc ls rest) rfl rfl rfl hout hlocks
  have hcell9 : (T.setFrames (.throwing q :: below)).heap[q]? = some ce := by
    show T.heap[q]? = some ce
    rw [hT]; exact hcell
  exact ⟨_, st1, .threw q, hrun, hend, Or.inr ⟨q, rfl, E, ce, locs, hx _ hT hW.alike, hcell9, hv, hcl, hW, hsm.mono hc hs, hf⟩⟩
theorem vx_frame {U : State} {k n : Nat} (h : s.sameButNew ({ U with vm := s.vm } : State) locs k n) : s.heap.size ≤ U.heap.size ∧ ∀ q : Nat, q < s.heap.size → (∀ z ∈ locs, z.base ≠ q) → U.heap[q]? = s.heap[q]? := by
  obtain ⟨-, h2, -, -, -, h6⟩ := h
  refine ⟨h2, fun q hq hz => ?_⟩
  obtain ⟨c9, e1, e2, e3, e4⟩ := h6 q _ (Array.getElem?_eq_getElem hq)
  have hs : c9.slots = (s.heap[q]).slots := Array.ext_getElem? fun i => e4 i fun hm => hz _ hm rfl
  have h9 : c9 = s.heap[q] := by
    rw [hs] at e2
    exact e2
  have e5 : U.heap[q]? = some c9 := e1
  rw [e5, h9, Array.getElem?_eq_getElem hq]
/-- the words of a throw but the four that speak of the heap -/
def vx_no (w : Cond) : Bool := decide (w ≠ .isRef (.static Bundle.tN "UNASSIGNED_STACK" Bundle.steD)) && decide (w ≠ .isRef (.static Bundle.tN "SUPPRESSED_SENTINEL" Bundle.listD)) && decide (w ≠ .laysStatic Bundle.tN "UNASSIGNED_STACK" Bundle.steD) && decide (w ≠ .laysStatic Bundle.tN "SUPPRESSED_SENTINEL" Bundle.listD)
def vx_at0 (own : String) (ic : Nat) (X : String) (names : List String) : List Cond := (Bundle.ownAtoms0 own ic X names).filter vx_no
def vx_atS (own : String) (ic : Nat) (X : String) (names : List String) : List Cond := (Bundle.ownAtoms own ic X names).filter vx_no
/-- a word that the tables alone decide, or a good one -/
def vx_ot (w : Cond) : Bool := w.onTables || goodWord w
theorem vx_ot_at {args a' : Array Value} {s U : State} {w : Cond} (hW : s.WarmedH U.vm) (hvm : s.vm = U.vm) (hg : vx_ot w = true) (h : w.before args s = true) : w.before a' U = true := by
  simp only [vx_ot, Bool.or_eq_true] at hg
  rcases hg with hg | hg
  · exact va_tabs hg hvm h
  · exact word_at hW (good_of_word hg) h
/-- a list's words: the good ones out of the method's own list, the others by premises of their own -/
theorem vx_hat {args : Array Value} {s : State} {L B : List Cond} (h1 : ∀ w ∈ L.filter goodWord, w.before args s = true) (h2 : ∀ w ∈ L.filter (fun w => !goodWord w), w ∈ B) (h3 : ∀ w ∈ B, w.before args s = true) : ∀ w ∈ L, w.before args s = true := by
  intro w hw
  by_cases g : goodWord w = true
  · exact h1 w (List.mem_filter.mpr ⟨hw, g⟩)
  · refine h3 w (h2 w (List.mem_filter.mpr ⟨hw, ?_⟩))
    show (!goodWord w) = true
    cases hgw : goodWord w
    · rfl
    · exact absurd hgw g
theorem vx_c {args : Array Value} {s : State} {w : Cond} {B : List Cond} (h : w.before args s = true) (t : ∀ w ∈ B, w.before args s = true) : ∀ w' ∈ w :: B, w'.before args s = true := fun w' h' => (List.mem_cons.mp h').elim (fun e => by rw [e]; exact h) (t w')
theorem vx_n {args : Array Value} {s : State} : ∀ w ∈ ([] : List Cond), w.before args s = true := fun _ h => nomatch h
theorem vx_own {args : Array Value} {s : State} {L : List Cond} (h1 : ∀ w ∈ L.filter vx_no, w.before args s = true)
    (hU : (Cond.isRef (.static Bundle.tN "UNASSIGNED_STACK" Bundle.steD)).before args s = true) (hN : (Cond.isRef (.static Bundle.tN "SUPPRESSED_SENTINEL" Bundle.listD)).before args s = true)
    (lU : (Cond.laysStatic Bundle.tN "UNASSIGNED_STACK" Bundle.steD).before args s = true) (lN : (Cond.laysStatic Bundle.tN "SUPPRESSED_SENTINEL" Bundle.listD).before args s = true) : ∀ w ∈ L, w.before args s = true := by
  intro w hw
  by_cases e1 : w = .isRef (.static Bundle.tN "UNASSIGNED_STACK" Bundle.steD)
  · rw [e1]; exact hU
  · by_cases e2 : w = .isRef (.static Bundle.tN "SUPPRESSED_SENTINEL" Bundle.listD)
    · rw [e2]; exact hN
    · by_cases e3 : w = .laysStatic Bundle.tN "UNASSIGNED_STACK" Bundle.steD
      · rw [e3]; exact lU
      · by_cases e4 : w = .laysStatic Bundle.tN "SUPPRESSED_SENTINEL" Bundle.listD
        · rw [e4]; exact lN
        · exact h1 w (List.mem_filter.mpr ⟨hw, by unfold vx_no; rw [decide_eq_true e1, decide_eq_true e2, decide_eq_true e3, decide_eq_true e4]; rfl⟩)
/-- where a static field lies, its class's statics cell in H -/
def vx_L (C n d : String) (A : Nat → Prop) (U : State) (H : Heap) : Prop := ∃ (c : ClassId) (k : Class) (i : Nat) (f : Field) (a : Nat) (cell : Cell), U.vm.findClass C = some c ∧ U.fieldFound? C n d = some (c, k, i, f) ∧ f.isStatic = true ∧ k.statics = some a ∧ H[a]? = some cell ∧ cell.vm.isStatics = true ∧ cell.cls = c ∧ f.slot < cell.slots.size ∧ k.staticTypes[f.slot]? = some f.type ∧ ¬ A a
theorem vx_L.moved {C n d : String} {A : Nat → Prop} {u U : State} {H : Heap} (hvm : u.vm.Alike U.vm) (h : vx_L C n d A u H) : vx_L C n d A U H := by
  obtain ⟨c, k, i, f, a, cell, h1, h2, h3, h4, h5, h6, h7, h8, h9, h10⟩ := h
  obtain ⟨k', hi', he⟩ := State.fieldFound?_setVm hvm h2
  exact ⟨c, k', i, f, a, cell, by rw [hvm.findClass]; exact h1, hi', h3, by rw [he]; exact h4, h5, h6, h7, h8, by rw [he]; exact h9, h10⟩
theorem vx_L.kept {C n d : String} {A : Nat → Prop} {U : State} {H H1 : Heap} (h : vx_L C n d A U H) (hq : ∀ a : Nat, a < H.size → ¬ A a → H1[a]? = H[a]?) : vx_L C n d A U H1 := by
  obtain ⟨c, k, i, f, a, cell, h1, h2, h3, h4, h5, h6, h7, h8, h9, h10⟩ := h
  exact ⟨c, k, i, f, a, cell, h1, h2, h3, h4, by rw [hq a (Array.getElem?_eq_some_iff.mp h5).1 h10]; exact h5, h6, h7, h8, h9, h10⟩
theorem vx_L.narrow {C n d : String} {A B : Nat → Prop} {U : State} {H : Heap} (h : vx_L C n d A U H) (hAB : ∀ q, B q → A q) : vx_L C n d B U H := by
  obtain ⟨c, k, i, f, a, cell, h1, h2, h3, h4, h5, h6, h7, h8, h9, h10⟩ := h
  exact ⟨c, k, i, f, a, cell, h1, h2, h3, h4, h5, h6, h7, h8, h9, fun z => h10 (hAB _ z)⟩
theorem vx_L.word {C n d : String} {A : Nat → Prop} {s : State} {args : Array Value} (h : vx_L C n d A s s.heap) : (Cond.laysStatic C n d).before args s = true := by
  obtain ⟨c, k, i, f, a, cell, h1, h2, h3, h4, h5, h6, h7, h8, h9, -⟩ := h
  show (Cond.laysStatic C n d).holds args s none s [] = true
  exact Cond.laysStatic_of h1 h2 h3 h4 h5 h6 h7 h8 h9
/-- .. and what it holds: null or some reference -/
def vx_Zq (C n d : String) (A : Nat → Prop) (U : State) (H : Heap) : Prop := va_Zq C n d A U H ∧ vx_L C n d A U H
theorem vx_Zq.moved {C n d : String} {A : Nat → Prop} {u U : State} {H : Heap} (hvm : u.vm.Alike U.vm) (h : vx_Zq C n d A u H) : vx_Zq C n d A U H := ⟨va_Zq.moved hvm h.1, vx_L.moved hvm h.2⟩
theorem vx_Zq.kept {C n d : String} {A : Nat → Prop} {U : State} {H H1 : Heap} (h : vx_Zq C n d A U H) (hq : ∀ a : Nat, a < H.size → ¬ A a → H1[a]? = H[a]?) : vx_Zq C n d A U H1 := ⟨va_Zq.kept h.1 hq, vx_L.kept h.2 hq⟩
theorem vx_Zq.narrow {C n d : String} {A B : Nat → Prop} {U : State} {H : Heap} (h : vx_Zq C n d A U H) (hAB : ∀ q, B q → A q) : vx_Zq C n d B U H := ⟨va_Zq.narrow h.1 hAB, vx_L.narrow h.2 hAB⟩
theorem vx_Zqof {args : Array Value} {s : State} {C n d : String} {A : Nat → Prop} (hl : (Cond.laysStatic C n d).before args s = true) (hini : (Cond.initialized C).before args s = true) (h : (Cond.isRef (.static C n d)).before args s = true) (hA : ∀ a : Nat, a < s.heap.size → ¬ A a) : vx_Zq C n d A s s.heap := by
  refine ⟨va_Zqof hl hini h hA, ?_⟩
  obtain ⟨c, k, i, f, a, cell, h1, h2, h3, h4, h5, h6, h7, h8, h9⟩ := Cond.laysStatic_spec hl
  exact ⟨c, k, i, f, a, cell, h1, h2, h3, h4, h5, h6, h7, h8, h9, hA a (Array.getElem?_eq_some_iff.mp h5).1⟩
theorem vx_isRef {C n d : String} {v : Value} {A : Nat → Prop} {s : State} {args : Array Value} (h : va_Z C n d v A s s.heap) (hv : v.isRef = true) : (Cond.isRef (.static C n d)).before args s = true := by
  obtain ⟨cf, kf, fi, f, a, cell, h1, h2, h3, h4, h5, h6, h7, -⟩ := h
  have he : (Term.static C n d).eval args s none [] s = some v := by
    simp [Term.eval, State.fieldNamed?, h1, h2, h4, h5, h6, h7]
  simp only [Cond.before, Cond.holds, Cond.value, he]
  cases v <;> simp_all [Value.isRef]
theorem vx_isRefq {C n d : String} {A : Nat → Prop} {s : State} {args : Array Value} (h : va_Zq C n d A s s.heap) : (Cond.isRef (.static C n d)).before args s = true := by
  rcases h with h | ⟨t, h⟩
  · exact vx_isRef h rfl
  · exact vx_isRef h rfl
/-- the same frame, seen from here: as if the method were called anew in this heap -/
theorem vx_rebase {T : State} (X : Stand p l e R s m args below meth c T locs cells slots) {R' : Room} (hf : R'.frames ≤ R.frames) (hl : R'.locals ≤ R.locals) (hc : cells + R'.cells ≤ R.cells) (hs : slots + R'.slots ≤ R.slots) :
    Stand p l e R' ((T.setVm s.vm).setFrames (.invoking m args :: below)) m args below meth c T [] 0 0 := by
  have htop : (T.setVm s.vm).topJava?.isSome := X.here.top
  have hF : ((T.setVm s.vm).setFrames (.invoking m args :: below)).frames = .invoking m args :: below := State.frames_setFrames _ (State.cur_lt_of_top htop)
  obtain ⟨g₀, hg0⟩ := Option.isSome_iff_exists.mp htop
  obtain ⟨r, hr⟩ := State.topJava?_eq_some.mp hg0
  have hl9 : e.platform.stackLimits (T.setVm s.vm).me = e.platform.stackLimits s.me := X.limits
  have hb9 : (T.setVm s.vm).me.stackBytes = s.me.stackBytes := X.bytes
  refine ⟨X.admits, X.cas, X.clock, hF, ?_, X.hears, X.method, X.code, X.here, X.tail, X.warmed, ?_, ?_, ?_⟩
  · have h := X.room
    have hU : ((T.setVm s.vm).setFrames (.invoking m args :: below)).localsInUse = s.localsInUse := by
      rw [State.localsInUse_invoking hF (meth := meth) (c := c) X.method X.code, State.localsInUse_invoking X.frames X.method X.code]
    simp only [State.hasRoom, Bool.and_eq_true, decide_eq_true_eq] at h ⊢
    obtain ⟨⟨⟨⟨h1, h2, h3, h4, h5, h6⟩, h7⟩, h8⟩, h9⟩ := h
    rw [X.frames, List.length_cons] at h2 h3
    have q1 := X.heapSize
    have q2 := X.used
    simp only [hF, hU, List.length_cons, State.stackLimits_setFrames, State.stackBytes_setFrames, hl9, hb9]
    refine ⟨⟨⟨⟨by omega, by omega, by omega, by omega, by omega, h6⟩, ?_⟩, ?_⟩, X.book⟩
    · show T.heap.size + R'.cells ≤ e.platform.maxCells
      omega
    · show T.slotsUsed + R'.slots ≤ e.platform.maxSlots
      omega
  · rw [State.stackLimits_setFrames]; rfl
  · rw [State.stackBytes_setFrames]; rfl
  · refine ⟨?_, Nat.le_refl _, Nat.le_refl _, ?_, ?_, fun a c9 h9 => ⟨c9, h9, rfl, rfl, fun _ _ => rfl⟩⟩
    · obtain ⟨t, ht, -⟩ := State.frames_cons hr
      show T.setVm s.vm = { ((T.setVm s.vm).setFrames (.invoking m args :: below)).setFrames (T.setVm s.vm).frames with heap := T.heap, slotsUsed := T.slotsUsed }
      rw [State.setFrames_setFrames, State.setFrames_self ht]
      rfl
    · show T.slotsUsed = T.slotsUsed + ((T.heap.toList.drop T.heap.size).map (·.slots.size)).sum
      rw [List.drop_eq_nil_of_le (Nat.le_of_eq Array.length_toList)]
      rfl
    · show ((T.heap.toList.drop T.heap.size).map (·.slots.size)).sum ≤ 0
      rw [List.drop_eq_nil_of_le (Nat.le_of_eq Array.length_toList)]
      exact Nat.le_refl _
/-- 'throw new E()': new; dup; invokespecial; athrow -/
theorem vx_throw0 {cc : ByteArray} {pc : Nat} (hexec : p.tables.exec = Jvm.exec) (hb : c.code = cc) (hl : l.stackTraces = false) {own cls : String} {names : List String} {ik ic mc ms : Nat} {A : Nat → Prop}
    (hown : s.vm.findClass own = some m.cls) (hcls : Bundle.fit cls = true) (hnames : ∀ n ∈ names, Bundle.fit n = true)
    (hk : (Cond.classLink own ik cls).before args s = true) (hini : (Cond.initialized cls).before args s = true) (hat : ∀ w ∈ vx_at0 own ic cls names, w.before args s = true)
    (hgood : ∀ w ∈ Cond.classLink own ik cls :: Cond.initialized cls :: vx_at0 own ic cls names, vx_ot w = true)
    (hU : vx_Zq Bundle.tN "UNASSIGNED_STACK" Bundle.steD A s s.heap) (hN : vx_Zq Bundle.tN "SUPPRESSED_SENTINEL" Bundle.listD A s s.heap) (hS : va_S A s.heap H locs) (hsize : ls.size = c.maxLocals)
    (d0 : decode cc pc = .ok (.new ik, 3)) (d3 : decode cc (pc + 3) = .ok (.dup, 1)) (d4 : decode cc (pc + 4) = .ok (.invokespecial ic, 3)) (d7 : decode cc (pc + 7) = .ok (.athrow, 1))
    (hout : ∀ x ∈ c.exceptionTable.toList, covers x (pc + 7) = false)
    (hRframes : names.length + 3 < R.frames) (hRlocals : (rest.map fun v => v.category).sum + (13 * (names.length + 1) + 42) ≤ R.locals) (hRcells : cells + 1 ≤ R.cells) (hRslots : slots + 6 ≤ R.slots) (hlocks : meth.locks = false)
    (hx : ∀ t : State, s.vm.Alike t.vm → H.size ≤ t.heap.size → (∀ q : Nat, q < H.size → t.heap[q]? = H[q]?) → XC cls s t)
    (hf : ∀ z ∈ locs, free z.base) (hc : cells + 1 ≤ mc) (hs : slots + 6 ≤ ms) :
    W p l e R s m args below meth c H locs cells slots (vx_MQ below Qc XC args s mc ms free) (F0 m pc ls rest) := by
  intro T hT X
  have htr : e.platform.stackTraces = false := (show e.platform.stackTraces = l.stackTraces by rw [X.admits.platform]).trans hl
  have Y := vx_rebase X (R' := { frames := R.frames, locals := R.locals, cells := 1, slots := 6 }) (Nat.le_refl _) (Nat.le_refl _) hRcells hRslots
  obtain ⟨s', hA⟩ : ∃ z, z = (T.setVm s.vm).setFrames (.invoking m args :: below) := ⟨_, rfl⟩
  rw [← hA] at Y
  have hvm : s'.vm = s.vm := by rw [hA]; rfl
  have hhp : s'.heap = H := by rw [hA]; exact hT
  have hW0 : s.WarmedH s'.vm := by rw [hvm]; exact State.WarmedH.refl s
  have hat' : ∀ w ∈ vx_at0 own ic cls names, w.before args s' = true := fun w hw => vx_ot_at hW0 hvm.symm (hgood w (List.mem_cons_of_mem _ (List.mem_cons_of_mem _ hw))) (hat w hw)
  have hk' : (Cond.classLink own ik cls).before args s' = true := vx_ot_at hW0 hvm.symm (hgood _ List.mem_cons_self) hk
  have hini' : (Cond.initialized cls).before args s' = true := vx_ot_at hW0 hvm.symm (hgood _ (List.mem_cons_of_mem _ List.mem_cons_self)) hini
  have hU' : vx_Zq Bundle.tN "UNASSIGNED_STACK" Bundle.steD A s' s'.heap := by rw [hhp]; exact vx_Zq.moved hW0.alike (hU.kept hS.2.1)
  have hN' : vx_Zq Bundle.tN "SUPPRESSED_SENTINEL" Bundle.listD A s' s'.heap := by rw [hhp]; exact vx_Zq.moved hW0.alike (hN.kept hS.2.1)
  have h : ∀ w ∈ Bundle.ownAtoms0 own ic cls names, w.before args s' = true := vx_own hat' (vx_isRefq hU'.1) (vx_isRefq hN'.1) hU'.2.word hN'.2.word
  have hown' : s'.vm.findClass own = some m.cls := by rw [hvm]; exact hown
  have hins : (Cond.instantiable cls 6).before args s' = true := h _ (by simp [Bundle.ownAtoms0])
  obtain ⟨vm₁, cX, kX, hfX, hkX, -, -, X₁, st1⟩ := Y.newCold hexec (own := own) (C := cls) (index := ik) (n := 6) hown' hk' hins hini'
    (g := F0 m pc ls rest) rfl (by rw [hb]; exact d0) (Nat.le_refl _) (Nat.le_refl _)
  generalize hT1 : (T.setVm vm₁).pushCell { cls := cX, slots := kX.instanceTypes.map defaultValue, vm := .none } = T1 at X₁ st1
  have hcat : (Value.ref T.heap.size).category = 1 := rfl
  have hcellA : T1.heap[T.heap.size]? = some (freshCell cX kX) := by rw [← hT1]; exact State.heap_pushCell_size _ _
  have d3' : decode c.code (pc + 3) = .ok (.dup, 1) := by rw [hb]; exact d3
  obtain ⟨U, hsteps, hrun, hend, hW, hsame, ce, hce, hO⟩ := X₁.ctorThrow0 hexec htr (own := own) (cls := cls) (names := names) (ic := ic) hown' hcls hnames h (fun x hx => nomatch hx) hfX hkX hcellA (by rw [hhp, hT]; exact Nat.le_refl _)
    (g := { method := m, pc := pc + 4, locals := ls, stack := .ref T.heap.size :: .ref T.heap.size :: rest, locked := none }) rfl hsize rfl rfl (rest := rest) rfl
    (by rw [hb]; exact d4) (by rw [hb]; exact d7) hout hRframes (by simp only [List.map_cons, List.sum_cons, hcat]; omega) hlocks
  obtain ⟨f1, f2⟩ := vx_frame hsame
  rw [hhp] at f1 f2
  have hWs : s.WarmedH U.vm := State.WarmedH.trans hW0 hW
  have hcl : s.vm.findClass cls = some ce.cls := by
    have h9 := hO.cls
    rw [hvm] at h9
    exact h9
  have hall : s.sameButNew ({ U with vm := s.vm } : State) locs mc ms := by
    subst hA
    obtain ⟨e1, e2⟩ := hsame
    rw [State.setFrames_setFrames] at e1
    have h2 : (T.setVm s.vm).sameButNew ({ U with vm := s.vm } : State) [] (0 + 1) (0 + 6) := ⟨e1, e2⟩
    have h3 := X.same.trans h2
    rw [List.append_nil] at h3
    exact h3.mono hc hs
  refine ⟨U, ?_, .threw T.heap.size, hrun, hend, Or.inr ⟨T.heap.size, rfl, cls, ce, locs, hx U hWs.alike f1 (fun q hq => f2 q hq (fun z hz => nomatch hz)), hce, hO.vm, hcl, hWs, hall, hf⟩⟩
  refine st1 _ ?_
  show Steps p.tables e below (T1.setTop { method := m, pc := pc + 3, locals := ls, stack := .ref T.heap.size :: rest, locked := none }) _
  jvm_step X₁.here [X₁.here.top, hexec, d3', Value.category]
  exact hsteps
/-- 'throw new E("text")': new; dup; ldc; invokespecial; athrow -/
theorem vx_throwS {cc : ByteArray} {pc : Nat} (hexec : p.tables.exec = Jvm.exec) (hb : c.code = cc) (hl : l.stackTraces = false) {own cls text : String} {names : List String} {ik is ic mc ms sa : Nat} {A : Nat → Prop}
    (hown : s.vm.findClass own = some m.cls) (hcls : Bundle.fit cls = true) (hnames : ∀ n ∈ names, Bundle.fit n = true)
    (hk : (Cond.classLink own ik cls).before args s = true) (hini : (Cond.initialized cls).before args s = true) (hstr : vk_R own is text sa s) (hat : ∀ w ∈ vx_atS own ic cls names, w.before args s = true)
    (hgood : ∀ w ∈ Cond.classLink own ik cls :: Cond.initialized cls :: vx_atS own ic cls names, vx_ot w = true)
    (hU : vx_Zq Bundle.tN "UNASSIGNED_STACK" Bundle.steD A s s.heap) (hN : vx_Zq Bundle.tN "SUPPRESSED_SENTINEL" Bundle.listD A s s.heap) (hS : va_S A s.heap H locs) (hsize : ls.size = c.maxLocals)
    (d0 : decode cc pc = .ok (.new ik, 3)) (d3 : decode cc (pc + 3) = .ok (.dup, 1)) (d4 : decode cc (pc + 4) = .ok (.ldc is, 2)) (d6 : decode cc (pc + 6) = .ok (.invokespecial ic, 3)) (d9 : decode cc (pc + 9) = .ok (.athrow, 1))
    (hout : ∀ x ∈ c.exceptionTable.toList, covers x (pc + 9) = false)
    (hRframes : names.length + 3 < R.frames) (hRlocals : (rest.map fun v => v.category).sum + (13 * (names.length + 1) + 43) ≤ R.locals) (hRcells : cells + 1 ≤ R.cells) (hRslots : slots + 6 ≤ R.slots) (hlocks : meth.locks = false)
    (hx : ∀ t : State, s.vm.Alike t.vm → H.size ≤ t.heap.size → (∀ q : Nat, q < H.size → t.heap[q]? = H[q]?) → XC cls s t)
    (hf : ∀ z ∈ locs, free z.base) (hc : cells + 1 ≤ mc) (hs : slots + 6 ≤ ms) :
    W p l e R s m args below meth c H locs cells slots (vx_MQ below Qc XC args s mc ms free) (F0 m pc ls rest) := by
  intro T hT X
  have htr : e.platform.stackTraces = false := (show e.platform.stackTraces = l.stackTraces by rw [X.admits.platform]).trans hl
  have Y := vx_rebase X (R' := { frames := R.frames, locals := R.locals, cells := 1, slots := 6 }) (Nat.le_refl _) (Nat.le_refl _) hRcells hRslots
  obtain ⟨s', hA⟩ : ∃ z, z = (T.setVm s.vm).setFrames (.invoking m args :: below) := ⟨_, rfl⟩
  rw [← hA] at Y
  have hvm : s'.vm = s.vm := by rw [hA]; rfl
  have hhp : s'.heap = H := by rw [hA]; exact hT
  have hW0 : s.WarmedH s'.vm := by rw [hvm]; exact State.WarmedH.refl s
  have hat' : ∀ w ∈ vx_atS own ic cls names, w.before args s' = true := fun w hw => vx_ot_at hW0 hvm.symm (hgood w (List.mem_cons_of_mem _ (List.mem_cons_of_mem _ hw))) (hat w hw)
  have hk' : (Cond.classLink own ik cls).before args s' = true := vx_ot_at hW0 hvm.symm (hgood _ List.mem_cons_self) hk
  have hini' : (Cond.initialized cls).before args s' = true := vx_ot_at hW0 hvm.symm (hgood _ (List.mem_cons_of_mem _ List.mem_cons_self)) hini
  have hU' : vx_Zq Bundle.tN "UNASSIGNED_STACK" Bundle.steD A s' s'.heap := by rw [hhp]; exact vx_Zq.moved hW0.alike (hU.kept hS.2.1)
  have hN' : vx_Zq Bundle.tN "SUPPRESSED_SENTINEL" Bundle.listD A s' s'.heap := by rw [hhp]; exact vx_Zq.moved hW0.alike (hN.kept hS.2.1)
  have h : ∀ w ∈ Bundle.ownAtoms own ic cls names, w.before args s' = true := vx_own hat' (vx_isRefq hU'.1) (vx_isRefq hN'.1) hU'.2.word hN'.2.word
  have hown' : s'.vm.findClass own = some m.cls := by rw [hvm]; exact hown
  have hins : (Cond.instantiable cls 6).before args s' = true := h _ (by simp [Bundle.ownAtoms])
  obtain ⟨vm₁, cX, kX, hfX, hkX, -, -, X₁, st1⟩ := Y.newCold hexec (own := own) (C := cls) (index := ik) (n := 6) hown' hk' hins hini'
    (g := F0 m pc ls rest) rfl (by rw [hb]; exact d0) (Nat.le_refl _) (Nat.le_refl _)
  generalize hT1 : (T.setVm vm₁).pushCell { cls := cX, slots := kX.instanceTypes.map defaultValue, vm := .none } = T1 at X₁ st1
  have hcat : (Value.ref T.heap.size).category = 1 := rfl
  have hcellA : T1.heap[T.heap.size]? = some (freshCell cX kX) := by rw [← hT1]; exact State.heap_pushCell_size _ _
  have d3' : decode c.code (pc + 3) = .ok (.dup, 1) := by rw [hb]; exact d3
  have d4' : decode c.code (pc + 4) = .ok (.ldc is, 2) := by rw [hb]; exact d4
  have hstr' : vk_R own is text sa s' := vk_R.warm hW0 hstr
  obtain ⟨U, hsteps, hrun, hend, hW, hsame, ce, hce, hO⟩ := X₁.ctorThrowS hexec htr (own := own) (cls := cls) (names := names) (ic := ic) hown' hcls hnames h (fun x hx => nomatch hx) hfX hkX hcellA (by rw [hhp, hT]; exact Nat.le_refl _) (msg := .ref sa) rfl
    (g := { method := m, pc := pc + 6, locals := ls, stack := .ref sa :: .ref T.heap.size :: .ref T.heap.size :: rest, locked := none }) rfl hsize rfl rfl (rest := rest) rfl
    (by rw [hb]; exact d6) (by rw [hb]; exact d9) hout hRframes (by simp only [List.map_cons, List.sum_cons, hcat]; omega) hlocks
  obtain ⟨f1, f2⟩ := vx_frame hsame
  rw [hhp] at f1 f2
  have hWs : s.WarmedH U.vm := State.WarmedH.trans hW0 hW
  have hcl : s.vm.findClass cls = some ce.cls := by
    have h9 := hO.cls
    rw [hvm] at h9
    exact h9
  have hall : s.sameButNew ({ U with vm := s.vm } : State) locs mc ms := by
    subst hA
    obtain ⟨e1, e2⟩ := hsame
    rw [State.setFrames_setFrames] at e1
    have h2 : (T.setVm s.vm).sameButNew ({ U with vm := s.vm } : State) [] (0 + 1) (0 + 6) := ⟨e1, e2⟩
    have h3 := X.same.trans h2
    rw [List.append_nil] at h3
    exact h3.mono hc hs
  refine ⟨U, ?_, .threw T.heap.size, hrun, hend, Or.inr ⟨T.heap.size, rfl, cls, ce, locs, hx U hWs.alike f1 (fun q hq => f2 q hq (fun z hz => nomatch hz)), hce, hO.vm, hcl, hWs, hall, hf⟩⟩
  refine st1 _ ?_
  show Steps p.tables e below (T1.setTop { method := m, pc := pc + 3, locals := ls, stack := .ref T.heap.size :: rest, locked := none }) _
  jvm_step X₁.here [X₁.here.top, hexec, d3', Value.category]
  exact X₁.ldcString hexec (own := own) (text := text) (index := is) (a := sa) hown' hstr'.1 hstr'.2
    (g := { method := m, pc := pc + 4, locals := ls, stack := .ref T.heap.size :: .ref T.heap.size :: rest, locked := none }) rfl d4' _ hsteps
/-- 'throw new E("text")', the text by a wide index -/
theorem vx_throwSW {cc : ByteArray} {pc : Nat} (hexec : p.tables.exec = Jvm.exec) (hb : c.code = cc) (hl : l.stackTraces = false) {own cls text : String} {names : List String} {ik is ic mc ms sa : Nat} {A : Nat → Prop}
    (hown : s.vm.findClass own = some m.cls) (hcls : Bundle.fit cls = true) (hnames : ∀ n ∈ names, Bundle.fit n = true)
    (hk : (Cond.classLink own ik cls).before args s = true) (hini : (Cond.initialized cls).before args s = true) (hstr : vk_R own is text sa s) (hat : ∀ w ∈ vx_atS own ic cls names, w.before args s = true)
    (hgood : ∀ w ∈ Cond.classLink own ik cls :: Cond.initialized cls :: vx_atS own ic cls names, vx_ot w = true)
    (hU : vx_Zq Bundle.tN "UNASSIGNED_STACK" Bundle.steD A s s.heap) (hN : vx_Zq Bundle.tN "SUPPRESSED_SENTINEL" Bundle.listD A s s.heap) (hS : va_S A s.heap H locs) (hsize : ls.size = c.maxLocals)
    (d0 : decode cc pc = .ok (.new ik, 3)) (d3 : decode cc (pc + 3) = .ok (.dup, 1)) (d4 : decode cc (pc + 4) = .ok (.ldc_w is, 3)) (d7 : decode cc (pc + 7) = .ok (.invokespecial ic, 3)) (d10 : decode cc (pc + 10) = .ok (.athrow, 1))
    (hout : ∀ x ∈ c.exceptionTable.toList, covers x (pc + 10) = false)
    (hRframes : names.length + 3 < R.frames) (hRlocals : (rest.map fun v => v.category).sum + (13 * (names.length + 1) + 43) ≤ R.locals) (hRcells : cells + 1 ≤ R.cells) (hRslots : slots + 6 ≤ R.slots) (hlocks : meth.locks = false)
    (hx : ∀ t : State, s.vm.Alike t.vm → H.size ≤ t.heap.size → (∀ q : Nat, q < H.size → t.heap[q]? = H[q]?) → XC cls s t)
    (hf : ∀ z ∈ locs, free z.base) (hc : cells + 1 ≤ mc) (hs : slots + 6 ≤ ms) :
    W p l e R s m args below meth c H locs cells slots (vx_MQ below Qc XC args s mc ms free) (F0 m pc ls rest) := by
  intro T hT X
  have htr : e.platform.stackTraces = false := (show e.platform.stackTraces = l.stackTraces by rw [X.admits.platform]).trans hl
  have Y := vx_rebase X (R' := { frames := R.frames, locals := R.locals, cells := 1, slots := 6 }) (Nat.le_refl _) (Nat.le_refl _) hRcells hRslots
  obtain ⟨s', hA⟩ : ∃ z, z = (T.setVm s.vm).setFrames (.invoking m args :: below) := ⟨_, rfl⟩
  rw [← hA] at Y
  have hvm : s'.vm = s.vm := by rw [hA]; rfl
  have hhp : s'.heap = H := by rw [hA]; exact hT
  have hW0 : s.WarmedH s'.vm := by rw [hvm]; exact State.WarmedH.refl s
  have hat' : ∀ w ∈ vx_atS own ic cls names, w.before args s' = true := fun w hw => vx_ot_at hW0 hvm.symm (hgood w (List.mem_cons_of_mem _ (List.mem_cons_of_mem _ hw))) (hat w hw)
  have hk' : (Cond.classLink own ik cls).before args s' = true := vx_ot_at hW0 hvm.symm (hgood _ List.mem_cons_self) hk
  have hini' : (Cond.initialized cls).before args s' = true := vx_ot_at hW0 hvm.symm (hgood _ (List.mem_cons_of_mem _ List.mem_cons_self)) hini
  have hU' : vx_Zq Bundle.tN "UNASSIGNED_STACK" Bundle.steD A s' s'.heap := by rw [hhp]; exact vx_Zq.moved hW0.alike (hU.kept hS.2.1)
  have hN' : vx_Zq Bundle.tN "SUPPRESSED_SENTINEL" Bundle.listD A s' s'.heap := by rw [hhp]; exact vx_Zq.moved hW0.alike (hN.kept hS.2.1)
  have h : ∀ w ∈ Bundle.ownAtoms own ic cls names, w.before args s' = true := vx_own hat' (vx_isRefq hU'.1) (vx_isRefq hN'.1) hU'.2.word hN'.2.word
  have hown' : s'.vm.findClass own = some m.cls := by rw [hvm]; exact hown
  have hins : (Cond.instantiable cls 6).before args s' = true := h _ (by simp [Bundle.ownAtoms])
  obtain ⟨vm₁, cX, kX, hfX, hkX, -, -, X₁, st1⟩ := Y.newCold hexec (own := own) (C := cls) (index := ik) (n := 6) hown' hk' hins hini'
    (g := F0 m pc ls rest) rfl (by rw [hb]; exact d0) (Nat.le_refl _) (Nat.le_refl _)
  generalize hT1 : (T.setVm vm₁).pushCell { cls := cX, slots := kX.instanceTypes.map defaultValue, vm := .none } = T1 at X₁ st1
  have hcat : (Value.ref T.heap.size).category = 1 := rfl
  have hcellA : T1.heap[T.heap.size]? = some (freshCell cX kX) := by rw [← hT1]; exact State.heap_pushCell_size _ _
  have d3' : decode c.code (pc + 3) = .ok (.dup, 1) := by rw [hb]; exact d3
  have d4' : decode c.code (pc + 4) = .ok (.ldc_w is, 3) := by rw [hb]; exact d4
  have hstr' : vk_R own is text sa s' := vk_R.warm hW0 hstr
  obtain ⟨U, hsteps, hrun, hend, hW, hsame, ce, hce, hO⟩ := X₁.ctorThrowS hexec htr (own := own) (cls := cls) (names := names) (ic := ic) hown' hcls hnames h (fun x hx => nomatch hx) hfX hkX hcellA (by rw [hhp, hT]; exact Nat.le_refl _) (msg := .ref sa) rfl
    (g := { method := m, pc := pc + 7, locals := ls, stack := .ref sa :: .ref T.heap.size :: .ref T.heap.size :: rest, locked := none }) rfl hsize rfl rfl (rest := rest) rfl
    (by rw [hb]; exact d7) (by rw [hb]; exact d10) hout hRframes (by simp only [List.map_cons, List.sum_cons, hcat]; omega) hlocks
  obtain ⟨f1, f2⟩ := vx_frame hsame
  rw [hhp] at f1 f2
  have hWs : s.WarmedH U.vm := State.WarmedH.trans hW0 hW
  have hcl : s.vm.findClass cls = some ce.cls := by
    have h9 := hO.cls
    rw [hvm] at h9
    exact h9
  have hall : s.sameButNew ({ U with vm := s.vm } : State) locs mc ms := by
    subst hA
    obtain ⟨e1, e2⟩ := hsame
    rw [State.setFrames_setFrames] at e1
    have h2 : (T.setVm s.vm).sameButNew ({ U with vm := s.vm } : State) [] (0 + 1) (0 + 6) := ⟨e1, e2⟩
    have h3 := X.same.trans h2
    rw [List.append_nil] at h3
    exact h3.mono hc hs
  refine ⟨U, ?_, .threw T.heap.size, hrun, hend, Or.inr ⟨T.heap.size, rfl, cls, ce, locs, hx U hWs.alike f1 (fun q hq => f2 q hq (fun z hz => nomatch hz)), hce, hO.vm, hcl, hWs, hall, hf⟩⟩
  refine st1 _ ?_
  show Steps p.tables e below (T1.setTop { method := m, pc := pc + 3, locals := ls, stack := .ref T.heap.size :: rest, locked := none }) _
  jvm_step X₁.here [X₁.here.top, hexec, d3', Value.category]
  exact X₁.ldcStringW hexec (own := own) (text := text) (index := is) (a := sa) hown' hstr'.1 hstr'.2
    (g := { method := m, pc := pc + 4, locals := ls, stack := .ref T.heap.size :: .ref T.heap.size :: rest, locked := none }) rfl d4' _ hsteps
end Ends
section Bodies
variable {l : Launch}
theorem vx_ofW {y : MethodName} {ws ws' : List Cond} {rm : Room} {Pc : Array Value → State → Prop} {Qc : Array Value → State → Outcome → State → Prop} {XC : String → State → State → Prop} {mc ms : Nat} {free : Addr → Prop} {cc : ByteArray} {maxL : Nat} {ret : Option FieldType}
    (hy : plainName y.cls = true) (hw : ws = Cond.code y cc maxL ret :: ws')
    (body : ∀ p e s m args below meth c s₁, BodyLoose p l y (headSpec ws rm) cc maxL ret e s m args below meth c s₁ → c.maxLocals = maxL → (∀ x ∈ c.exceptionTable.toList, False) → Pc args s →
      W p l e (headSpec ws rm).room s m args below meth c s.heap [] 0 0 (vx_MQ below Qc XC args s mc ms free) (entryFrame m args maxL)) : vx_Met l y ws rm Pc Qc XC mc ms free := by
  refine MetFree.of_bodyS (code := cc) (maxLocals := maxL) (ret := ret) hy ?_ ?_
  · intro args s m h hn
    obtain ⟨meth, c, h1, h2, h3, h4, h5, h6, -, -⟩ := Cond.code_spec hn (atoms_spec (ws := ws) h _ (by rw [hw]; exact List.mem_cons_self))
    exact ⟨meth, c, h1, h2, h3, h4, h5, h6⟩
  · intro p e s m args below meth c s₁ B hml hP _
    have hh0 : s₁.heap = s.heap := by rw [B.state]; rfl
    have ht : ∀ x ∈ c.exceptionTable.toList, False := by
      obtain ⟨meth9, c9, h1, h2, -, -, -, -, h7, -⟩ := Cond.code_spec B.named (atoms_spec (ws := ws) B.pre _ (by rw [hw]; exact List.mem_cons_self))
      cases Option.some.inj (h1.symm.trans B.method)
      cases Option.some.inj (h2.symm.trans (Stand.of_body B).code)
      intro x hx
      rw [Array.isEmpty_iff.mp h7] at hx
      cases hx
    obtain ⟨t, a1, o, b1, b2, b3⟩ := body p e s m args below meth c s₁ B hml ht hP s₁ hh0 (Stand.of_body B)
    exact ⟨t, o, a1, b1, b2, b3⟩
/-- the table of a body with handlers -/
theorem vx_table {p : Program} {x y : MethodName} {S : Spec} {cc bytes : ByteArray} {maxL maxL' : Nat} {ret ret' : Option FieldType} {e : Env} {s s₁ : State} {m : MethodId} {args : Array Value} {below : List Frame} {meth : Method} {c : Code} {hh : List (Nat × Nat × Nat × Nat)}
    (B : BodyLoose p l y S cc maxL ret e s m args below meth c s₁) (h : (Cond.codeWith y bytes maxL' ret' hh).before args s = true) : c.exceptionTable.toList = tableOf hh := by
  obtain ⟨m9, meth9, c9, hn9, h1, h2, -, -, h6, -⟩ := Cond.codeWith_spec h
  cases Option.some.inj (hn9.symm.trans B.named)
  cases Option.some.inj (h1.symm.trans B.method)
  cases Option.some.inj (h2.symm.trans (Stand.of_body B).code)
  rw [← h6, table_eq]
end Bodies
end VXA
/-! ===== END ===== -/
/-! ===== BEGIN a static call of a method with an exception table ===== -/
section VXS
variable {p : Program} {l : Launch} {e : Env} {R : Room} {s : State} {m : MethodId} {args : Array Value} {below : List Frame} {meth : Method} {c : Code} {T : State} {H : Heap} {locs : List Loc} {cells slots : Nat}
abbrev vx_CSW (R : Room) (s : State) (args : Array Value) (own : String) (index : Nat) (y : MethodName) (bytes : ByteArray) (maxL : Nat) (ret : Option FieldType) (hh : List (Nat × Nat × Nat × Nat)) (ws : List Cond) (rm : Room) (mc ms n : Nat) : Prop :=
  (rm.cells = mc ∧ rm.slots = ms ∧ rm.frames + 1 ≤ R.frames ∧ 8 + (maxL + 11) + rm.locals ≤ R.locals ∧ (∀ w ∈ ws, ∀ (a' : Array Value) (U : State), s.WarmedH U.vm → w.before a' U = true) ∧ Cond.codeWith y bytes maxL ret hh ∈ ws) ∧
  (Cond.codeWith y bytes maxL ret hh).before args s = true ∧ (Cond.initialized y.cls).before args s = true ∧ (y.cls ≠ "java/lang/invoke/MethodHandle" ∧ y.cls ≠ "java/lang/invoke/VarHandle") ∧
  (∀ sig, parseMethodDescriptor y.desc = some sig → n = sig.parameters.length) ∧ (Cond.methodLink own index y).before args s = true ∧ (Cond.static y).before args s = true
theorem vx_cwSW {own : String} {index maxL mc ms : Nat} {y : MethodName} {bytes : ByteArray} {ret : Option FieldType} {hh : List (Nat × Nat × Nat × Nat)} {Ts ws ws' : List Cond} {rm : Room} (n : Nat) (ht : ∀ w ∈ Ts, w.before args s = true) (hT : GoodIn Ts (va_wsS own index y ws)) (hw : ws = Cond.codeWith y bytes maxL ret hh :: ws') (hrc : rm.cells = mc) (hrs : rm.slots = ms)
    (hd : y.cls ≠ "java/lang/invoke/MethodHandle" ∧ y.cls ≠ "java/lang/invoke/VarHandle" ∧ (parseMethodDescriptor y.desc).map (fun d => d.parameters.length) = some n) (hR : rm.frames + 1 ≤ R.frames ∧ 8 + (maxL + 11) + rm.locals ≤ R.locals) :
    vx_CSW R s args own index y bytes maxL ret hh ws rm mc ms n := by
  have ok : ∀ w ∈ va_wsS own index y ws, w.before args s = true := fun w h => ht w (hT w h).1
  have hG : GoodIn Ts ws := fun w h => hT w (by unfold va_wsS; exact List.mem_append_right _ h)
  have hc : Cond.codeWith y bytes maxL ret hh ∈ ws := by rw [hw]; exact List.mem_cons_self
  refine ⟨⟨hrc, hrs, hR.1, hR.2, pay_in ht hG, hc⟩, ht _ (hG _ hc).1, ok _ (by simp [va_wsS]), ⟨hd.1, hd.2.1⟩, fun sig h => ?_, ok _ (by simp [va_wsS]), ok _ (by simp [va_wsS])⟩
  have h2 := hd.2.2
  rw [h] at h2
  exact (Option.some.inj h2).symm
theorem vx_callSW (X : Stand p l e R s m args below meth c T locs cells slots) (hexec : p.tables.exec = Jvm.exec) {own : String} {index : Nat} {y : MethodName} {bytes : ByteArray} {maxL : Nat} {ret : Option FieldType} {hh : List (Nat × Nat × Nat × Nat)}
    (hown : s.vm.findClass own = some m.cls) (hlink : (Cond.methodLink own index y).before args s = true) (hstat : (Cond.static y).before args s = true) (hinit : (Cond.initialized y.cls).before args s = true)
    (hcode : (Cond.codeWith y bytes maxL ret hh).before args s = true) (hy : y.cls ≠ "java/lang/invoke/MethodHandle" ∧ y.cls ≠ "java/lang/invoke/VarHandle")
    {W9 : Nat} {Pre : Pt → Array Value → Prop} {Post : Pt → Array Value → Option Value → Pt → Prop} (hK : Back l R p e below s args y 3 W9 Pre Post)
    {g : JFrame} (hg : g.method = m) (hsize : g.locals.size = c.maxLocals) {argsL rest : List Value} (hlen : ∀ sig, parseMethodDescriptor y.desc = some sig → argsL.length = sig.parameters.length)
    (hstack : g.stack = argsL.reverse ++ rest) (hW : 2 * g.monitorRoom + (rest.map fun v => v.category).sum ≤ W9) (hdg : decode c.code g.pc = .ok (.invokestatic index, 3))
    (hpre : ∀ vm₁, s.WarmedH vm₁ → Pre ⟨T.setVm vm₁, locs, cells, slots⟩ argsL.toArray) :
    ∃ (v : Option Value) (vm₁ : Vm) (B : Pt), s.WarmedH vm₁ ∧ Stand p l e R s m args below meth c B.U B.locs B.cells B.slots ∧ Post ⟨T.setVm vm₁, locs, cells, slots⟩ argsL.toArray v B ∧
      ∀ target, Steps p.tables e below (B.U.setTop { g with pc := g.pc + 3, stack := v.toList ++ rest }) target → Steps p.tables e below (T.setTop g) target := by
  obtain ⟨mk, methM, cM, hnamed, hmethM, -, -, -, -, -, -, hsigM⟩ := Cond.codeWith_spec hcode
  have hstatic : methM.isStatic = true := Cond.static_spec hnamed hmethM hstat
  obtain ⟨kP, hkP, -⟩ := className_of_methodNamed hnamed
  have hinitP : kP.init = .initialized := Cond.initialized_spec (findClass_of_methodNamed hnamed) hkP hinit
  obtain ⟨vm₁, X₁, hstep₁⟩ := X.invokestatic hexec hown hlink hnamed hmethM hstatic hkP hinitP hy (g := g) hg (argsL := argsL) (rest := rest) (hlen _ hsigM) hstack hdg
  obtain ⟨v, B, X', hpost, hsteps⟩ := hK m meth c ⟨T.setVm vm₁, locs, cells, slots⟩ { g with stack := rest } (.invokestatic index) mk argsL.toArray X₁ hg hsize hdg hW (X₁.named hnamed) (hpre vm₁ X₁.warmed)
  exact ⟨v, vm₁, B, X₁.warmed, X', hpost, fun target h => hstep₁ _ fun acts => by rw [doInvoke_state]; exact hsteps.trans h⟩
theorem vx_runSW {y : MethodName} {bytes cc : ByteArray} {maxL nL mc ms n index : Nat} {ret : Option FieldType} {hh : List (Nat × Nat × Nat × Nat)} {ws : List Cond} {rm : Room} {Pc : Array Value → State → Prop} {Qc : Array Value → State → Outcome → State → Prop} {free : Addr → Prop} {Ts : List Cond} {own : String} {As rest : List Value} {g : JFrame}
    (S : CallFix p m c cc nL s args Ts own) (hM : Met l y ws rm Pc Qc mc ms free) (cw : vx_CSW R s args own index y bytes maxL ret hh ws rm mc ms n) (hp : PreS s H Pc As)
    (hg : g.method = m) (hn : As.length = n) (hsize : g.locals.size = nL) (hstack : g.stack = As.reverse ++ rest) (hW : 2 * g.monitorRoom + (rest.map fun v => v.category).sum ≤ 8) (hdg : decode cc g.pc = .ok (.invokestatic index, 3)) (hf : cells + mc ≤ R.cells ∧ slots + ms ≤ R.slots) :
    va_Run p l e R s m args below meth c H locs cells slots mc ms g rest (Qc As.toArray) (free) := by
  obtain ⟨⟨hrc, hrs, hfr, hlo, hws, hcw⟩, hcode, hini, hy, hlen, hl, hstt⟩ := cw
  have hK : Back l R p e below s args y 3 8 (PreOf R mc ms Pc) (PostOf Qc mc ms free) := va_backW (hh := hh) (bytes := bytes) (maxL := maxL) (ret := ret) hM hp.1 hrc hrs hfr hlo hws hcw (fun a' U hW => word_at hW (Or.inl (by first | rfl | simp [Cond.onTables, Cond.keeps, Cond.steady])) hini)
  obtain ⟨hx, hb, hml, ho, -⟩ := S
  intro T hT X
  obtain ⟨v, vm₁, ⟨U', l2, c2, s2⟩, hW₁, X', ⟨g', mk, t, L, e1, e2, hq, h1, hL, h2, h3⟩, st⟩ := vx_callSW X hx (hh := hh) (bytes := bytes) (maxL := maxL) (ret := ret) ho hl hstt hini hcode hy hK hg (hsize.trans hml.symm) (argsL := As) (rest := rest) (fun sig h => hn.trans (hlen sig h)) hstack hW (by rw [hb]; exact hdg)
    (fun vm₁ hW₁ => ⟨hf.1, hf.2, hp.2 (T.setVm vm₁) hT hW₁⟩)
  dsimp only [Pt.U, Pt.locs, Pt.cells, Pt.slots] at X' e1 e2 h1 h2 h3 st
  subst h1; subst h2; subst h3
  exact ⟨v, (T.setVm vm₁).calling g' mk As.toArray, t, U', L, hT, X', hL, e1, e2, hq, st⟩
/-- not caught here, past rows that name other classes: it goes on to the caller -/
theorem vx_outP {p : Program} {l : Launch} {e : Env} {R : Room} {s : State} {m : MethodId} {args : Array Value} {below : List Frame} {meth : Method} {c : Code} {H : Heap} {locs : List Loc} {cells slots : Nat} {free : Addr → Prop} {ls : Array Slot} {rest : List Value} {Qc : Array Value → State → Outcome → State → Prop} {XC : String → State → State → Prop}
    {pc : Nat} {own E : String} {ce : Cell} {q : Addr} {mc ms : Nat} (hown : s.vm.findClass own = some m.cls) (hlocks : meth.locks = false)
    (hpass : ∀ z ∈ c.exceptionTable.toList, covers z pc = false ∨ (z.catchType ≠ 0 ∧ ∃ nm : String, (Cond.classLink own z.catchType nm).before args s = true ∧ va_Nc E nm s)) (hcell : H[q]? = some ce) (hv : ce.vm = .none) (hcl : s.vm.findClass E = some ce.cls)
    (hx : ∀ t : State, t.heap = H → s.vm.Alike t.vm → XC E s t) (hf : ∀ z ∈ locs, free z.base) (hc : cells ≤ mc) (hs : slots ≤ ms) :
    vx_W p l e R s m args below meth c H locs cells slots (vx_MQ below Qc XC args s mc ms free) (F0 m pc ls rest) q := by
  intro T hT X
  have hpl : e.platform.magicAccessors = ({} : Platform).magicAccessors := by rw [X.admits.platform]
  obtain ⟨vm', hW', X', st⟩ := X.outThrough hlocks q (g := F0 m pc ls rest) rfl rfl rfl (cell := ce) (by rw [hT]; exact hcell) (by rw [hv]; rfl)
    (by obtain ⟨k9, h9, -⟩ := Vm.findClass_spec hcl; exact ⟨k9, h9⟩) (fun z hz => by
      rcases hpass z hz with h | ⟨hz0, nm, hl1, hn1⟩
      · exact Or.inl h
      · obtain ⟨c6, hc6, hcl6⟩ := Cond.classLink_spec hown hl1 e.platform hpl
        obtain ⟨a8, b8, h1, h2, h3⟩ := hn1
        cases Option.some.inj (h1.symm.trans hcl)
        cases Option.some.inj (h2.symm.trans hc6)
        exact Or.inr ⟨hz0, _, hcl6, h3⟩)
  obtain ⟨g₀, hfr⟩ := X'.frames_eq
  have hcell9 : ((T.setVm vm').setFrames (.throwing q :: below)).heap[q]? = some ce := by
    show T.heap[q]? = some ce
    rw [hT]; exact hcell
  have hend : Ended ((T.setVm vm').setFrames (.throwing q :: below)) below (.threw q) := State.frames_setFrames _ (State.cur_lt_of_frames hfr)
  refine ⟨(T.setVm vm').setFrames (.throwing q :: below), ?_, .threw q, X'.here.running, hend, Or.inr ⟨q, rfl, E, ce, locs, hx _ hT (X'.ends _).1.alike, hcell9, hv, hcl, (X'.ends _).1, (X'.ends _).2.mono hc hs, hf⟩⟩
  rw [X.pushThrowing_eq]
  exact st
/-- a thing of a world lies in the heap -/
theorem vx_lt {D : va_G} {cl : List vw_C} {ws : va_W} {H1 : Heap} (h : va_P D cl ws H1) {k : Nat} {q : Nat × va_E} (hk : ws[k]? = some q) : q.1 < H1.size := (h k q hk).lt
end VXS
/-! ===== END ===== -/
/-! ===== BEGIN methods with a table of their own: called by a name, returning or throwing ===== -/
section VXH
/-! vx_backW, vx_callVX, vx_callSX, vx_callVW, vx_runVW, vx_runVX, vx_runSX, vx_ofWH follow the same proofs as their sisters above (Free/Laws.lean, Shelf42/LK1.lean); vx_outP calls Shelf42/NT130.lean (outThrough). -/
section
variable {l : Launch} {R : Room} {p : Program} {e : Env} {below : List Frame} {s : State} {sargs : Array Value} {y : MethodName} {len W9 : Nat}
theorem vx_backW {ws : List Cond} {rm : Room} {Pc : Array Value → State → Prop} {Qc : Array Value → State → Outcome → State → Prop} {XC : String → State → State → Prop} {mc ms : Nat} {free : Addr → Prop} {bytes : ByteArray} {maxL : Nat} {ret : Option FieldType} {hh : List (Nat × Nat × Nat × Nat)}
    (hM : vx_Met l y ws rm Pc Qc XC mc ms free) (hblind : FrameBlind Pc) (hrc : rm.cells = mc) (hrs : rm.slots = ms)
    (hframes : rm.frames + 1 ≤ R.frames) (hlocals : W9 + (maxL + 11) + rm.locals ≤ R.locals)
    (hws : ∀ w ∈ ws, ∀ a' U, s.WarmedH U.vm → w.before a' U = true) (hcode : Cond.codeWith y bytes maxL ret hh ∈ ws) (hinit : ∀ a' U, s.WarmedH U.vm → (Cond.initialized y.cls).before a' U = true) :
    vx_Back l R p e below s sargs y len W9 (PreOf R mc ms Pc) (PostOf Qc mc ms free) (vx_Post XC mc ms free) := by
  intro m meth c A g ig mk a X hg hsize hdg hW hn hp
  have h1 : (headSpec ws rm).pre.before a A.U = true := atoms_intro fun w hw => hws w hw _ _ X.warmed
  have h2 : (Cond.codeWith y bytes maxL ret hh).before a A.U = true := hws _ hcode _ _ X.warmed
  have h3 : (Cond.initialized y.cls).before a A.U = true := hinit _ _ X.warmed
  have h4 : A.cells + (headSpec ws rm).room.cells ≤ R.cells := by rw [show (headSpec ws rm).room.cells = mc from hrc]; exact hp.1
  have h5 : A.slots + (headSpec ws rm).room.slots ≤ R.slots := by rw [show (headSpec ws rm).room.slots = ms from hrs]; exact hp.2.1
  have hPc : Pc a (A.U.calling g mk a) := hblind _ _ _ _ hp.2.2
  obtain ⟨U, Ls, c0, s0⟩ := A
  dsimp only [Pt.U, Pt.locs, Pt.cells, Pt.slots] at h1 h2 h3 h4 h5 X hn hPc ⊢
  obtain ⟨m9, methY, cY, hn9, hmY, hcY, -, hlY, -⟩ := Cond.codeWith_spec h2
  cases Option.some.inj (hn9.symm.trans hn)
  obtain ⟨kY, hkY, -⟩ := className_of_methodNamed hn
  have hinitY : kY.init = .initialized := Cond.initialized_spec (findClass_of_methodNamed hn) hkY h3
  have h : At U g.method c below := by rw [hg]; exact X.here
  have hlocals9 : W9 + (maxL + 11) + (headSpec ws rm).room.locals ≤ R.locals := hlocals
  have happ : (headSpec ws rm).appliesLoose y e.platform (U.calling g mk a) = true :=
    Spec.appliesLoose_calling (g := g) h hdg hn hkY hinitY
      (X.room_calling (g := g) (R' := (headSpec ws rm).room) hsize hmY hcY hframes (by rw [hlY]; omega) h4 h5) h1
  obtain ⟨mid, hmid⟩ := h.above
  have hfr : (U.setTop g).frames = (.java g :: mid) ++ below := by rw [State.frames_setTop' g h.top, hmid]; rfl
  obtain ⟨o, s₂, hsteps, -, hend, hq⟩ := Steps.callFree hM p X.admits X.cas X.clock (acts := []) hfr happ hPc trivial
  have hq' : vx_Q Qc XC mc ms free a (U.calling g mk a) o s₂ := hq
  rw [State.frames_setTop' g h.top] at hend
  obtain ⟨g₀, hg0⟩ := Option.isSome_iff_exists.mp h.top
  obtain ⟨r, hr⟩ := State.topJava?_eq_some.mp hg0
  have hr' : (({ U with heap := s₂.heap, slotsUsed := s₂.slotsUsed } : State).setVm s₂.vm).frames = .java g₀ :: r := hr
  rcases hq' with ⟨hqc, L, hfe, hL⟩ | ⟨q, rfl, E, ce, L, hx, hce, hcv, hcl, hW₂, hsm, hL⟩
  · obtain ⟨⟨v, rfl⟩, hW₂, e2, q2, q3, q4, q5, q6⟩ := id hfe
    have e3 : s₂ = ({ (U.calling g mk a).setFrames s₂.frames with heap := s₂.heap, slotsUsed := s₂.slotsUsed } : State).setVm s₂.vm := by
      have : s₂ = ({ s₂ with vm := (U.calling g mk a).vm } : State).setVm s₂.vm := rfl
      rw [e2] at this
      exact this
    obtain ⟨c₂, i₂, len₂, hc₂, hd₂, hf₂⟩ := hend
    have hW' : U.WarmedH s₂.vm := hW₂
    have hcc : c₂ = c := by
      have h1 : s₂.code? g.method = U.code? g.method := by
        rw [State.code?_eq, State.code?_eq, hW'.alike.method?]
      exact Option.some.inj (hc₂.symm.trans (h1.trans h.code))
    subst hcc
    have hlen : len₂ = len := by rw [hdg] at hd₂; cases hd₂; rfl
    subst hlen
    have hs₂ : s₂ = (({ U with heap := s₂.heap, slotsUsed := s₂.slotsUsed } : State).setVm s₂.vm).setTop { g with pc := g.pc + len₂, stack := v.toList ++ g.stack } := by
      refine e3.trans ?_
      rw [hf₂, State.calling_eq h.top, State.setFrames_setFrames, State.setTop_of_frames _ hr', hr]
      rfl
    have hsame : U.sameButNew ({ U with heap := s₂.heap, slotsUsed := s₂.slotsUsed } : State) L mc ms := by
      refine ⟨?_, q2, q3, q4, q5, q6⟩
      obtain ⟨t, ht, -⟩ := State.frames_cons hr
      show ({ U with heap := s₂.heap, slotsUsed := s₂.slotsUsed } : State) = { U.setFrames U.frames with heap := s₂.heap, slotsUsed := s₂.slotsUsed }
      rw [State.setFrames_self ht]
    subst hg
    refine Or.inl ⟨v, ⟨(({ U with heap := s₂.heap, slotsUsed := s₂.slotsUsed } : State).setVm s₂.vm), Ls ++ L, c0 + mc, s0 + ms⟩,
      ⟨X.admits, X.cas, X.clock, X.frames, X.room, X.hears, X.method, X.code, (X.here.setHeapUsed s₂.heap s₂.slotsUsed).setVm hW'.alike, X.tail, State.WarmedH.trans X.warmed hW', X.limits, X.bytes, X.same.trans (hsame.setVm s.vm)⟩,
      ⟨g, mk, s₂, L, rfl, rfl, hqc, rfl, hL, rfl, rfl⟩, ?_⟩
    show Steps p.tables e below _ ((({ U with heap := s₂.heap, slotsUsed := s₂.slotsUsed } : State).setVm s₂.vm).setTop { g with pc := g.pc + len₂, stack := v.toList ++ g.stack })
    rw [← hs₂]
    exact hsteps
  · obtain ⟨e2, q2, q3, q4, q5, q6⟩ := id hsm
    have e3 : s₂ = ({ (U.calling g mk a).setFrames s₂.frames with heap := s₂.heap, slotsUsed := s₂.slotsUsed } : State).setVm s₂.vm := by
      have : s₂ = ({ s₂ with vm := (U.calling g mk a).vm } : State).setVm s₂.vm := rfl
      rw [e2] at this
      exact this
    have hf₂ : s₂.frames = .throwing q :: .java g :: U.frames.tail := hend
    have hW' : U.WarmedH s₂.vm := hW₂
    have hs₂ : s₂ = ((({ U with heap := s₂.heap, slotsUsed := s₂.slotsUsed } : State).setVm s₂.vm).setTop g).pushFrame (.throwing q) := by
      refine e3.trans ?_
      rw [hf₂, State.calling_eq h.top, State.setFrames_setFrames, State.pushFrame, State.frames_setTop _ hr', State.setTop_of_frames _ hr', State.setFrames_setFrames, hr]
      rfl
    have hsame : U.sameButNew ({ U with heap := s₂.heap, slotsUsed := s₂.slotsUsed } : State) L mc ms := by
      refine ⟨?_, q2, q3, q4, q5, q6⟩
      obtain ⟨t, ht, -⟩ := State.frames_cons hr
      show ({ U with heap := s₂.heap, slotsUsed := s₂.slotsUsed } : State) = { U.setFrames U.frames with heap := s₂.heap, slotsUsed := s₂.slotsUsed }
      rw [State.setFrames_self ht]
    subst hg
    refine Or.inr ⟨q, ⟨(({ U with heap := s₂.heap, slotsUsed := s₂.slotsUsed } : State).setVm s₂.vm), Ls ++ L, c0 + mc, s0 + ms⟩,
      ⟨X.admits, X.cas, X.clock, X.frames, X.room, X.hears, X.method, X.code, (X.here.setHeapUsed s₂.heap s₂.slotsUsed).setVm hW'.alike, X.tail, State.WarmedH.trans X.warmed hW', X.limits, X.bytes, X.same.trans (hsame.setVm s.vm)⟩,
      ⟨g, mk, s₂, L, E, ce, rfl, rfl, hx, hce, hcv, hcl, rfl, hL, rfl, rfl⟩, ?_⟩
    show Steps p.tables e below _ (((({ U with heap := s₂.heap, slotsUsed := s₂.slotsUsed } : State).setVm s₂.vm).setTop g).pushFrame (.throwing q))
    rw [← hs₂]
    exact hsteps
end
variable {p : Program} {l : Launch} {e : Env} {R : Room} {s : State} {m : MethodId} {args : Array Value} {below : List Frame} {meth : Method} {c : Code} {T : State} {H : Heap} {locs : List Loc} {cells slots : Nat}
theorem vx_callVX (X : Stand p l e R s m args below meth c T locs cells slots) (hexec : p.tables.exec = Jvm.exec) {own C : String} {index : Nat} {y : MethodName} {bytes : ByteArray} {maxL : Nat} {ret : Option FieldType} {hh : List (Nat × Nat × Nat × Nat)}
    (hown : s.vm.findClass own = some m.cls) (hlink : (Cond.methodLink own index y).before args s = true) (hinst : (Cond.instanceMethod y).before args s = true) (hsel : (Cond.selects C y y).before args s = true)
    (hcode : (Cond.codeWith y bytes maxL ret hh).before args s = true) (hy : y.cls ≠ "java/lang/invoke/MethodHandle" ∧ y.cls ≠ "java/lang/invoke/VarHandle")
    {W9 : Nat} {Pre : Pt → Array Value → Prop} {Post : Pt → Array Value → Option Value → Pt → Prop} {PostX : Pt → Array Value → Addr → Pt → Prop} (hK : vx_Back l R p e below s args y 3 W9 Pre Post PostX)
    {b : Addr} {cellB : Cell} (hcell : T.heap[b]? = some cellB) (hobj : cellB.vm.isStatics = false) (hcls : s.vm.findClass C = some cellB.cls)
    {g : JFrame} (hg : g.method = m) (hsize : g.locals.size = c.maxLocals) {argsL rest : List Value} (hlen : ∀ sig, parseMethodDescriptor y.desc = some sig → argsL.length = sig.parameters.length)
    (hstack : g.stack = argsL.reverse ++ .ref b :: rest) (hW : 2 * g.monitorRoom + (rest.map fun v => v.category).sum ≤ W9) (hdg : decode c.code g.pc = .ok (.invokevirtual index, 3))
    (hpre : ∀ vm₁, s.WarmedH vm₁ → Pre ⟨T.setVm vm₁, locs, cells, slots⟩ (Value.ref b :: argsL).toArray) :
    (∃ (v : Option Value) (vm₁ : Vm) (B : Pt), s.WarmedH vm₁ ∧ Stand p l e R s m args below meth c B.U B.locs B.cells B.slots ∧ Post ⟨T.setVm vm₁, locs, cells, slots⟩ (Value.ref b :: argsL).toArray v B ∧
      ∀ target, Steps p.tables e below (B.U.setTop { g with pc := g.pc + 3, stack := v.toList ++ rest }) target → Steps p.tables e below (T.setTop g) target) ∨
    (∃ (q : Addr) (vm₁ : Vm) (B : Pt), s.WarmedH vm₁ ∧ Stand p l e R s m args below meth c B.U B.locs B.cells B.slots ∧ PostX ⟨T.setVm vm₁, locs, cells, slots⟩ (Value.ref b :: argsL).toArray q B ∧
      Steps p.tables e below (T.setTop g) ((B.U.setTop { g with stack := rest }).pushFrame (.throwing q))) := by
  obtain ⟨mk, methM, hnamed, hmethM, hstM, habM⟩ := Cond.instanceMethod_spec hinst
  obtain ⟨m8, methM', cM, hn8, hmethM', -, -, -, -, -, -, hsigM⟩ := Cond.codeWith_spec hcode
  cases Option.some.inj (hn8.symm.trans hnamed)
  cases hmethM.symm.trans hmethM'
  obtain ⟨c2, r2, m2, q1, q2, q3, q4, kP, hkP, hkPi⟩ := Cond.selects_spec hsel
  cases hcls.symm.trans q1
  cases (State.methodFound?_of_named hnamed hy).symm.trans q2
  cases hnamed.symm.trans q3
  have hselP : selectMethod e.platform s.vm cellB.cls mk = .method mk := by rw [Launch.admits_selectMethod X.admits]; exact q4
  obtain ⟨vm₁, X₁, hstep₁⟩ := X.invokevirtual hexec hown hlink hnamed hmethM hstM hkP hkPi hy (a := b) (cell := cellB) hcell
    (fun z h => by rw [h] at hobj; cases hobj) hselP hmethM habM hkP hkPi (g := g) hg (argsL := argsL) (rest := rest) (hlen _ hsigM) hstack hdg
  rcases hK m meth c ⟨T.setVm vm₁, locs, cells, slots⟩ { g with stack := rest } (.invokevirtual index) mk (Value.ref b :: argsL).toArray X₁ hg hsize hdg hW (X₁.named hnamed) (hpre vm₁ X₁.warmed) with ⟨v, B, X', hpost, hsteps⟩ | ⟨q, B, X', hpost, hsteps⟩
  · exact Or.inl ⟨v, vm₁, B, X₁.warmed, X', hpost, fun target h => hstep₁ _ fun acts => by rw [doInvoke_state]; exact hsteps.trans h⟩
  · exact Or.inr ⟨q, vm₁, B, X₁.warmed, X', hpost, hstep₁ _ fun acts => by rw [doInvoke_state]; exact hsteps⟩
theorem vx_callSX (X : Stand p l e R s m args below meth c T locs cells slots) (hexec : p.tables.exec = Jvm.exec) {own : String} {index : Nat} {y : MethodName} {bytes : ByteArray} {maxL : Nat} {ret : Option FieldType} {hh : List (Nat × Nat × Nat × Nat)}
    (hown : s.vm.findClass own = some m.cls) (hlink : (Cond.methodLink own index y).before args s = true) (hstat : (Cond.static y).before args s = true) (hinit : (Cond.initialized y.cls).before args s = true)
    (hcode : (Cond.codeWith y bytes maxL ret hh).before args s = true) (hy : y.cls ≠ "java/lang/invoke/MethodHandle" ∧ y.cls ≠ "java/lang/invoke/VarHandle")
    {W9 : Nat} {Pre : Pt → Array Value → Prop} {Post : Pt → Array Value → Option Value → Pt → Prop} {PostX : Pt → Array Value → Addr → Pt → Prop} (hK : vx_Back l R p e below s args y 3 W9 Pre Post PostX)
    {g : JFrame} (hg : g.method = m) (hsize : g.locals.size = c.maxLocals) {argsL rest : List Value} (hlen : ∀ sig, parseMethodDescriptor y.desc = some sig → argsL.length = sig.parameters.length)
    (hstack : g.stack = argsL.reverse ++ rest) (hW : 2 * g.monitorRoom + (rest.map fun v => v.category).sum ≤ W9) (hdg : decode c.code g.pc = .ok (.invokestatic index, 3))
    (hpre : ∀ vm₁, s.WarmedH vm₁ → Pre ⟨T.setVm vm₁, locs, cells, slots⟩ argsL.toArray) :
    (∃ (v : Option Value) (vm₁ : Vm) (B : Pt), s.WarmedH vm₁ ∧ Stand p l e R s m args below meth c B.U B.locs B.cells B.slots ∧ Post ⟨T.setVm vm₁, locs, cells, slots⟩ argsL.toArray v B ∧
      ∀ target, Steps p.tables e below (B.U.setTop { g with pc := g.pc + 3, stack := v.toList ++ rest }) target → Steps p.tables e below (T.setTop g) target) ∨
    (∃ (q : Addr) (vm₁ : Vm) (B : Pt), s.WarmedH vm₁ ∧ Stand p l e R s m args below meth c B.U B.locs B.cells B.slots ∧ PostX ⟨T.setVm vm₁, locs, cells, slots⟩ argsL.toArray q B ∧
      Steps p.tables e below (T.setTop g) ((B.U.setTop { g with stack := rest }).pushFrame (.throwing q))) := by
  obtain ⟨mk, methM, cM, hnamed, hmethM, -, -, -, -, -, -, hsigM⟩ := Cond.codeWith_spec hcode
  have hstatic : methM.isStatic = true := Cond.static_spec hnamed hmethM hstat
  obtain ⟨kP, hkP, -⟩ := className_of_methodNamed hnamed
  have hinitP : kP.init = .initialized := Cond.initialized_spec (findClass_of_methodNamed hnamed) hkP hinit
  obtain ⟨vm₁, X₁, hstep₁⟩ := X.invokestatic hexec hown hlink hnamed hmethM hstatic hkP hinitP hy (g := g) hg (argsL := argsL) (rest := rest) (hlen _ hsigM) hstack hdg
  rcases hK m meth c ⟨T.setVm vm₁, locs, cells, slots⟩ { g with stack := rest } (.invokestatic index) mk argsL.toArray X₁ hg hsize hdg hW (X₁.named hnamed) (hpre vm₁ X₁.warmed) with ⟨v, B, X', hpost, hsteps⟩ | ⟨q, B, X', hpost, hsteps⟩
  · exact Or.inl ⟨v, vm₁, B, X₁.warmed, X', hpost, fun target h => hstep₁ _ fun acts => by rw [doInvoke_state]; exact hsteps.trans h⟩
  · exact Or.inr ⟨q, vm₁, B, X₁.warmed, X', hpost, hstep₁ _ fun acts => by rw [doInvoke_state]; exact hsteps⟩
theorem vx_callVW (X : Stand p l e R s m args below meth c T locs cells slots) (hexec : p.tables.exec = Jvm.exec) {own C : String} {index : Nat} {y : MethodName} {bytes : ByteArray} {maxL : Nat} {ret : Option FieldType} {hh : List (Nat × Nat × Nat × Nat)}
    (hown : s.vm.findClass own = some m.cls) (hlink : (Cond.methodLink own index y).before args s = true) (hinst : (Cond.instanceMethod y).before args s = true) (hsel : (Cond.selects C y y).before args s = true)
    (hcode : (Cond.codeWith y bytes maxL ret hh).before args s = true) (hy : y.cls ≠ "java/lang/invoke/MethodHandle" ∧ y.cls ≠ "java/lang/invoke/VarHandle")
    {W9 : Nat} {Pre : Pt → Array Value → Prop} {Post : Pt → Array Value → Option Value → Pt → Prop} (hK : Back l R p e below s args y 3 W9 Pre Post)
    {b : Addr} {cellB : Cell} (hcell : T.heap[b]? = some cellB) (hobj : cellB.vm.isStatics = false) (hcls : s.vm.findClass C = some cellB.cls)
    {g : JFrame} (hg : g.method = m) (hsize : g.locals.size = c.maxLocals) {argsL rest : List Value} (hlen : ∀ sig, parseMethodDescriptor y.desc = some sig → argsL.length = sig.parameters.length)
    (hstack : g.stack = argsL.reverse ++ .ref b :: rest) (hW : 2 * g.monitorRoom + (rest.map fun v => v.category).sum ≤ W9) (hdg : decode c.code g.pc = .ok (.invokevirtual index, 3))
    (hpre : ∀ vm₁, s.WarmedH vm₁ → Pre ⟨T.setVm vm₁, locs, cells, slots⟩ (Value.ref b :: argsL).toArray) :
    ∃ (v : Option Value) (vm₁ : Vm) (B : Pt), s.WarmedH vm₁ ∧ Stand p l e R s m args below meth c B.U B.locs B.cells B.slots ∧ Post ⟨T.setVm vm₁, locs, cells, slots⟩ (Value.ref b :: argsL).toArray v B ∧
      ∀ target, Steps p.tables e below (B.U.setTop { g with pc := g.pc + 3, stack := v.toList ++ rest }) target → Steps p.tables e below (T.setTop g) target := by
  obtain ⟨mk, methM, hnamed, hmethM, hstM, habM⟩ := Cond.instanceMethod_spec hinst
  obtain ⟨m8, methM', cM, hn8, hmethM', -, -, -, -, -, -, hsigM⟩ := Cond.codeWith_spec hcode
  cases Option.some.inj (hn8.symm.trans hnamed)
  cases hmethM.symm.trans hmethM'
  obtain ⟨c2, r2, m2, q1, q2, q3, q4, kP, hkP, hkPi⟩ := Cond.selects_spec hsel
  cases hcls.symm.trans q1
  cases (State.methodFound?_of_named hnamed hy).symm.trans q2
  cases hnamed.symm.trans q3
  have hselP : selectMethod e.platform s.vm cellB.cls mk = .method mk := by rw [Launch.admits_selectMethod X.admits]; exact q4
  obtain ⟨vm₁, X₁, hstep₁⟩ := X.invokevirtual hexec hown hlink hnamed hmethM hstM hkP hkPi hy (a := b) (cell := cellB) hcell
    (fun z h => by rw [h] at hobj; cases hobj) hselP hmethM habM hkP hkPi (g := g) hg (argsL := argsL) (rest := rest) (hlen _ hsigM) hstack hdg
  obtain ⟨v, B, X', hpost, hsteps⟩ := hK m meth c ⟨T.setVm vm₁, locs, cells, slots⟩ { g with stack := rest } (.invokevirtual index) mk (Value.ref b :: argsL).toArray X₁ hg hsize hdg hW (X₁.named hnamed) (hpre vm₁ X₁.warmed)
  exact ⟨v, vm₁, B, X₁.warmed, X', hpost, fun target h => hstep₁ _ fun acts => by rw [doInvoke_state]; exact hsteps.trans h⟩
abbrev vx_CVW (R : Room) (s : State) (args : Array Value) (own C : String) (index : Nat) (y : MethodName) (bytes : ByteArray) (maxL : Nat) (ret : Option FieldType) (hh : List (Nat × Nat × Nat × Nat)) (ws : List Cond) (rm : Room) (mc ms n : Nat) : Prop :=
  (rm.cells = mc ∧ rm.slots = ms ∧ rm.frames + 1 ≤ R.frames ∧ 8 + (maxL + 11) + rm.locals ≤ R.locals ∧ (∀ w ∈ ws, ∀ (a' : Array Value) (U : State), s.WarmedH U.vm → w.before a' U = true) ∧ Cond.codeWith y bytes maxL ret hh ∈ ws) ∧
  (Cond.codeWith y bytes maxL ret hh).before args s = true ∧ (Cond.initialized y.cls).before args s = true ∧ (y.cls ≠ "java/lang/invoke/MethodHandle" ∧ y.cls ≠ "java/lang/invoke/VarHandle") ∧
  (∀ sig, parseMethodDescriptor y.desc = some sig → n = sig.parameters.length) ∧ (Cond.methodLink own index y).before args s = true ∧ (Cond.instanceMethod y).before args s = true ∧ (Cond.selects C y y).before args s = true
theorem vx_cwVW {own C : String} {index maxL mc ms : Nat} {y : MethodName} {bytes : ByteArray} {ret : Option FieldType} {hh : List (Nat × Nat × Nat × Nat)} {Ts ws ws' : List Cond} {rm : Room} (n : Nat) (ht : ∀ w ∈ Ts, w.before args s = true) (hT : GoodIn Ts (wsV own index C y ws)) (hw : ws = Cond.codeWith y bytes maxL ret hh :: ws') (hrc : rm.cells = mc) (hrs : rm.slots = ms)
    (hd : y.cls = C ∧ y.cls ≠ "java/lang/invoke/MethodHandle" ∧ y.cls ≠ "java/lang/invoke/VarHandle" ∧ (parseMethodDescriptor y.desc).map (fun d => d.parameters.length) = some n) (hR : rm.frames + 1 ≤ R.frames ∧ 8 + (maxL + 11) + rm.locals ≤ R.locals) :
    vx_CVW R s args own C index y bytes maxL ret hh ws rm mc ms n := by
  obtain ⟨hC, hd⟩ := hd
  subst hC
  have ok : ∀ w ∈ wsV own index y.cls y ws, w.before args s = true := fun w h => ht w (hT w h).1
  have hG : GoodIn Ts ws := fun w h => hT w (by unfold wsV; exact List.mem_append_right _ h)
  have hc : Cond.codeWith y bytes maxL ret hh ∈ ws := by rw [hw]; exact List.mem_cons_self
  refine ⟨⟨hrc, hrs, hR.1, hR.2, pay_in ht hG, hc⟩, ht _ (hG _ hc).1, ok _ (by simp [wsV]), ⟨hd.1, hd.2.1⟩, fun sig h => ?_, ok _ (by simp [wsV]), ok _ (by simp [wsV]), ok _ (by simp [wsV])⟩
  have h2 := hd.2.2
  rw [h] at h2
  exact (Option.some.inj h2).symm
theorem vx_runVW {y : MethodName} {bytes cc : ByteArray} {maxL nL mc ms n index : Nat} {ret : Option FieldType} {hh : List (Nat × Nat × Nat × Nat)} {ws : List Cond} {rm : Room} {Pc : Array Value → State → Prop} {Qc : Array Value → State → Outcome → State → Prop} {free : Addr → Prop} {Ts : List Cond} {own C : String} {b : Addr} {As rest : List Value} {g : JFrame}
    (S : CallFix p m c cc nL s args Ts own) (hM : Met l y ws rm Pc Qc mc ms free) (cw : vx_CVW R s args own C index y bytes maxL ret hh ws rm mc ms n) (hp : PreV s H C b Pc As)
    (hg : g.method = m) (hn : As.length = n) (hsize : g.locals.size = nL) (hstack : g.stack = As.reverse ++ .ref b :: rest) (hW : 2 * g.monitorRoom + (rest.map fun v => v.category).sum ≤ 8) (hdg : decode cc g.pc = .ok (.invokevirtual index, 3)) (hf : cells + mc ≤ R.cells ∧ slots + ms ≤ R.slots) :
    va_Run p l e R s m args below meth c H locs cells slots mc ms g rest (Qc (Value.ref b :: As).toArray) free := by
  obtain ⟨⟨hrc, hrs, hfr, hlo, hws, hcw⟩, hcode, hini, hy, hlen, hl, hin, hse⟩ := cw
  have hK : Back l R p e below s args y 3 8 (PreOf R mc ms Pc) (PostOf Qc mc ms free) := va_backW (hh := hh) (bytes := bytes) (maxL := maxL) (ret := ret) hM hp.1 hrc hrs hfr hlo hws hcw (fun a' U hW => word_at hW (Or.inl (by first | rfl | simp [Cond.onTables, Cond.keeps, Cond.steady])) hini)
  obtain ⟨hx, hb, hml, ho, -⟩ := S
  obtain ⟨-, ⟨cellB, hcB, hoB, hclB⟩, hPc⟩ := hp
  intro T hT X
  obtain ⟨v, vm₁, ⟨U', l2, c2, s2⟩, hW₁, X', ⟨g', mk, t, L, e1, e2, hq, h1, hL, h2, h3⟩, st⟩ := vx_callVW X hx (C := C) (hh := hh) (bytes := bytes) (maxL := maxL) (ret := ret) ho hl hin hse hcode hy hK (by rw [hT]; exact hcB) hoB hclB hg (hsize.trans hml.symm) (argsL := As) (rest := rest) (fun sig h => hn.trans (hlen sig h)) hstack hW (by rw [hb]; exact hdg)
    (fun vm₁ hW₁ => ⟨hf.1, hf.2, hPc (T.setVm vm₁) hT hW₁⟩)
  dsimp only [Pt.U, Pt.locs, Pt.cells, Pt.slots] at X' e1 e2 h1 h2 h3 st
  subst h1; subst h2; subst h3
  exact ⟨v, (T.setVm vm₁).calling g' mk (Value.ref b :: As).toArray, t, U', L, hT, X', hL, e1, e2, hq, st⟩
section
variable {y : MethodName} {bytes cc : ByteArray} {maxL nL mc ms n index : Nat} {ret : Option FieldType} {ws : List Cond} {rm : Room} {Pc : Array Value → State → Prop} {Qc : Array Value → State → Outcome → State → Prop} {XC : String → State → State → Prop} {free : Addr → Prop} {Ts : List Cond} {own C : String} {b : Addr} {As rest : List Value} {g : JFrame}
theorem vx_runVX {hh : List (Nat × Nat × Nat × Nat)} (S : CallFix p m c cc nL s args Ts own) (hM : vx_Met l y ws rm Pc Qc XC mc ms free) (cw : vx_CVW R s args own C index y bytes maxL ret hh ws rm mc ms n) (hp : PreV s H C b Pc As)
    (hg : g.method = m) (hn : As.length = n) (hsize : g.locals.size = nL) (hstack : g.stack = As.reverse ++ .ref b :: rest) (hW : 2 * g.monitorRoom + (rest.map fun v => v.category).sum ≤ 8) (hdg : decode cc g.pc = .ok (.invokevirtual index, 3)) (hf : cells + mc ≤ R.cells ∧ slots + ms ≤ R.slots) :
    vx_Run p l e R s m args below meth c H locs cells slots mc ms g rest (Qc (Value.ref b :: As).toArray) XC free := by
  obtain ⟨⟨hrc, hrs, hfr, hlo, hws, hcw⟩, hcode, hini, hy, hlen, hl, hin, hse⟩ := cw
  have hK : vx_Back l R p e below s args y 3 8 (PreOf R mc ms Pc) (PostOf Qc mc ms free) (vx_Post XC mc ms free) := vx_backW (hh := hh) (bytes := bytes) (maxL := maxL) (ret := ret) hM hp.1 hrc hrs hfr hlo hws hcw (fun a' U hW => word_at hW (Or.inl (by first | rfl | simp [Cond.onTables, Cond.keeps, Cond.steady])) hini)
  obtain ⟨hx, hb, hml, ho, -⟩ := S
  obtain ⟨-, ⟨cellB, hcB, hoB, hclB⟩, hPc⟩ := hp
  intro T hT X
  rcases vx_callVX X hx (C := C) (hh := hh) (bytes := bytes) (maxL := maxL) (ret := ret) ho hl hin hse hcode hy hK (by rw [hT]; exact hcB) hoB hclB hg (hsize.trans hml.symm) (argsL := As) (rest := rest) (fun sig h => hn.trans (hlen sig h)) hstack hW (by rw [hb]; exact hdg)
    (fun vm₁ hW₁ => ⟨hf.1, hf.2, hPc (T.setVm vm₁) hT hW₁⟩) with ⟨v, vm₁, ⟨U', l2, c2, s2⟩, hW₁, X', ⟨g', mk, t, L, e1, e2, hq, h1, hL, h2, h3⟩, st⟩ | ⟨q, vm₁, ⟨U', l2, c2, s2⟩, hW₁, X', ⟨g', mk, t, L, E, ce, e1, e2, hq, hce, hcv, hcl, h1, hL, h2, h3⟩, st⟩
  · dsimp only [Pt.U, Pt.locs, Pt.cells, Pt.slots] at X' e1 e2 h1 h2 h3 st
    subst h1; subst h2; subst h3
    exact Or.inl ⟨v, (T.setVm vm₁).calling g' mk (Value.ref b :: As).toArray, t, U', L, hT, X', hL, e1, e2, hq, st⟩
  · dsimp only [Pt.U, Pt.locs, Pt.cells, Pt.slots] at X' e1 e2 h1 h2 h3 st hcl
    subst h1; subst h2; subst h3
    exact Or.inr ⟨q, (T.setVm vm₁).calling g' mk (Value.ref b :: As).toArray, t, U', L, E, ce, hT, X', hL, e1, e2, hq, hce, hcv, vx_cls hW₁ hcl, st⟩
theorem vx_runSX {hh : List (Nat × Nat × Nat × Nat)} (S : CallFix p m c cc nL s args Ts own) (hM : vx_Met l y ws rm Pc Qc XC mc ms free) (cw : vx_CSW R s args own index y bytes maxL ret hh ws rm mc ms n) (hp : PreS s H Pc As)
    (hg : g.method = m) (hn : As.length = n) (hsize : g.locals.size = nL) (hstack : g.stack = As.reverse ++ rest) (hW : 2 * g.monitorRoom + (rest.map fun v => v.category).sum ≤ 8) (hdg : decode cc g.pc = .ok (.invokestatic index, 3)) (hf : cells + mc ≤ R.cells ∧ slots + ms ≤ R.slots) :
    vx_Run p l e R s m args below meth c H locs cells slots mc ms g rest (Qc As.toArray) XC free := by
  obtain ⟨⟨hrc, hrs, hfr, hlo, hws, hcw⟩, hcode, hini, hy, hlen, hl, hstt⟩ := cw
  have hK : vx_Back l R p e below s args y 3 8 (PreOf R mc ms Pc) (PostOf Qc mc ms free) (vx_Post XC mc ms free) := vx_backW (hh := hh) (bytes := bytes) (maxL := maxL) (ret := ret) hM hp.1 hrc hrs hfr hlo hws hcw (fun a' U hW => word_at hW (Or.inl (by first | rfl | simp [Cond.onTables, Cond.keeps, Cond.steady])) hini)
  obtain ⟨hx, hb, hml, ho, -⟩ := S
  intro T hT X
  rcases vx_callSX X hx (hh := hh) (bytes := bytes) (maxL := maxL) (ret := ret) ho hl hstt hini hcode hy hK hg (hsize.trans hml.symm) (argsL := As) (rest := rest) (fun sig h => hn.trans (hlen sig h)) hstack hW (by rw [hb]; exact hdg)
    (fun vm₁ hW₁ => ⟨hf.1, hf.2, hp.2 (T.setVm vm₁) hT hW₁⟩) with ⟨v, vm₁, ⟨U', l2, c2, s2⟩, hW₁, X', ⟨g', mk, t, L, e1, e2, hq, h1, hL, h2, h3⟩, st⟩ | ⟨q, vm₁, ⟨U', l2, c2, s2⟩, hW₁, X', ⟨g', mk, t, L, E, ce, e1, e2, hq, hce, hcv, hcl, h1, hL, h2, h3⟩, st⟩
  · dsimp only [Pt.U, Pt.locs, Pt.cells, Pt.slots] at X' e1 e2 h1 h2 h3 st
    subst h1; subst h2; subst h3
    exact Or.inl ⟨v, (T.setVm vm₁).calling g' mk As.toArray, t, U', L, hT, X', hL, e1, e2, hq, st⟩
  · dsimp only [Pt.U, Pt.locs, Pt.cells, Pt.slots] at X' e1 e2 h1 h2 h3 st hcl
    subst h1; subst h2; subst h3
    exact Or.inr ⟨q, (T.setVm vm₁).calling g' mk As.toArray, t, U', L, E, ce, hT, X', hL, e1, e2, hq, hce, hcv, vx_cls hW₁ hcl, st⟩
end
end VXH
theorem vx_ofWH {l : Launch} {y : MethodName} {ws ws' : List Cond} {rm : Room} {Pc : Array Value → State → Prop} {Qc : Array Value → State → Outcome → State → Prop} {XC : String → State → State → Prop} {mc ms : Nat} {free : Addr → Prop} {cc : ByteArray} {maxL : Nat} {ret : Option FieldType} {hh : List (Nat × Nat × Nat × Nat)}
    (hy : plainName y.cls = true) (hw : ws = Cond.codeWith y cc maxL ret hh :: ws')
    (body : ∀ p e s m args below meth c s₁, BodyLoose p l y (headSpec ws rm) cc maxL ret e s m args below meth c s₁ → c.maxLocals = maxL → Pc args s →
      W p l e (headSpec ws rm).room s m args below meth c s.heap [] 0 0 (vx_MQ below Qc XC args s mc ms free) (entryFrame m args maxL)) : vx_Met l y ws rm Pc Qc XC mc ms free := by
  refine MetFree.of_bodyS (code := cc) (maxLocals := maxL) (ret := ret) hy ?_ ?_
  · intro args s m h hn
    obtain ⟨m9, meth, c, hn9, h1, h2, h3, h4, -, h5, h6, -⟩ := Cond.codeWith_spec (atoms_spec (ws := ws) h _ (by rw [hw]; exact List.mem_cons_self))
    cases hn.symm.trans hn9
    exact ⟨meth, c, h1, h2, h3, h4, h5, h6⟩
  · intro p e s m args below meth c s₁ B hml hP _
    have hh0 : s₁.heap = s.heap := by rw [B.state]; rfl
    obtain ⟨t, a1, o, b1, b2, b3⟩ := body p e s m args below meth c s₁ B hml hP s₁ hh0 (Stand.of_body B)
    exact ⟨t, o, a1, b1, b2, b3⟩
/-! ===== END ===== -/
end
section
def RX0 : String := "AtelierBook"
def TX0 : u_T := fun k => match k with
  | 0 => ("AtelierBook", "pigmentCount", "I", false)
  | 1 => ("AtelierBook", "tubeCount", "I", false)
  | 2 => ("AtelierBook", "potCount", "I", false)
  | 3 => ("AtelierBook", "pictureCount", "I", false)
  | 4 => ("AtelierBook", "today", "I", false)
  | 5 => ("AtelierBook", "pigmentColours", "[I", true)
  | 6 => ("AtelierBook", "pigmentOfTube", "[I", true)
  | 7 => ("AtelierBook", "gramsInTube", "[I", true)
  | 8 => ("AtelierBook", "ledger", "[I", true)
  | 9 => ("AtelierBook", "layerCounts", "[I", true)
  | 10 => ("AtelierBook", "crackCounts", "[I", true)
  | 11 => ("AtelierBook", "latestPrices", "[I", true)
  | 12 => ("AtelierBook", "loanDays", "[I", true)
  | 13 => ("AtelierBook", "loanHouses", "[I", true)
  | 14 => ("AtelierBook", "loanCosts", "[I", true)
  | 15 => ("AtelierBook", "houseDamps", "[I", true)
  | _ => ("AtelierBook", "housePayments", "[I", true)
def tyX0 : Nat → FieldType := fun k => match k with
  | 0 => .int
  | 1 => .int
  | 2 => .int
  | 3 => .int
  | 4 => .int
  | 5 => .array .int
  | 6 => .array .int
  | 7 => .array .int
  | 8 => .array .int
  | 9 => .array .int
  | 10 => .array .int
  | 11 => .array .int
  | 12 => .array .int
  | 13 => .array .int
  | 14 => .array .int
  | 15 => .array .int
  | _ => .array .int
abbrev wsX00 : List Cond := u_ws RX0 TX0 17
theorem nmX0 : ∀ a, a < 17 → ∀ b, b < 17 → a ≠ b → (TX0 a).2.1 ≠ (TX0 b).2.1 := by decide +kernel
theorem tyX0_ok : ∀ k, k < 17 → parseFieldDescriptor (TX0 k).2.2.1 = some (tyX0 k) := by decide +kernel
abbrev cX0_init : ByteArray := prog_1_method_1_code
def yX0_init : MethodName := ⟨RX0, "<init>", "()V"⟩
abbrev cX0_pigment : ByteArray := prog_1_method_2_code
def yX0_pigment : MethodName := ⟨RX0, "pigment", "(III)I"⟩
abbrev cX0_tube : ByteArray := prog_1_method_3_code
def yX0_tube : MethodName := ⟨RX0, "tube", "(II)I"⟩
abbrev cX0_pot : ByteArray := prog_1_method_4_code
def yX0_pot : MethodName := ⟨RX0, "pot", "()I"⟩
abbrev cX0_squeeze : ByteArray := prog_1_method_5_code
def yX0_squeeze : MethodName := ⟨RX0, "squeeze", "(III)I"⟩
abbrev cX0_pour : ByteArray := prog_1_method_6_code
def yX0_pour : MethodName := ⟨RX0, "pour", "(III)I"⟩
abbrev cX0_scrape : ByteArray := prog_1_method_7_code
def yX0_scrape : MethodName := ⟨RX0, "scrape", "(I)I"⟩
abbrev cX0_picture : ByteArray := prog_1_method_8_code
def yX0_picture : MethodName := ⟨RX0, "picture", "()I"⟩
abbrev cX0_paint : ByteArray := prog_1_method_9_code
def yX0_paint : MethodName := ⟨RX0, "paint", "(III)I"⟩
abbrev cX0_clean : ByteArray := prog_1_method_10_code
def yX0_clean : MethodName := ⟨RX0, "clean", "(II)I"⟩
abbrev cX0_damp : ByteArray := prog_1_method_11_code
def yX0_damp : MethodName := ⟨RX0, "damp", "(II)I"⟩
abbrev cX0_lend : ByteArray := prog_1_method_12_code
def yX0_lend : MethodName := ⟨RX0, "lend", "(III)I"⟩
abbrev cX0_sell : ByteArray := prog_1_method_13_code
def yX0_sell : MethodName := ⟨RX0, "sell", "(II)I"⟩
abbrev cX0_pass : ByteArray := prog_1_method_14_code
def yX0_pass : MethodName := ⟨RX0, "pass", "(I)I"⟩
abbrev cX0_left : ByteArray := prog_1_method_15_code
def yX0_left : MethodName := ⟨RX0, "left", "(I)I"⟩
abbrev cX0_has : ByteArray := prog_1_method_16_code
def yX0_has : MethodName := ⟨RX0, "has", "(II)I"⟩
abbrev cX0_colour : ByteArray := prog_1_method_17_code
def yX0_colour : MethodName := ⟨RX0, "colour", "(II)I"⟩
abbrev cX0_of : ByteArray := prog_1_method_18_code
def yX0_of : MethodName := ⟨RX0, "of", "(II)I"⟩
abbrev cX0_layer : ByteArray := prog_1_method_19_code
def yX0_layer : MethodName := ⟨RX0, "layer", "(III)I"⟩
abbrev cX0_where : ByteArray := prog_1_method_20_code
def yX0_where : MethodName := ⟨RX0, "where", "(II)I"⟩
abbrev cX0_recipe : ByteArray := prog_1_method_21_code
def yX0_recipe : MethodName := ⟨RX0, "recipe", "(III)I"⟩
abbrev cX0_paid : ByteArray := prog_1_method_22_code
def yX0_paid : MethodName := ⟨RX0, "paid", "(I)I"⟩
abbrev cX0_checkNumber : ByteArray := prog_1_method_23_code
def yX0_checkNumber : MethodName := ⟨RX0, "checkNumber", "(II)V"⟩
abbrev cX0_checkRange : ByteArray := prog_1_method_24_code
def yX0_checkRange : MethodName := ⟨RX0, "checkRange", "(III)V"⟩
abbrev cX0_checkColour : ByteArray := prog_1_method_25_code
def yX0_checkColour : MethodName := ⟨RX0, "checkColour", "(III)V"⟩
abbrev cX0_checkAtHome : ByteArray := prog_1_method_26_code
def yX0_checkAtHome : MethodName := ⟨RX0, "checkAtHome", "(I)V"⟩
abbrev cX0_potRow : ByteArray := prog_1_method_27_code
def yX0_potRow : MethodName := ⟨RX0, "potRow", "(I)I"⟩
abbrev cX0_layerRow : ByteArray := prog_1_method_28_code
def yX0_layerRow : MethodName := ⟨RX0, "layerRow", "(II)I"⟩
abbrev cX0_place : ByteArray := prog_1_method_29_code
def yX0_place : MethodName := ⟨RX0, "place", "(II)I"⟩
abbrev cX0_sumOfRow : ByteArray := prog_1_method_30_code
def yX0_sumOfRow : MethodName := ⟨RX0, "sumOfRow", "(I)I"⟩
abbrev cX0_sumOfTube : ByteArray := prog_1_method_31_code
def yX0_sumOfTube : MethodName := ⟨RX0, "sumOfTube", "(III)I"⟩
abbrev cX0_move : ByteArray := prog_1_method_32_code
def yX0_move : MethodName := ⟨RX0, "move", "(III)Z"⟩
abbrev cX0_waste : ByteArray := prog_1_method_33_code
def yX0_waste : MethodName := ⟨RX0, "waste", "(I)I"⟩
abbrev cX0_colourOfTube : ByteArray := prog_1_method_34_code
def yX0_colourOfTube : MethodName := ⟨RX0, "colourOfTube", "(II)I"⟩
abbrev cX0_colourOfRow : ByteArray := prog_1_method_35_code
def yX0_colourOfRow : MethodName := ⟨RX0, "colourOfRow", "(II)I"⟩
abbrev cX0_gramsOfPigment : ByteArray := prog_1_method_36_code
def yX0_gramsOfPigment : MethodName := ⟨RX0, "gramsOfPigment", "(II)I"⟩
abbrev cX0_mainPigmentOfRow : ByteArray := prog_1_method_37_code
def yX0_mainPigmentOfRow : MethodName := ⟨RX0, "mainPigmentOfRow", "(I)I"⟩
abbrev cX0_mixed : ByteArray := prog_1_method_38_code
def yX0_mixed : MethodName := ⟨RX0, "mixed", "(IIII)I"⟩
abbrev cX0_square : ByteArray := prog_1_method_39_code
def yX0_square : MethodName := ⟨RX0, "square", "(I)I"⟩
abbrev cX0_isLent : ByteArray := prog_1_method_40_code
def yX0_isLent : MethodName := ⟨RX0, "isLent", "(I)Z"⟩
abbrev cX0_mainPigmentOf : ByteArray := prog_1_method_41_code
def yX0_mainPigmentOf : MethodName := ⟨RX0, "mainPigmentOf", "(I)I"⟩
abbrev cX0_lookOf : ByteArray := prog_1_method_42_code
def yX0_lookOf : MethodName := ⟨RX0, "lookOf", "(II)I"⟩
abbrev cX0_valueOf : ByteArray := prog_1_method_43_code
def yX0_valueOf : MethodName := ⟨RX0, "valueOf", "(I)I"⟩
abbrev cX0_averagePriceOfAlike : ByteArray := prog_1_method_44_code
def yX0_averagePriceOfAlike : MethodName := ⟨RX0, "averagePriceOfAlike", "(I)I"⟩
abbrev cX0_passForLoan : ByteArray := prog_1_method_45_code
def yX0_passForLoan : MethodName := ⟨RX0, "passForLoan", "(II)V"⟩
def RX1 : String := "AtelierBookModel"
def TX1 : u_T := fun k => match k with
  | 0 => ("AtelierBookModel", "thrown", "I", false)
  | 1 => ("AtelierBookModel", "pigments", "I", false)
  | 2 => ("AtelierBookModel", "shade", "[I", true)
  | 3 => ("AtelierBookModel", "tubes", "I", false)
  | 4 => ("AtelierBookModel", "pigmentOf", "[I", true)
  | 5 => ("AtelierBookModel", "left", "[I", true)
  | 6 => ("AtelierBookModel", "wasted", "[I", true)
  | 7 => ("AtelierBookModel", "pots", "I", false)
  | 8 => ("AtelierBookModel", "inPot", "[I", true)
  | 9 => ("AtelierBookModel", "pictures", "I", false)
  | 10 => ("AtelierBookModel", "layers", "[I", true)
  | 11 => ("AtelierBookModel", "inLayer", "[I", true)
  | 12 => ("AtelierBookModel", "cracks", "[I", true)
  | 13 => ("AtelierBookModel", "price", "[I", true)
  | 14 => ("AtelierBookModel", "house", "[I", true)
  | 15 => ("AtelierBookModel", "days", "[I", true)
  | 16 => ("AtelierBookModel", "cost", "[I", true)
  | 17 => ("AtelierBookModel", "damp", "[I", true)
  | 18 => ("AtelierBookModel", "paid", "[I", true)
  | 19 => ("AtelierBookModel", "today", "I", false)
  | 20 => ("AtelierBookModel", "flow", "[I", true)
  | _ => ("AtelierBookModel", "sums", "[I", true)
def tyX1 : Nat → FieldType := fun k => match k with
  | 0 => .int
  | 1 => .int
  | 2 => .array .int
  | 3 => .int
  | 4 => .array .int
  | 5 => .array .int
  | 6 => .array .int
  | 7 => .int
  | 8 => .array .int
  | 9 => .int
  | 10 => .array .int
  | 11 => .array .int
  | 12 => .array .int
  | 13 => .array .int
  | 14 => .array .int
  | 15 => .array .int
  | 16 => .array .int
  | 17 => .array .int
  | 18 => .array .int
  | 19 => .int
  | 20 => .array .int
  | _ => .array .int
abbrev wsX10 : List Cond := u_ws RX1 TX1 22
theorem nmX1 : ∀ a, a < 22 → ∀ b, b < 22 → a ≠ b → (TX1 a).2.1 ≠ (TX1 b).2.1 := by decide +kernel
theorem tyX1_ok : ∀ k, k < 22 → parseFieldDescriptor (TX1 k).2.2.1 = some (tyX1 k) := by decide +kernel
abbrev cX1_init : ByteArray := prog_3_method_1_code
def yX1_init : MethodName := ⟨RX1, "<init>", "()V"⟩
abbrev cX1_thrown : ByteArray := prog_3_method_2_code
def yX1_thrown : MethodName := ⟨RX1, "thrown", "()I"⟩
abbrev cX1_in : ByteArray := prog_3_method_3_code
def yX1_in : MethodName := ⟨RX1, "in", "(III)Z"⟩
abbrev cX1_areShades : ByteArray := prog_3_method_4_code
def yX1_areShades : MethodName := ⟨RX1, "areShades", "(III)Z"⟩
abbrev cX1_isTube : ByteArray := prog_3_method_5_code
def yX1_isTube : MethodName := ⟨RX1, "isTube", "(I)Z"⟩
abbrev cX1_isPot : ByteArray := prog_3_method_6_code
def yX1_isPot : MethodName := ⟨RX1, "isPot", "(I)Z"⟩
abbrev cX1_isPicture : ByteArray := prog_3_method_7_code
def yX1_isPicture : MethodName := ⟨RX1, "isPicture", "(I)Z"⟩
abbrev cX1_isHouse : ByteArray := prog_3_method_8_code
def yX1_isHouse : MethodName := ⟨RX1, "isHouse", "(I)Z"⟩
abbrev cX1_pigment : ByteArray := prog_3_method_9_code
def yX1_pigment : MethodName := ⟨RX1, "pigment", "(III)I"⟩
abbrev cX1_tube : ByteArray := prog_3_method_10_code
def yX1_tube : MethodName := ⟨RX1, "tube", "(II)I"⟩
abbrev cX1_pot : ByteArray := prog_3_method_11_code
def yX1_pot : MethodName := ⟨RX1, "pot", "()I"⟩
abbrev cX1_gramsOf : ByteArray := prog_3_method_12_code
def yX1_gramsOf : MethodName := ⟨RX1, "gramsOf", "(I)I"⟩
abbrev cX1_squeeze : ByteArray := prog_3_method_13_code
def yX1_squeeze : MethodName := ⟨RX1, "squeeze", "(III)I"⟩
abbrev cX1_flows : ByteArray := prog_3_method_14_code
def yX1_flows : MethodName := ⟨RX1, "flows", "(II)V"⟩
abbrev cX1_pour : ByteArray := prog_3_method_15_code
def yX1_pour : MethodName := ⟨RX1, "pour", "(III)I"⟩
abbrev cX1_scrape : ByteArray := prog_3_method_16_code
def yX1_scrape : MethodName := ⟨RX1, "scrape", "(I)I"⟩
abbrev cX1_picture : ByteArray := prog_3_method_17_code
def yX1_picture : MethodName := ⟨RX1, "picture", "()I"⟩
abbrev cX1_layerAt : ByteArray := prog_3_method_18_code
def yX1_layerAt : MethodName := ⟨RX1, "layerAt", "(II)I"⟩
abbrev cX1_paint : ByteArray := prog_3_method_19_code
def yX1_paint : MethodName := ⟨RX1, "paint", "(III)I"⟩
abbrev cX1_clean : ByteArray := prog_3_method_20_code
def yX1_clean : MethodName := ⟨RX1, "clean", "(II)I"⟩
abbrev cX1_main : ByteArray := prog_3_method_21_code
def yX1_main : MethodName := ⟨RX1, "main", "(I)I"⟩
abbrev cX1_look : ByteArray := prog_3_method_22_code
def yX1_look : MethodName := ⟨RX1, "look", "(II)I"⟩
abbrev cX1_value : ByteArray := prog_3_method_23_code
def yX1_value : MethodName := ⟨RX1, "value", "(I)I"⟩
abbrev cX1_damp : ByteArray := prog_3_method_24_code
def yX1_damp : MethodName := ⟨RX1, "damp", "(II)I"⟩
abbrev cX1_lend : ByteArray := prog_3_method_25_code
def yX1_lend : MethodName := ⟨RX1, "lend", "(III)I"⟩
abbrev cX1_sell : ByteArray := prog_3_method_26_code
def yX1_sell : MethodName := ⟨RX1, "sell", "(II)I"⟩
abbrev cX1_passOne : ByteArray := prog_3_method_27_code
def yX1_passOne : MethodName := ⟨RX1, "passOne", "()V"⟩
abbrev cX1_pass : ByteArray := prog_3_method_28_code
def yX1_pass : MethodName := ⟨RX1, "pass", "(I)I"⟩
abbrev cX1_left : ByteArray := prog_3_method_29_code
def yX1_left : MethodName := ⟨RX1, "left", "(I)I"⟩
abbrev cX1_has : ByteArray := prog_3_method_30_code
def yX1_has : MethodName := ⟨RX1, "has", "(II)I"⟩
abbrev cX1_colour : ByteArray := prog_3_method_31_code
def yX1_colour : MethodName := ⟨RX1, "colour", "(II)I"⟩
abbrev cX1_of : ByteArray := prog_3_method_32_code
def yX1_of : MethodName := ⟨RX1, "of", "(II)I"⟩
abbrev cX1_layer : ByteArray := prog_3_method_33_code
def yX1_layer : MethodName := ⟨RX1, "layer", "(III)I"⟩
abbrev cX1_onPictures : ByteArray := prog_3_method_34_code
def yX1_onPictures : MethodName := ⟨RX1, "onPictures", "(I)I"⟩
abbrev cX1_inPots : ByteArray := prog_3_method_35_code
def yX1_inPots : MethodName := ⟨RX1, "inPots", "(I)I"⟩
abbrev cX1_where : ByteArray := prog_3_method_36_code
def yX1_where : MethodName := ⟨RX1, "where", "(II)I"⟩
abbrev cX1_far : ByteArray := prog_3_method_37_code
def yX1_far : MethodName := ⟨RX1, "far", "(IIIII)I"⟩
abbrev cX1_recipe : ByteArray := prog_3_method_38_code
def yX1_recipe : MethodName := ⟨RX1, "recipe", "(III)I"⟩
abbrev cX1_paid : ByteArray := prog_3_method_39_code
def yX1_paid : MethodName := ⟨RX1, "paid", "(I)I"⟩
def RJ9 : String := "java/lang/Math"
def TJ9 : u_T := fun k => match k with
  | _ => ("", "", "", false)
def tyJ9 : Nat → FieldType := fun k => match k with
  | _ => .int
abbrev wsJ90 : List Cond := u_ws RJ9 TJ9 0
theorem nmJ9 : ∀ a, a < 0 → ∀ b, b < 0 → a ≠ b → (TJ9 a).2.1 ≠ (TJ9 b).2.1 := by decide +kernel
theorem tyJ9_ok : ∀ k, k < 0 → parseFieldDescriptor (TJ9 k).2.2.1 = some (tyJ9 k) := by decide +kernel
abbrev cJ9_abs_0f7a4 : ByteArray := prog_8_method_59_code
def yJ9_abs_0f7a4 : MethodName := ⟨RJ9, "abs", "(I)I"⟩
abbrev cJ9_max_7cf53 : ByteArray := prog_8_method_65_code
def yJ9_max_7cf53 : MethodName := ⟨RJ9, "max", "(II)I"⟩
abbrev cJ9_min_7cf53 : ByteArray := prog_8_method_69_code
def yJ9_min_7cf53 : MethodName := ⟨RJ9, "min", "(II)I"⟩
def RJ0 : String := "java/lang/String"
def TJ0 : u_T := fun k => match k with
  | _ => ("", "", "", false)
def tyJ0 : Nat → FieldType := fun k => match k with
  | _ => .int
abbrev wsJ00 : List Cond := u_ws RJ0 TJ0 0
theorem nmJ0 : ∀ a, a < 0 → ∀ b, b < 0 → a ≠ b → (TJ0 a).2.1 ≠ (TJ0 b).2.1 := by decide +kernel
theorem tyJ0_ok : ∀ k, k < 0 → parseFieldDescriptor (TJ0 k).2.2.1 = some (tyJ0 k) := by decide +kernel
def RL : String := "AtelierBookLaw"
abbrev cL_pigment : ByteArray := method_3_code
def yL_pigment : MethodName := ⟨RL, "pigment", "(LAtelierBook;III[J)I"⟩
abbrev cL_tube : ByteArray := method_4_code
def yL_tube : MethodName := ⟨RL, "tube", "(LAtelierBook;II[J)I"⟩
abbrev cL_pot : ByteArray := method_5_code
def yL_pot : MethodName := ⟨RL, "pot", "(LAtelierBook;[J)I"⟩
abbrev cL_squeeze : ByteArray := method_6_code
def yL_squeeze : MethodName := ⟨RL, "squeeze", "(LAtelierBook;III[J)I"⟩
abbrev cL_pour : ByteArray := method_7_code
def yL_pour : MethodName := ⟨RL, "pour", "(LAtelierBook;III[J)I"⟩
abbrev cL_scrape : ByteArray := method_8_code
def yL_scrape : MethodName := ⟨RL, "scrape", "(LAtelierBook;I[J)I"⟩
abbrev cL_picture : ByteArray := method_9_code
def yL_picture : MethodName := ⟨RL, "picture", "(LAtelierBook;[J)I"⟩
abbrev cL_paint : ByteArray := method_10_code
def yL_paint : MethodName := ⟨RL, "paint", "(LAtelierBook;III[J)I"⟩
abbrev cL_clean : ByteArray := method_11_code
def yL_clean : MethodName := ⟨RL, "clean", "(LAtelierBook;II[J)I"⟩
abbrev cL_damp : ByteArray := method_12_code
def yL_damp : MethodName := ⟨RL, "damp", "(LAtelierBook;II[J)I"⟩
abbrev cL_lend : ByteArray := method_13_code
def yL_lend : MethodName := ⟨RL, "lend", "(LAtelierBook;III[J)I"⟩
abbrev cL_sell : ByteArray := method_14_code
def yL_sell : MethodName := ⟨RL, "sell", "(LAtelierBook;II[J)I"⟩
abbrev cL_pass : ByteArray := method_15_code
def yL_pass : MethodName := ⟨RL, "pass", "(LAtelierBook;I[J)I"⟩
abbrev cL_left : ByteArray := method_16_code
def yL_left : MethodName := ⟨RL, "left", "(LAtelierBook;I[J)I"⟩
abbrev cL_has : ByteArray := method_17_code
def yL_has : MethodName := ⟨RL, "has", "(LAtelierBook;II[J)I"⟩
abbrev cL_colour : ByteArray := method_18_code
def yL_colour : MethodName := ⟨RL, "colour", "(LAtelierBook;II[J)I"⟩
abbrev cL_of : ByteArray := method_19_code
def yL_of : MethodName := ⟨RL, "of", "(LAtelierBook;II[J)I"⟩
abbrev cL_layer : ByteArray := method_20_code
def yL_layer : MethodName := ⟨RL, "layer", "(LAtelierBook;III[J)I"⟩
abbrev cL_where : ByteArray := method_21_code
def yL_where : MethodName := ⟨RL, "where", "(LAtelierBook;II[J)I"⟩
abbrev cL_recipe : ByteArray := method_22_code
def yL_recipe : MethodName := ⟨RL, "recipe", "(LAtelierBook;III[J)I"⟩
abbrev cL_paid : ByteArray := method_23_code
def yL_paid : MethodName := ⟨RL, "paid", "(LAtelierBook;I[J)I"⟩
abbrev cL_law : ByteArray := code
def yL_law : MethodName := ⟨RL, "law", "([I)Z"⟩
def wsX0_init : List Cond := .code yX0_init cX0_init 2 none :: ([.methodLink RX0 3 objectInit, .instanceMethod objectInit, .code objectInit ⟨#[0xb1]⟩ 1 none, .arrayClass .int, .fieldLink RX0 9 "AtelierBook" "pigmentColours" "[I", .fieldLink RX0 13 "AtelierBook" "pigmentOfTube" "[I", .fieldLink RX0 16 "AtelierBook" "gramsInTube" "[I", .fieldLink RX0 19 "AtelierBook" "ledger" "[I", .fieldLink RX0 22 "AtelierBook" "layerCounts" "[I", .fieldLink RX0 25 "AtelierBook" "crackCounts" "[I", .fieldLink RX0 28 "AtelierBook" "latestPrices" "[I", .fieldLink RX0 31 "AtelierBook" "loanDays" "[I", .fieldLink RX0 34 "AtelierBook" "loanHouses" "[I", .fieldLink RX0 37 "AtelierBook" "loanCosts" "[I", .fieldLink RX0 40 "AtelierBook" "houseDamps" "[I", .fieldLink RX0 43 "AtelierBook" "housePayments" "[I"] ++ wsX00)
def wsX0_checkRange : List Cond := .code yX0_checkRange cX0_checkRange 3 none :: ([.classLink RX0 88 "java/lang/IllegalArgumentException", .initialized "java/lang/IllegalArgumentException"] ++ (vx_atS RX0 92 "java/lang/IllegalArgumentException" ["java/lang/RuntimeException", "java/lang/Exception"]).filter goodWord)
def wsX0_checkColour : List Cond := .code yX0_checkColour cX0_checkColour 3 none :: ([.methodLink RX0 65 yX0_checkRange, .static yX0_checkRange, .initialized RX0, .code yX0_checkRange cX0_checkRange 3 none, .classLink RX0 88 "java/lang/IllegalArgumentException", .initialized "java/lang/IllegalArgumentException"] ++ (vx_atS RX0 92 "java/lang/IllegalArgumentException" ["java/lang/RuntimeException", "java/lang/Exception"]).filter goodWord)
def wsX0_pigment : List Cond := .code yX0_pigment cX0_pigment 5 (some .int) :: ([.classLink RX0 54 "java/lang/IllegalStateException", .initialized "java/lang/IllegalStateException", .fieldLink RX0 50 "AtelierBook" "pigmentCount" "I", .fieldLink RX0 9 "AtelierBook" "pigmentColours" "[I", .methodLink RX0 46 yX0_checkColour, .static yX0_checkColour, .initialized RX0, .code yX0_checkColour cX0_checkColour 3 none, .methodLink RX0 65 yX0_checkRange, .static yX0_checkRange, .code yX0_checkRange cX0_checkRange 3 none, .classLink RX0 88 "java/lang/IllegalArgumentException", .initialized "java/lang/IllegalArgumentException"] ++ wsX00 ++ (vx_atS RX0 58 "java/lang/IllegalStateException" ["java/lang/RuntimeException", "java/lang/Exception"]).filter goodWord ++ (vx_atS RX0 92 "java/lang/IllegalArgumentException" ["java/lang/RuntimeException", "java/lang/Exception"]).filter goodWord)
def wsX0_checkNumber : List Cond := .code yX0_checkNumber cX0_checkNumber 2 none :: ([.classLink RX0 161 "java/lang/IndexOutOfBoundsException", .initialized "java/lang/IndexOutOfBoundsException"] ++ (vx_atS RX0 165 "java/lang/IndexOutOfBoundsException" ["java/lang/RuntimeException", "java/lang/Exception"]).filter goodWord)
def wsX0_tube : List Cond := .code yX0_tube cX0_tube 3 (some .int) :: ([.classLink RX0 54 "java/lang/IllegalStateException", .initialized "java/lang/IllegalStateException", .fieldLink RX0 50 "AtelierBook" "pigmentCount" "I", .fieldLink RX0 68 "AtelierBook" "tubeCount" "I", .fieldLink RX0 13 "AtelierBook" "pigmentOfTube" "[I", .fieldLink RX0 16 "AtelierBook" "gramsInTube" "[I", .methodLink RX0 61 yX0_checkNumber, .static yX0_checkNumber, .initialized RX0, .code yX0_checkNumber cX0_checkNumber 2 none, .classLink RX0 161 "java/lang/IndexOutOfBoundsException", .initialized "java/lang/IndexOutOfBoundsException", .methodLink RX0 65 yX0_checkRange, .static yX0_checkRange, .code yX0_checkRange cX0_checkRange 3 none, .classLink RX0 88 "java/lang/IllegalArgumentException", .initialized "java/lang/IllegalArgumentException"] ++ wsX00 ++ (vx_atS RX0 58 "java/lang/IllegalStateException" ["java/lang/RuntimeException", "java/lang/Exception"]).filter goodWord ++ (vx_atS RX0 165 "java/lang/IndexOutOfBoundsException" ["java/lang/RuntimeException", "java/lang/Exception"]).filter goodWord ++ (vx_atS RX0 92 "java/lang/IllegalArgumentException" ["java/lang/RuntimeException", "java/lang/Exception"]).filter goodWord)
def wsX0_pot : List Cond := .code yX0_pot cX0_pot 1 (some .int) :: ([.classLink RX0 54 "java/lang/IllegalStateException", .initialized "java/lang/IllegalStateException", .fieldLink RX0 73 "AtelierBook" "potCount" "I"] ++ wsX00 ++ (vx_atS RX0 58 "java/lang/IllegalStateException" ["java/lang/RuntimeException", "java/lang/Exception"]).filter goodWord)
def wsX0_potRow : List Cond := .code yX0_potRow cX0_potRow 1 (some .int) :: ([])
def wsX0_place : List Cond := .code yX0_place cX0_place 2 (some .int) :: ([])
def wsX0_squeeze : List Cond := .code yX0_squeeze cX0_squeeze 4 (some .int) :: ([.classLink RX0 54 "java/lang/IllegalStateException", .initialized "java/lang/IllegalStateException", .fieldLink RX0 73 "AtelierBook" "potCount" "I", .fieldLink RX0 68 "AtelierBook" "tubeCount" "I", .fieldLink RX0 16 "AtelierBook" "gramsInTube" "[I", .fieldLink RX0 19 "AtelierBook" "ledger" "[I", .methodLink RX0 61 yX0_checkNumber, .static yX0_checkNumber, .initialized RX0, .code yX0_checkNumber cX0_checkNumber 2 none, .classLink RX0 161 "java/lang/IndexOutOfBoundsException", .initialized "java/lang/IndexOutOfBoundsException", .methodLink RX0 65 yX0_checkRange, .static yX0_checkRange, .code yX0_checkRange cX0_checkRange 3 none, .classLink RX0 88 "java/lang/IllegalArgumentException", .initialized "java/lang/IllegalArgumentException", .methodLink RX0 80 yX0_potRow, .static yX0_potRow, .code yX0_potRow cX0_potRow 1 (some .int), .methodLink RX0 84 yX0_place, .static yX0_place, .code yX0_place cX0_place 2 (some .int)] ++ wsX00 ++ (vx_atS RX0 58 "java/lang/IllegalStateException" ["java/lang/RuntimeException", "java/lang/Exception"]).filter goodWord ++ (vx_atS RX0 165 "java/lang/IndexOutOfBoundsException" ["java/lang/RuntimeException", "java/lang/Exception"]).filter goodWord ++ (vx_atS RX0 92 "java/lang/IllegalArgumentException" ["java/lang/RuntimeException", "java/lang/Exception"]).filter goodWord)
def wsX0_sumOfRow : List Cond := .code yX0_sumOfRow cX0_sumOfRow 4 (some .int) :: ([.fieldLink RX0 68 "AtelierBook" "tubeCount" "I", .fieldLink RX0 19 "AtelierBook" "ledger" "[I", .methodLink RX0 84 yX0_place, .static yX0_place, .initialized RX0, .code yX0_place cX0_place 2 (some .int)] ++ wsX00)
def wsX0_move : List Cond := .code yX0_move cX0_move 9 (some .boolean) :: ([.fieldLink RX0 68 "AtelierBook" "tubeCount" "I", .fieldLink RX0 19 "AtelierBook" "ledger" "[I", .methodLink RX0 99 yX0_sumOfRow, .instanceMethod yX0_sumOfRow, .selects RX0 yX0_sumOfRow yX0_sumOfRow, .initialized RX0, .code yX0_sumOfRow cX0_sumOfRow 4 (some .int), .methodLink RX0 84 yX0_place, .static yX0_place, .code yX0_place cX0_place 2 (some .int)] ++ wsX00)
def wsX0_pour_r1 : List Cond := [Cond.classLink RX0 88 "java/lang/IllegalArgumentException", Cond.initialized "java/lang/IllegalArgumentException", Cond.classLink RX0 54 "java/lang/IllegalStateException", Cond.initialized "java/lang/IllegalStateException", Cond.fieldLink RX0 73 "AtelierBook" "potCount" "I", Cond.methodLink RX0 61 yX0_checkNumber, Cond.static yX0_checkNumber, Cond.initialized RX0, Cond.code yX0_checkNumber cX0_checkNumber 2 none, Cond.classLink RX0 161 "java/lang/IndexOutOfBoundsException", Cond.initialized "java/lang/IndexOutOfBoundsException", Cond.methodLink RX0 65 yX0_checkRange, Cond.static yX0_checkRange, Cond.code yX0_checkRange cX0_checkRange 3 none, Cond.methodLink RX0 80 yX0_potRow, Cond.static yX0_potRow, Cond.code yX0_potRow cX0_potRow 1 (some .int), Cond.methodLink RX0 93 yX0_move, Cond.instanceMethod yX0_move, Cond.selects RX0 yX0_move yX0_move, Cond.code yX0_move cX0_move 9 (some .boolean), Cond.fieldLink RX0 68 "AtelierBook" "tubeCount" "I", Cond.fieldLink RX0 19 "AtelierBook" "ledger" "[I", Cond.methodLink RX0 99 yX0_sumOfRow]
def wsX0_pour_r2 : List Cond := [Cond.instanceMethod yX0_sumOfRow, Cond.selects RX0 yX0_sumOfRow yX0_sumOfRow, Cond.code yX0_sumOfRow cX0_sumOfRow 4 (some .int), Cond.methodLink RX0 84 yX0_place, Cond.static yX0_place, Cond.code yX0_place cX0_place 2 (some .int)]
def wsX0_pour : List Cond := .code yX0_pour cX0_pour 4 (some .int) :: ((wsX0_pour_r1 ++ wsX0_pour_r2) ++ wsX00 ++ (vx_atS RX0 92 "java/lang/IllegalArgumentException" ["java/lang/RuntimeException", "java/lang/Exception"]).filter goodWord ++ (vx_atS RX0 58 "java/lang/IllegalStateException" ["java/lang/RuntimeException", "java/lang/Exception"]).filter goodWord ++ (vx_atS RX0 165 "java/lang/IndexOutOfBoundsException" ["java/lang/RuntimeException", "java/lang/Exception"]).filter goodWord)
def wsX0_waste : List Cond := .code yX0_waste cX0_waste 5 (some .int) :: ([.fieldLink RX0 68 "AtelierBook" "tubeCount" "I", .fieldLink RX0 19 "AtelierBook" "ledger" "[I", .methodLink RX0 84 yX0_place, .static yX0_place, .initialized RX0, .code yX0_place cX0_place 2 (some .int)] ++ wsX00)
def wsX0_scrape : List Cond := .code yX0_scrape cX0_scrape 2 (some .int) :: ([.fieldLink RX0 73 "AtelierBook" "potCount" "I", .methodLink RX0 61 yX0_checkNumber, .static yX0_checkNumber, .initialized RX0, .code yX0_checkNumber cX0_checkNumber 2 none, .classLink RX0 161 "java/lang/IndexOutOfBoundsException", .initialized "java/lang/IndexOutOfBoundsException", .methodLink RX0 80 yX0_potRow, .static yX0_potRow, .code yX0_potRow cX0_potRow 1 (some .int), .methodLink RX0 102 yX0_waste, .instanceMethod yX0_waste, .selects RX0 yX0_waste yX0_waste, .code yX0_waste cX0_waste 5 (some .int), .fieldLink RX0 68 "AtelierBook" "tubeCount" "I", .fieldLink RX0 19 "AtelierBook" "ledger" "[I", .methodLink RX0 84 yX0_place, .static yX0_place, .code yX0_place cX0_place 2 (some .int)] ++ wsX00 ++ (vx_atS RX0 165 "java/lang/IndexOutOfBoundsException" ["java/lang/RuntimeException", "java/lang/Exception"]).filter goodWord)
def wsX0_picture : List Cond := .code yX0_picture cX0_picture 1 (some .int) :: ([.classLink RX0 54 "java/lang/IllegalStateException", .initialized "java/lang/IllegalStateException", .fieldLink RX0 105 "AtelierBook" "pictureCount" "I"] ++ wsX00 ++ (vx_atS RX0 58 "java/lang/IllegalStateException" ["java/lang/RuntimeException", "java/lang/Exception"]).filter goodWord)
def wsX0_isLent : List Cond := .code yX0_isLent cX0_isLent 2 (some .boolean) :: ([.fieldLink RX0 31 "AtelierBook" "loanDays" "[I"] ++ wsX00)
def wsX0_checkAtHome : List Cond := .code yX0_checkAtHome cX0_checkAtHome 2 none :: ([.classLink RX0 54 "java/lang/IllegalStateException", .initialized "java/lang/IllegalStateException", .methodLink RX0 143 yX0_isLent, .instanceMethod yX0_isLent, .selects RX0 yX0_isLent yX0_isLent, .initialized RX0, .code yX0_isLent cX0_isLent 2 (some .boolean), .fieldLink RX0 31 "AtelierBook" "loanDays" "[I"] ++ wsX00 ++ (vx_atS RX0 58 "java/lang/IllegalStateException" ["java/lang/RuntimeException", "java/lang/Exception"]).filter goodWord)
def wsX0_layerRow : List Cond := .code yX0_layerRow cX0_layerRow 2 (some .int) :: ([])
def wsX0_paint_r1 : List Cond := [Cond.classLink RX0 54 "java/lang/IllegalStateException", Cond.initialized "java/lang/IllegalStateException", Cond.fieldLink RX0 105 "AtelierBook" "pictureCount" "I", Cond.fieldLink RX0 73 "AtelierBook" "potCount" "I", Cond.fieldLink RX0 22 "AtelierBook" "layerCounts" "[I", Cond.methodLink RX0 61 yX0_checkNumber, Cond.static yX0_checkNumber, Cond.initialized RX0, Cond.code yX0_checkNumber cX0_checkNumber 2 none, Cond.classLink RX0 161 "java/lang/IndexOutOfBoundsException", Cond.initialized "java/lang/IndexOutOfBoundsException", Cond.methodLink RX0 65 yX0_checkRange, Cond.static yX0_checkRange, Cond.code yX0_checkRange cX0_checkRange 3 none, Cond.classLink RX0 88 "java/lang/IllegalArgumentException", Cond.initialized "java/lang/IllegalArgumentException", Cond.methodLink RX0 110 yX0_checkAtHome, Cond.instanceMethod yX0_checkAtHome, Cond.selects RX0 yX0_checkAtHome yX0_checkAtHome, Cond.code yX0_checkAtHome cX0_checkAtHome 2 none, Cond.methodLink RX0 143 yX0_isLent, Cond.instanceMethod yX0_isLent, Cond.selects RX0 yX0_isLent yX0_isLent, Cond.code yX0_isLent cX0_isLent 2 (some .boolean)]
def wsX0_paint_r2 : List Cond := [Cond.fieldLink RX0 31 "AtelierBook" "loanDays" "[I", Cond.methodLink RX0 80 yX0_potRow, Cond.static yX0_potRow, Cond.code yX0_potRow cX0_potRow 1 (some .int), Cond.methodLink RX0 116 yX0_layerRow, Cond.static yX0_layerRow, Cond.code yX0_layerRow cX0_layerRow 2 (some .int), Cond.methodLink RX0 93 yX0_move, Cond.instanceMethod yX0_move, Cond.selects RX0 yX0_move yX0_move, Cond.code yX0_move cX0_move 9 (some .boolean), Cond.fieldLink RX0 68 "AtelierBook" "tubeCount" "I", Cond.fieldLink RX0 19 "AtelierBook" "ledger" "[I", Cond.methodLink RX0 99 yX0_sumOfRow, Cond.instanceMethod yX0_sumOfRow, Cond.selects RX0 yX0_sumOfRow yX0_sumOfRow, Cond.code yX0_sumOfRow cX0_sumOfRow 4 (some .int), Cond.methodLink RX0 84 yX0_place, Cond.static yX0_place, Cond.code yX0_place cX0_place 2 (some .int)]
def wsX0_paint : List Cond := .code yX0_paint cX0_paint 4 (some .int) :: ((wsX0_paint_r1 ++ wsX0_paint_r2) ++ wsX00 ++ (vx_atS RX0 58 "java/lang/IllegalStateException" ["java/lang/RuntimeException", "java/lang/Exception"]).filter goodWord ++ (vx_atS RX0 165 "java/lang/IndexOutOfBoundsException" ["java/lang/RuntimeException", "java/lang/Exception"]).filter goodWord ++ (vx_atS RX0 92 "java/lang/IllegalArgumentException" ["java/lang/RuntimeException", "java/lang/Exception"]).filter goodWord)
def wsX0_clean_r1 : List Cond := [Cond.classLink RX0 54 "java/lang/IllegalStateException", Cond.initialized "java/lang/IllegalStateException", Cond.fieldLink RX0 105 "AtelierBook" "pictureCount" "I", Cond.fieldLink RX0 22 "AtelierBook" "layerCounts" "[I", Cond.methodLink RX0 61 yX0_checkNumber, Cond.static yX0_checkNumber, Cond.initialized RX0, Cond.code yX0_checkNumber cX0_checkNumber 2 none, Cond.classLink RX0 161 "java/lang/IndexOutOfBoundsException", Cond.initialized "java/lang/IndexOutOfBoundsException", Cond.methodLink RX0 65 yX0_checkRange, Cond.static yX0_checkRange, Cond.code yX0_checkRange cX0_checkRange 3 none, Cond.classLink RX0 88 "java/lang/IllegalArgumentException", Cond.initialized "java/lang/IllegalArgumentException", Cond.methodLink RX0 110 yX0_checkAtHome, Cond.instanceMethod yX0_checkAtHome, Cond.selects RX0 yX0_checkAtHome yX0_checkAtHome, Cond.code yX0_checkAtHome cX0_checkAtHome 2 none, Cond.methodLink RX0 143 yX0_isLent, Cond.instanceMethod yX0_isLent, Cond.selects RX0 yX0_isLent yX0_isLent, Cond.code yX0_isLent cX0_isLent 2 (some .boolean), Cond.fieldLink RX0 31 "AtelierBook" "loanDays" "[I"]
def wsX0_clean_r2 : List Cond := [Cond.methodLink RX0 116 yX0_layerRow, Cond.static yX0_layerRow, Cond.code yX0_layerRow cX0_layerRow 2 (some .int), Cond.methodLink RX0 102 yX0_waste, Cond.instanceMethod yX0_waste, Cond.selects RX0 yX0_waste yX0_waste, Cond.code yX0_waste cX0_waste 5 (some .int), Cond.fieldLink RX0 68 "AtelierBook" "tubeCount" "I", Cond.fieldLink RX0 19 "AtelierBook" "ledger" "[I", Cond.methodLink RX0 84 yX0_place, Cond.static yX0_place, Cond.code yX0_place cX0_place 2 (some .int)]
def wsX0_clean : List Cond := .code yX0_clean cX0_clean 5 (some .int) :: ((wsX0_clean_r1 ++ wsX0_clean_r2) ++ wsX00 ++ (vx_atS RX0 58 "java/lang/IllegalStateException" ["java/lang/RuntimeException", "java/lang/Exception"]).filter goodWord ++ (vx_atS RX0 165 "java/lang/IndexOutOfBoundsException" ["java/lang/RuntimeException", "java/lang/Exception"]).filter goodWord ++ (vx_atS RX0 92 "java/lang/IllegalArgumentException" ["java/lang/RuntimeException", "java/lang/Exception"]).filter goodWord)
def wsX0_damp : List Cond := .code yX0_damp cX0_damp 4 (some .int) :: ([.fieldLink RX0 40 "AtelierBook" "houseDamps" "[I", .methodLink RX0 61 yX0_checkNumber, .static yX0_checkNumber, .initialized RX0, .code yX0_checkNumber cX0_checkNumber 2 none, .classLink RX0 161 "java/lang/IndexOutOfBoundsException", .initialized "java/lang/IndexOutOfBoundsException", .methodLink RX0 65 yX0_checkRange, .static yX0_checkRange, .code yX0_checkRange cX0_checkRange 3 none, .classLink RX0 88 "java/lang/IllegalArgumentException", .initialized "java/lang/IllegalArgumentException"] ++ wsX00 ++ (vx_atS RX0 165 "java/lang/IndexOutOfBoundsException" ["java/lang/RuntimeException", "java/lang/Exception"]).filter goodWord ++ (vx_atS RX0 92 "java/lang/IllegalArgumentException" ["java/lang/RuntimeException", "java/lang/Exception"]).filter goodWord)
def wsX0_gramsOfPigment : List Cond := .code yX0_gramsOfPigment cX0_gramsOfPigment 5 (some .int) :: ([.fieldLink RX0 68 "AtelierBook" "tubeCount" "I", .fieldLink RX0 13 "AtelierBook" "pigmentOfTube" "[I", .fieldLink RX0 19 "AtelierBook" "ledger" "[I", .methodLink RX0 84 yX0_place, .static yX0_place, .initialized RX0, .code yX0_place cX0_place 2 (some .int)] ++ wsX00)
def wsX0_mainPigmentOfRow : List Cond := .code yX0_mainPigmentOfRow cX0_mainPigmentOfRow 6 (some .int) :: ([.fieldLink RX0 50 "AtelierBook" "pigmentCount" "I", .methodLink RX0 173 yX0_gramsOfPigment, .instanceMethod yX0_gramsOfPigment, .selects RX0 yX0_gramsOfPigment yX0_gramsOfPigment, .initialized RX0, .code yX0_gramsOfPigment cX0_gramsOfPigment 5 (some .int), .fieldLink RX0 68 "AtelierBook" "tubeCount" "I", .fieldLink RX0 13 "AtelierBook" "pigmentOfTube" "[I", .fieldLink RX0 19 "AtelierBook" "ledger" "[I", .methodLink RX0 84 yX0_place, .static yX0_place, .code yX0_place cX0_place 2 (some .int)] ++ wsX00)
def wsX0_mainPigmentOf : List Cond := .code yX0_mainPigmentOf cX0_mainPigmentOf 3 (some .int) :: ([.fieldLink RX0 22 "AtelierBook" "layerCounts" "[I", .methodLink RX0 116 yX0_layerRow, .static yX0_layerRow, .initialized RX0, .code yX0_layerRow cX0_layerRow 2 (some .int), .methodLink RX0 176 yX0_mainPigmentOfRow, .instanceMethod yX0_mainPigmentOfRow, .selects RX0 yX0_mainPigmentOfRow yX0_mainPigmentOfRow, .code yX0_mainPigmentOfRow cX0_mainPigmentOfRow 6 (some .int), .fieldLink RX0 50 "AtelierBook" "pigmentCount" "I", .methodLink RX0 173 yX0_gramsOfPigment, .instanceMethod yX0_gramsOfPigment, .selects RX0 yX0_gramsOfPigment yX0_gramsOfPigment, .code yX0_gramsOfPigment cX0_gramsOfPigment 5 (some .int), .fieldLink RX0 68 "AtelierBook" "tubeCount" "I", .fieldLink RX0 13 "AtelierBook" "pigmentOfTube" "[I", .fieldLink RX0 19 "AtelierBook" "ledger" "[I", .methodLink RX0 84 yX0_place, .static yX0_place, .code yX0_place cX0_place 2 (some .int)] ++ wsX00)
def wsX0_averagePriceOfAlike_r1 : List Cond := [Cond.fieldLink RX0 105 "AtelierBook" "pictureCount" "I", Cond.fieldLink RX0 28 "AtelierBook" "latestPrices" "[I", Cond.methodLink RX0 140 yX0_mainPigmentOf, Cond.instanceMethod yX0_mainPigmentOf, Cond.selects RX0 yX0_mainPigmentOf yX0_mainPigmentOf, Cond.initialized RX0, Cond.code yX0_mainPigmentOf cX0_mainPigmentOf 3 (some .int), Cond.fieldLink RX0 22 "AtelierBook" "layerCounts" "[I", Cond.methodLink RX0 116 yX0_layerRow, Cond.static yX0_layerRow, Cond.code yX0_layerRow cX0_layerRow 2 (some .int), Cond.methodLink RX0 176 yX0_mainPigmentOfRow, Cond.instanceMethod yX0_mainPigmentOfRow, Cond.selects RX0 yX0_mainPigmentOfRow yX0_mainPigmentOfRow, Cond.code yX0_mainPigmentOfRow cX0_mainPigmentOfRow 6 (some .int), Cond.fieldLink RX0 50 "AtelierBook" "pigmentCount" "I", Cond.methodLink RX0 173 yX0_gramsOfPigment, Cond.instanceMethod yX0_gramsOfPigment, Cond.selects RX0 yX0_gramsOfPigment yX0_gramsOfPigment, Cond.code yX0_gramsOfPigment cX0_gramsOfPigment 5 (some .int), Cond.fieldLink RX0 68 "AtelierBook" "tubeCount" "I", Cond.fieldLink RX0 13 "AtelierBook" "pigmentOfTube" "[I", Cond.fieldLink RX0 19 "AtelierBook" "ledger" "[I", Cond.methodLink RX0 84 yX0_place]
def wsX0_averagePriceOfAlike_r2 : List Cond := [Cond.static yX0_place, Cond.code yX0_place cX0_place 2 (some .int)]
def wsX0_averagePriceOfAlike : List Cond := .code yX0_averagePriceOfAlike cX0_averagePriceOfAlike 6 (some .int) :: ((wsX0_averagePriceOfAlike_r1 ++ wsX0_averagePriceOfAlike_r2) ++ wsX00)
def wsX0_valueOf_r1 : List Cond := [Cond.fieldLink RX0 25 "AtelierBook" "crackCounts" "[I", Cond.methodLink RX0 182 Lib.Math.max.name, Cond.static Lib.Math.max.name, Cond.initialized "java/lang/Math", Cond.code Lib.Math.max.name Lib.Math.max.code 2 (some .int), Cond.methodLink RX0 179 yX0_averagePriceOfAlike, Cond.instanceMethod yX0_averagePriceOfAlike, Cond.selects RX0 yX0_averagePriceOfAlike yX0_averagePriceOfAlike, Cond.initialized RX0, Cond.code yX0_averagePriceOfAlike cX0_averagePriceOfAlike 6 (some .int), Cond.fieldLink RX0 105 "AtelierBook" "pictureCount" "I", Cond.fieldLink RX0 28 "AtelierBook" "latestPrices" "[I", Cond.methodLink RX0 140 yX0_mainPigmentOf, Cond.instanceMethod yX0_mainPigmentOf, Cond.selects RX0 yX0_mainPigmentOf yX0_mainPigmentOf, Cond.code yX0_mainPigmentOf cX0_mainPigmentOf 3 (some .int), Cond.fieldLink RX0 22 "AtelierBook" "layerCounts" "[I", Cond.methodLink RX0 116 yX0_layerRow, Cond.static yX0_layerRow, Cond.code yX0_layerRow cX0_layerRow 2 (some .int), Cond.methodLink RX0 176 yX0_mainPigmentOfRow, Cond.instanceMethod yX0_mainPigmentOfRow, Cond.selects RX0 yX0_mainPigmentOfRow yX0_mainPigmentOfRow, Cond.code yX0_mainPigmentOfRow cX0_mainPigmentOfRow 6 (some .int)]
def wsX0_valueOf_r2 : List Cond := [Cond.fieldLink RX0 50 "AtelierBook" "pigmentCount" "I", Cond.methodLink RX0 173 yX0_gramsOfPigment, Cond.instanceMethod yX0_gramsOfPigment, Cond.selects RX0 yX0_gramsOfPigment yX0_gramsOfPigment, Cond.code yX0_gramsOfPigment cX0_gramsOfPigment 5 (some .int), Cond.fieldLink RX0 68 "AtelierBook" "tubeCount" "I", Cond.fieldLink RX0 13 "AtelierBook" "pigmentOfTube" "[I", Cond.fieldLink RX0 19 "AtelierBook" "ledger" "[I", Cond.methodLink RX0 84 yX0_place, Cond.static yX0_place, Cond.code yX0_place cX0_place 2 (some .int)]
def wsX0_valueOf : List Cond := .code yX0_valueOf cX0_valueOf 3 (some .int) :: ((wsX0_valueOf_r1 ++ wsX0_valueOf_r2) ++ wsX00)
def wsX0_lend_r1 : List Cond := [Cond.classLink RX0 54 "java/lang/IllegalStateException", Cond.initialized "java/lang/IllegalStateException", Cond.fieldLink RX0 105 "AtelierBook" "pictureCount" "I", Cond.fieldLink RX0 25 "AtelierBook" "crackCounts" "[I", Cond.fieldLink RX0 37 "AtelierBook" "loanCosts" "[I", Cond.fieldLink RX0 34 "AtelierBook" "loanHouses" "[I", Cond.fieldLink RX0 31 "AtelierBook" "loanDays" "[I", Cond.methodLink RX0 61 yX0_checkNumber, Cond.static yX0_checkNumber, Cond.initialized RX0, Cond.code yX0_checkNumber cX0_checkNumber 2 none, Cond.classLink RX0 161 "java/lang/IndexOutOfBoundsException", Cond.initialized "java/lang/IndexOutOfBoundsException", Cond.methodLink RX0 65 yX0_checkRange, Cond.static yX0_checkRange, Cond.code yX0_checkRange cX0_checkRange 3 none, Cond.classLink RX0 88 "java/lang/IllegalArgumentException", Cond.initialized "java/lang/IllegalArgumentException", Cond.methodLink RX0 110 yX0_checkAtHome, Cond.instanceMethod yX0_checkAtHome, Cond.selects RX0 yX0_checkAtHome yX0_checkAtHome, Cond.code yX0_checkAtHome cX0_checkAtHome 2 none, Cond.methodLink RX0 143 yX0_isLent, Cond.instanceMethod yX0_isLent]
def wsX0_lend_r2 : List Cond := [Cond.selects RX0 yX0_isLent yX0_isLent, Cond.code yX0_isLent cX0_isLent 2 (some .boolean), Cond.methodLink RX0 123 yX0_valueOf, Cond.instanceMethod yX0_valueOf, Cond.selects RX0 yX0_valueOf yX0_valueOf, Cond.code yX0_valueOf cX0_valueOf 3 (some .int), Cond.methodLink RX0 182 Lib.Math.max.name, Cond.static Lib.Math.max.name, Cond.initialized "java/lang/Math", Cond.code Lib.Math.max.name Lib.Math.max.code 2 (some .int), Cond.methodLink RX0 179 yX0_averagePriceOfAlike, Cond.instanceMethod yX0_averagePriceOfAlike, Cond.selects RX0 yX0_averagePriceOfAlike yX0_averagePriceOfAlike, Cond.code yX0_averagePriceOfAlike cX0_averagePriceOfAlike 6 (some .int), Cond.fieldLink RX0 28 "AtelierBook" "latestPrices" "[I", Cond.methodLink RX0 140 yX0_mainPigmentOf, Cond.instanceMethod yX0_mainPigmentOf, Cond.selects RX0 yX0_mainPigmentOf yX0_mainPigmentOf, Cond.code yX0_mainPigmentOf cX0_mainPigmentOf 3 (some .int), Cond.fieldLink RX0 22 "AtelierBook" "layerCounts" "[I", Cond.methodLink RX0 116 yX0_layerRow, Cond.static yX0_layerRow, Cond.code yX0_layerRow cX0_layerRow 2 (some .int), Cond.methodLink RX0 176 yX0_mainPigmentOfRow]
def wsX0_lend_r3 : List Cond := [Cond.instanceMethod yX0_mainPigmentOfRow, Cond.selects RX0 yX0_mainPigmentOfRow yX0_mainPigmentOfRow, Cond.code yX0_mainPigmentOfRow cX0_mainPigmentOfRow 6 (some .int), Cond.fieldLink RX0 50 "AtelierBook" "pigmentCount" "I", Cond.methodLink RX0 173 yX0_gramsOfPigment, Cond.instanceMethod yX0_gramsOfPigment, Cond.selects RX0 yX0_gramsOfPigment yX0_gramsOfPigment, Cond.code yX0_gramsOfPigment cX0_gramsOfPigment 5 (some .int), Cond.fieldLink RX0 68 "AtelierBook" "tubeCount" "I", Cond.fieldLink RX0 13 "AtelierBook" "pigmentOfTube" "[I", Cond.fieldLink RX0 19 "AtelierBook" "ledger" "[I", Cond.methodLink RX0 84 yX0_place, Cond.static yX0_place, Cond.code yX0_place cX0_place 2 (some .int)]
def wsX0_lend : List Cond := .code yX0_lend cX0_lend 4 (some .int) :: ((wsX0_lend_r1 ++ (wsX0_lend_r2 ++ wsX0_lend_r3)) ++ wsX00 ++ (vx_atS RX0 58 "java/lang/IllegalStateException" ["java/lang/RuntimeException", "java/lang/Exception"]).filter goodWord ++ (vx_atS RX0 165 "java/lang/IndexOutOfBoundsException" ["java/lang/RuntimeException", "java/lang/Exception"]).filter goodWord ++ (vx_atS RX0 92 "java/lang/IllegalArgumentException" ["java/lang/RuntimeException", "java/lang/Exception"]).filter goodWord)
def wsX0_sell_r1 : List Cond := [Cond.classLink RX0 54 "java/lang/IllegalStateException", Cond.initialized "java/lang/IllegalStateException", Cond.fieldLink RX0 105 "AtelierBook" "pictureCount" "I", Cond.constant RX0 126 (100000), Cond.fieldLink RX0 22 "AtelierBook" "layerCounts" "[I", Cond.fieldLink RX0 28 "AtelierBook" "latestPrices" "[I", Cond.methodLink RX0 61 yX0_checkNumber, Cond.static yX0_checkNumber, Cond.initialized RX0, Cond.code yX0_checkNumber cX0_checkNumber 2 none, Cond.classLink RX0 161 "java/lang/IndexOutOfBoundsException", Cond.initialized "java/lang/IndexOutOfBoundsException", Cond.methodLink RX0 65 yX0_checkRange, Cond.static yX0_checkRange, Cond.code yX0_checkRange cX0_checkRange 3 none, Cond.classLink RX0 88 "java/lang/IllegalArgumentException", Cond.initialized "java/lang/IllegalArgumentException", Cond.methodLink RX0 110 yX0_checkAtHome, Cond.instanceMethod yX0_checkAtHome, Cond.selects RX0 yX0_checkAtHome yX0_checkAtHome, Cond.code yX0_checkAtHome cX0_checkAtHome 2 none, Cond.methodLink RX0 143 yX0_isLent, Cond.instanceMethod yX0_isLent, Cond.selects RX0 yX0_isLent yX0_isLent]
def wsX0_sell_r2 : List Cond := [Cond.code yX0_isLent cX0_isLent 2 (some .boolean), Cond.fieldLink RX0 31 "AtelierBook" "loanDays" "[I", Cond.methodLink RX0 123 yX0_valueOf, Cond.instanceMethod yX0_valueOf, Cond.selects RX0 yX0_valueOf yX0_valueOf, Cond.code yX0_valueOf cX0_valueOf 3 (some .int), Cond.fieldLink RX0 25 "AtelierBook" "crackCounts" "[I", Cond.methodLink RX0 182 Lib.Math.max.name, Cond.static Lib.Math.max.name, Cond.initialized "java/lang/Math", Cond.code Lib.Math.max.name Lib.Math.max.code 2 (some .int), Cond.methodLink RX0 179 yX0_averagePriceOfAlike, Cond.instanceMethod yX0_averagePriceOfAlike, Cond.selects RX0 yX0_averagePriceOfAlike yX0_averagePriceOfAlike, Cond.code yX0_averagePriceOfAlike cX0_averagePriceOfAlike 6 (some .int), Cond.methodLink RX0 140 yX0_mainPigmentOf, Cond.instanceMethod yX0_mainPigmentOf, Cond.selects RX0 yX0_mainPigmentOf yX0_mainPigmentOf, Cond.code yX0_mainPigmentOf cX0_mainPigmentOf 3 (some .int), Cond.methodLink RX0 116 yX0_layerRow, Cond.static yX0_layerRow, Cond.code yX0_layerRow cX0_layerRow 2 (some .int), Cond.methodLink RX0 176 yX0_mainPigmentOfRow, Cond.instanceMethod yX0_mainPigmentOfRow]
def wsX0_sell_r3 : List Cond := [Cond.selects RX0 yX0_mainPigmentOfRow yX0_mainPigmentOfRow, Cond.code yX0_mainPigmentOfRow cX0_mainPigmentOfRow 6 (some .int), Cond.fieldLink RX0 50 "AtelierBook" "pigmentCount" "I", Cond.methodLink RX0 173 yX0_gramsOfPigment, Cond.instanceMethod yX0_gramsOfPigment, Cond.selects RX0 yX0_gramsOfPigment yX0_gramsOfPigment, Cond.code yX0_gramsOfPigment cX0_gramsOfPigment 5 (some .int), Cond.fieldLink RX0 68 "AtelierBook" "tubeCount" "I", Cond.fieldLink RX0 13 "AtelierBook" "pigmentOfTube" "[I", Cond.fieldLink RX0 19 "AtelierBook" "ledger" "[I", Cond.methodLink RX0 84 yX0_place, Cond.static yX0_place, Cond.code yX0_place cX0_place 2 (some .int)]
def wsX0_sell : List Cond := .code yX0_sell cX0_sell 3 (some .int) :: ((wsX0_sell_r1 ++ (wsX0_sell_r2 ++ wsX0_sell_r3)) ++ wsX00 ++ (vx_atS RX0 58 "java/lang/IllegalStateException" ["java/lang/RuntimeException", "java/lang/Exception"]).filter goodWord ++ (vx_atS RX0 165 "java/lang/IndexOutOfBoundsException" ["java/lang/RuntimeException", "java/lang/Exception"]).filter goodWord ++ (vx_atS RX0 92 "java/lang/IllegalArgumentException" ["java/lang/RuntimeException", "java/lang/Exception"]).filter goodWord)
def wsX0_passForLoan : List Cond := .code yX0_passForLoan cX0_passForLoan 5 none :: ([.fieldLink RX0 31 "AtelierBook" "loanDays" "[I", .methodLink RX0 187 Lib.Math.min.name, .static Lib.Math.min.name, .initialized "java/lang/Math", .code Lib.Math.min.name Lib.Math.min.code 2 (some .int), .fieldLink RX0 34 "AtelierBook" "loanHouses" "[I", .fieldLink RX0 40 "AtelierBook" "houseDamps" "[I", .methodLink RX0 190 Lib.Math.abs.name, .static Lib.Math.abs.name, .code Lib.Math.abs.name Lib.Math.abs.code 1 (some .int), .fieldLink RX0 25 "AtelierBook" "crackCounts" "[I", .fieldLink RX0 43 "AtelierBook" "housePayments" "[I", .fieldLink RX0 37 "AtelierBook" "loanCosts" "[I"] ++ wsX00)
def wsX0_pass_r1 : List Cond := [Cond.classLink RX0 54 "java/lang/IllegalStateException", Cond.initialized "java/lang/IllegalStateException", Cond.fieldLink RX0 129 "AtelierBook" "today" "I", Cond.fieldLink RX0 105 "AtelierBook" "pictureCount" "I", Cond.methodLink RX0 65 yX0_checkRange, Cond.static yX0_checkRange, Cond.initialized RX0, Cond.code yX0_checkRange cX0_checkRange 3 none, Cond.classLink RX0 88 "java/lang/IllegalArgumentException", Cond.initialized "java/lang/IllegalArgumentException", Cond.methodLink RX0 134 yX0_passForLoan, Cond.instanceMethod yX0_passForLoan, Cond.selects RX0 yX0_passForLoan yX0_passForLoan, Cond.code yX0_passForLoan cX0_passForLoan 5 none, Cond.fieldLink RX0 31 "AtelierBook" "loanDays" "[I", Cond.methodLink RX0 187 Lib.Math.min.name, Cond.static Lib.Math.min.name, Cond.initialized "java/lang/Math", Cond.code Lib.Math.min.name Lib.Math.min.code 2 (some .int), Cond.fieldLink RX0 34 "AtelierBook" "loanHouses" "[I", Cond.fieldLink RX0 40 "AtelierBook" "houseDamps" "[I", Cond.methodLink RX0 190 Lib.Math.abs.name, Cond.static Lib.Math.abs.name, Cond.code Lib.Math.abs.name Lib.Math.abs.code 1 (some .int)]
def wsX0_pass_r2 : List Cond := [Cond.fieldLink RX0 25 "AtelierBook" "crackCounts" "[I", Cond.fieldLink RX0 43 "AtelierBook" "housePayments" "[I", Cond.fieldLink RX0 37 "AtelierBook" "loanCosts" "[I"]
def wsX0_pass : List Cond := .code yX0_pass cX0_pass 3 (some .int) :: ((wsX0_pass_r1 ++ wsX0_pass_r2) ++ wsX00 ++ (vx_atS RX0 58 "java/lang/IllegalStateException" ["java/lang/RuntimeException", "java/lang/Exception"]).filter goodWord ++ (vx_atS RX0 92 "java/lang/IllegalArgumentException" ["java/lang/RuntimeException", "java/lang/Exception"]).filter goodWord)
def wsX0_left : List Cond := .code yX0_left cX0_left 2 (some .int) :: ([.fieldLink RX0 68 "AtelierBook" "tubeCount" "I", .fieldLink RX0 16 "AtelierBook" "gramsInTube" "[I", .methodLink RX0 61 yX0_checkNumber, .static yX0_checkNumber, .initialized RX0, .code yX0_checkNumber cX0_checkNumber 2 none, .classLink RX0 161 "java/lang/IndexOutOfBoundsException", .initialized "java/lang/IndexOutOfBoundsException"] ++ wsX00 ++ (vx_atS RX0 165 "java/lang/IndexOutOfBoundsException" ["java/lang/RuntimeException", "java/lang/Exception"]).filter goodWord)
def wsX0_has : List Cond := .code yX0_has cX0_has 3 (some .int) :: ([.fieldLink RX0 73 "AtelierBook" "potCount" "I", .fieldLink RX0 68 "AtelierBook" "tubeCount" "I", .fieldLink RX0 19 "AtelierBook" "ledger" "[I", .methodLink RX0 61 yX0_checkNumber, .static yX0_checkNumber, .initialized RX0, .code yX0_checkNumber cX0_checkNumber 2 none, .classLink RX0 161 "java/lang/IndexOutOfBoundsException", .initialized "java/lang/IndexOutOfBoundsException", .methodLink RX0 80 yX0_potRow, .static yX0_potRow, .code yX0_potRow cX0_potRow 1 (some .int), .methodLink RX0 99 yX0_sumOfRow, .instanceMethod yX0_sumOfRow, .selects RX0 yX0_sumOfRow yX0_sumOfRow, .code yX0_sumOfRow cX0_sumOfRow 4 (some .int), .methodLink RX0 84 yX0_place, .static yX0_place, .code yX0_place cX0_place 2 (some .int)] ++ wsX00 ++ (vx_atS RX0 165 "java/lang/IndexOutOfBoundsException" ["java/lang/RuntimeException", "java/lang/Exception"]).filter goodWord)
def wsX0_colourOfTube : List Cond := .code yX0_colourOfTube cX0_colourOfTube 3 (some .int) :: ([.fieldLink RX0 9 "AtelierBook" "pigmentColours" "[I", .fieldLink RX0 13 "AtelierBook" "pigmentOfTube" "[I"] ++ wsX00)
def wsX0_colourOfRow : List Cond := .code yX0_colourOfRow cX0_colourOfRow 7 (some .int) :: ([.fieldLink RX0 68 "AtelierBook" "tubeCount" "I", .fieldLink RX0 19 "AtelierBook" "ledger" "[I", .methodLink RX0 84 yX0_place, .static yX0_place, .initialized RX0, .code yX0_place cX0_place 2 (some .int), .methodLink RX0 170 yX0_colourOfTube, .instanceMethod yX0_colourOfTube, .selects RX0 yX0_colourOfTube yX0_colourOfTube, .code yX0_colourOfTube cX0_colourOfTube 3 (some .int), .fieldLink RX0 9 "AtelierBook" "pigmentColours" "[I", .fieldLink RX0 13 "AtelierBook" "pigmentOfTube" "[I"] ++ wsX00)
def wsX0_colour_r1 : List Cond := [Cond.fieldLink RX0 73 "AtelierBook" "potCount" "I", Cond.methodLink RX0 61 yX0_checkNumber, Cond.static yX0_checkNumber, Cond.initialized RX0, Cond.code yX0_checkNumber cX0_checkNumber 2 none, Cond.classLink RX0 161 "java/lang/IndexOutOfBoundsException", Cond.initialized "java/lang/IndexOutOfBoundsException", Cond.methodLink RX0 65 yX0_checkRange, Cond.static yX0_checkRange, Cond.code yX0_checkRange cX0_checkRange 3 none, Cond.classLink RX0 88 "java/lang/IllegalArgumentException", Cond.initialized "java/lang/IllegalArgumentException", Cond.methodLink RX0 80 yX0_potRow, Cond.static yX0_potRow, Cond.code yX0_potRow cX0_potRow 1 (some .int), Cond.methodLink RX0 137 yX0_colourOfRow, Cond.instanceMethod yX0_colourOfRow, Cond.selects RX0 yX0_colourOfRow yX0_colourOfRow, Cond.code yX0_colourOfRow cX0_colourOfRow 7 (some .int), Cond.fieldLink RX0 68 "AtelierBook" "tubeCount" "I", Cond.fieldLink RX0 19 "AtelierBook" "ledger" "[I", Cond.methodLink RX0 84 yX0_place, Cond.static yX0_place, Cond.code yX0_place cX0_place 2 (some .int)]
def wsX0_colour_r2 : List Cond := [Cond.methodLink RX0 170 yX0_colourOfTube, Cond.instanceMethod yX0_colourOfTube, Cond.selects RX0 yX0_colourOfTube yX0_colourOfTube, Cond.code yX0_colourOfTube cX0_colourOfTube 3 (some .int), Cond.fieldLink RX0 9 "AtelierBook" "pigmentColours" "[I", Cond.fieldLink RX0 13 "AtelierBook" "pigmentOfTube" "[I"]
def wsX0_colour : List Cond := .code yX0_colour cX0_colour 3 (some .int) :: ((wsX0_colour_r1 ++ wsX0_colour_r2) ++ wsX00 ++ (vx_atS RX0 165 "java/lang/IndexOutOfBoundsException" ["java/lang/RuntimeException", "java/lang/Exception"]).filter goodWord ++ (vx_atS RX0 92 "java/lang/IllegalArgumentException" ["java/lang/RuntimeException", "java/lang/Exception"]).filter goodWord)
def wsX0_lookOf : List Cond := .code yX0_lookOf cX0_lookOf 4 (some .int) :: ([.fieldLink RX0 22 "AtelierBook" "layerCounts" "[I", .methodLink RX0 116 yX0_layerRow, .static yX0_layerRow, .initialized RX0, .code yX0_layerRow cX0_layerRow 2 (some .int), .methodLink RX0 137 yX0_colourOfRow, .instanceMethod yX0_colourOfRow, .selects RX0 yX0_colourOfRow yX0_colourOfRow, .code yX0_colourOfRow cX0_colourOfRow 7 (some .int), .fieldLink RX0 68 "AtelierBook" "tubeCount" "I", .fieldLink RX0 19 "AtelierBook" "ledger" "[I", .methodLink RX0 84 yX0_place, .static yX0_place, .code yX0_place cX0_place 2 (some .int), .methodLink RX0 170 yX0_colourOfTube, .instanceMethod yX0_colourOfTube, .selects RX0 yX0_colourOfTube yX0_colourOfTube, .code yX0_colourOfTube cX0_colourOfTube 3 (some .int), .fieldLink RX0 9 "AtelierBook" "pigmentColours" "[I", .fieldLink RX0 13 "AtelierBook" "pigmentOfTube" "[I"] ++ wsX00)
def wsX0_of_r1 : List Cond := [Cond.fieldLink RX0 105 "AtelierBook" "pictureCount" "I", Cond.fieldLink RX0 22 "AtelierBook" "layerCounts" "[I", Cond.fieldLink RX0 25 "AtelierBook" "crackCounts" "[I", Cond.fieldLink RX0 34 "AtelierBook" "loanHouses" "[I", Cond.fieldLink RX0 31 "AtelierBook" "loanDays" "[I", Cond.methodLink RX0 61 yX0_checkNumber, Cond.static yX0_checkNumber, Cond.initialized RX0, Cond.code yX0_checkNumber cX0_checkNumber 2 none, Cond.classLink RX0 161 "java/lang/IndexOutOfBoundsException", Cond.initialized "java/lang/IndexOutOfBoundsException", Cond.methodLink RX0 65 yX0_checkRange, Cond.static yX0_checkRange, Cond.code yX0_checkRange cX0_checkRange 3 none, Cond.classLink RX0 88 "java/lang/IllegalArgumentException", Cond.initialized "java/lang/IllegalArgumentException", Cond.methodLink RX0 123 yX0_valueOf, Cond.instanceMethod yX0_valueOf, Cond.selects RX0 yX0_valueOf yX0_valueOf, Cond.code yX0_valueOf cX0_valueOf 3 (some .int), Cond.methodLink RX0 182 Lib.Math.max.name, Cond.static Lib.Math.max.name, Cond.initialized "java/lang/Math", Cond.code Lib.Math.max.name Lib.Math.max.code 2 (some .int)]
def wsX0_of_r2 : List Cond := [Cond.methodLink RX0 179 yX0_averagePriceOfAlike, Cond.instanceMethod yX0_averagePriceOfAlike, Cond.selects RX0 yX0_averagePriceOfAlike yX0_averagePriceOfAlike, Cond.code yX0_averagePriceOfAlike cX0_averagePriceOfAlike 6 (some .int), Cond.fieldLink RX0 28 "AtelierBook" "latestPrices" "[I", Cond.methodLink RX0 140 yX0_mainPigmentOf, Cond.instanceMethod yX0_mainPigmentOf, Cond.selects RX0 yX0_mainPigmentOf yX0_mainPigmentOf, Cond.code yX0_mainPigmentOf cX0_mainPigmentOf 3 (some .int), Cond.methodLink RX0 116 yX0_layerRow, Cond.static yX0_layerRow, Cond.code yX0_layerRow cX0_layerRow 2 (some .int), Cond.methodLink RX0 176 yX0_mainPigmentOfRow, Cond.instanceMethod yX0_mainPigmentOfRow, Cond.selects RX0 yX0_mainPigmentOfRow yX0_mainPigmentOfRow, Cond.code yX0_mainPigmentOfRow cX0_mainPigmentOfRow 6 (some .int), Cond.fieldLink RX0 50 "AtelierBook" "pigmentCount" "I", Cond.methodLink RX0 173 yX0_gramsOfPigment, Cond.instanceMethod yX0_gramsOfPigment, Cond.selects RX0 yX0_gramsOfPigment yX0_gramsOfPigment, Cond.code yX0_gramsOfPigment cX0_gramsOfPigment 5 (some .int), Cond.fieldLink RX0 68 "AtelierBook" "tubeCount" "I", Cond.fieldLink RX0 13 "AtelierBook" "pigmentOfTube" "[I", Cond.fieldLink RX0 19 "AtelierBook" "ledger" "[I"]
def wsX0_of_r3 : List Cond := [Cond.methodLink RX0 84 yX0_place, Cond.static yX0_place, Cond.code yX0_place cX0_place 2 (some .int), Cond.methodLink RX0 143 yX0_isLent, Cond.instanceMethod yX0_isLent, Cond.selects RX0 yX0_isLent yX0_isLent, Cond.code yX0_isLent cX0_isLent 2 (some .boolean), Cond.methodLink RX0 147 yX0_lookOf, Cond.instanceMethod yX0_lookOf, Cond.selects RX0 yX0_lookOf yX0_lookOf, Cond.code yX0_lookOf cX0_lookOf 4 (some .int), Cond.methodLink RX0 137 yX0_colourOfRow, Cond.instanceMethod yX0_colourOfRow, Cond.selects RX0 yX0_colourOfRow yX0_colourOfRow, Cond.code yX0_colourOfRow cX0_colourOfRow 7 (some .int), Cond.methodLink RX0 170 yX0_colourOfTube, Cond.instanceMethod yX0_colourOfTube, Cond.selects RX0 yX0_colourOfTube yX0_colourOfTube, Cond.code yX0_colourOfTube cX0_colourOfTube 3 (some .int), Cond.fieldLink RX0 9 "AtelierBook" "pigmentColours" "[I"]
def wsX0_of : List Cond := .code yX0_of cX0_of 3 (some .int) :: ((wsX0_of_r1 ++ (wsX0_of_r2 ++ wsX0_of_r3)) ++ wsX00 ++ (vx_atS RX0 165 "java/lang/IndexOutOfBoundsException" ["java/lang/RuntimeException", "java/lang/Exception"]).filter goodWord ++ (vx_atS RX0 92 "java/lang/IllegalArgumentException" ["java/lang/RuntimeException", "java/lang/Exception"]).filter goodWord)
def wsX0_layer : List Cond := .code yX0_layer cX0_layer 4 (some .int) :: ([.fieldLink RX0 105 "AtelierBook" "pictureCount" "I", .fieldLink RX0 22 "AtelierBook" "layerCounts" "[I", .fieldLink RX0 68 "AtelierBook" "tubeCount" "I", .fieldLink RX0 19 "AtelierBook" "ledger" "[I", .methodLink RX0 61 yX0_checkNumber, .static yX0_checkNumber, .initialized RX0, .code yX0_checkNumber cX0_checkNumber 2 none, .classLink RX0 161 "java/lang/IndexOutOfBoundsException", .initialized "java/lang/IndexOutOfBoundsException", .methodLink RX0 116 yX0_layerRow, .static yX0_layerRow, .code yX0_layerRow cX0_layerRow 2 (some .int), .methodLink RX0 84 yX0_place, .static yX0_place, .code yX0_place cX0_place 2 (some .int)] ++ wsX00 ++ (vx_atS RX0 165 "java/lang/IndexOutOfBoundsException" ["java/lang/RuntimeException", "java/lang/Exception"]).filter goodWord)
def wsX0_sumOfTube : List Cond := .code yX0_sumOfTube cX0_sumOfTube 6 (some .int) :: ([.fieldLink RX0 19 "AtelierBook" "ledger" "[I", .methodLink RX0 84 yX0_place, .static yX0_place, .initialized RX0, .code yX0_place cX0_place 2 (some .int)] ++ wsX00)
def wsX0_where : List Cond := .code yX0_where cX0_where 3 (some .int) :: ([.fieldLink RX0 68 "AtelierBook" "tubeCount" "I", .fieldLink RX0 16 "AtelierBook" "gramsInTube" "[I", .methodLink RX0 61 yX0_checkNumber, .static yX0_checkNumber, .initialized RX0, .code yX0_checkNumber cX0_checkNumber 2 none, .classLink RX0 161 "java/lang/IndexOutOfBoundsException", .initialized "java/lang/IndexOutOfBoundsException", .methodLink RX0 65 yX0_checkRange, .static yX0_checkRange, .code yX0_checkRange cX0_checkRange 3 none, .classLink RX0 88 "java/lang/IllegalArgumentException", .initialized "java/lang/IllegalArgumentException", .methodLink RX0 150 yX0_sumOfTube, .instanceMethod yX0_sumOfTube, .selects RX0 yX0_sumOfTube yX0_sumOfTube, .code yX0_sumOfTube cX0_sumOfTube 6 (some .int), .fieldLink RX0 19 "AtelierBook" "ledger" "[I", .methodLink RX0 84 yX0_place, .static yX0_place, .code yX0_place cX0_place 2 (some .int)] ++ wsX00 ++ (vx_atS RX0 165 "java/lang/IndexOutOfBoundsException" ["java/lang/RuntimeException", "java/lang/Exception"]).filter goodWord ++ (vx_atS RX0 92 "java/lang/IllegalArgumentException" ["java/lang/RuntimeException", "java/lang/Exception"]).filter goodWord)
def wsX0_mixed : List Cond := .code yX0_mixed cX0_mixed 5 (some .int) :: ([.methodLink RX0 170 yX0_colourOfTube, .instanceMethod yX0_colourOfTube, .selects RX0 yX0_colourOfTube yX0_colourOfTube, .initialized RX0, .code yX0_colourOfTube cX0_colourOfTube 3 (some .int), .fieldLink RX0 9 "AtelierBook" "pigmentColours" "[I", .fieldLink RX0 13 "AtelierBook" "pigmentOfTube" "[I"] ++ wsX00)
def wsX0_square : List Cond := .code yX0_square cX0_square 1 (some .int) :: ([])
def wsX0_recipe : List Cond := .code yX0_recipe cX0_recipe 10 (some .int) :: ([.fieldLink RX0 68 "AtelierBook" "tubeCount" "I", .fieldLink RX0 16 "AtelierBook" "gramsInTube" "[I", .methodLink RX0 46 yX0_checkColour, .static yX0_checkColour, .initialized RX0, .code yX0_checkColour cX0_checkColour 3 none, .methodLink RX0 65 yX0_checkRange, .static yX0_checkRange, .code yX0_checkRange cX0_checkRange 3 none, .classLink RX0 88 "java/lang/IllegalArgumentException", .initialized "java/lang/IllegalArgumentException", .methodLink RX0 154 yX0_mixed, .instanceMethod yX0_mixed, .selects RX0 yX0_mixed yX0_mixed, .code yX0_mixed cX0_mixed 5 (some .int), .methodLink RX0 170 yX0_colourOfTube, .instanceMethod yX0_colourOfTube, .selects RX0 yX0_colourOfTube yX0_colourOfTube, .code yX0_colourOfTube cX0_colourOfTube 3 (some .int), .fieldLink RX0 9 "AtelierBook" "pigmentColours" "[I", .fieldLink RX0 13 "AtelierBook" "pigmentOfTube" "[I", .methodLink RX0 158 yX0_square, .static yX0_square, .code yX0_square cX0_square 1 (some .int)] ++ wsX00 ++ (vx_atS RX0 92 "java/lang/IllegalArgumentException" ["java/lang/RuntimeException", "java/lang/Exception"]).filter goodWord)
def wsX0_paid : List Cond := .code yX0_paid cX0_paid 2 (some .int) :: ([.fieldLink RX0 43 "AtelierBook" "housePayments" "[I", .methodLink RX0 61 yX0_checkNumber, .static yX0_checkNumber, .initialized RX0, .code yX0_checkNumber cX0_checkNumber 2 none, .classLink RX0 161 "java/lang/IndexOutOfBoundsException", .initialized "java/lang/IndexOutOfBoundsException"] ++ wsX00 ++ (vx_atS RX0 165 "java/lang/IndexOutOfBoundsException" ["java/lang/RuntimeException", "java/lang/Exception"]).filter goodWord)
def wsX1_init : List Cond := .code yX1_init cX1_init 2 none :: ([.methodLink RX1 1 objectInit, .instanceMethod objectInit, .code objectInit ⟨#[0xb1]⟩ 1 none, .arrayClass .int, .fieldLink RX1 7 "AtelierBookModel" "shade" "[I", .fieldLink RX1 13 "AtelierBookModel" "pigmentOf" "[I", .fieldLink RX1 16 "AtelierBookModel" "left" "[I", .fieldLink RX1 19 "AtelierBookModel" "wasted" "[I", .fieldLink RX1 22 "AtelierBookModel" "inPot" "[I", .fieldLink RX1 25 "AtelierBookModel" "layers" "[I", .fieldLink RX1 28 "AtelierBookModel" "inLayer" "[I", .fieldLink RX1 31 "AtelierBookModel" "cracks" "[I", .fieldLink RX1 34 "AtelierBookModel" "price" "[I", .fieldLink RX1 37 "AtelierBookModel" "house" "[I", .fieldLink RX1 40 "AtelierBookModel" "days" "[I", .fieldLink RX1 43 "AtelierBookModel" "cost" "[I", .fieldLink RX1 46 "AtelierBookModel" "damp" "[I", .fieldLink RX1 49 "AtelierBookModel" "paid" "[I", .fieldLink RX1 52 "AtelierBookModel" "flow" "[I", .fieldLink RX1 55 "AtelierBookModel" "sums" "[I"] ++ wsX10)
def wsX1_thrown : List Cond := .code yX1_thrown cX1_thrown 1 (some .int) :: ([.fieldLink RX1 58 "AtelierBookModel" "thrown" "I"] ++ wsX10)
def wsX1_in : List Cond := .code yX1_in cX1_in 3 (some .boolean) :: ([])
def wsX1_areShades : List Cond := .code yX1_areShades cX1_areShades 3 (some .boolean) :: ([.methodLink RX1 62 yX1_in, .static yX1_in, .initialized RX1, .code yX1_in cX1_in 3 (some .boolean)])
def wsX1_isTube : List Cond := .code yX1_isTube cX1_isTube 2 (some .boolean) :: ([.fieldLink RX1 66 "AtelierBookModel" "tubes" "I", .methodLink RX1 62 yX1_in, .static yX1_in, .initialized RX1, .code yX1_in cX1_in 3 (some .boolean)] ++ wsX10)
def wsX1_isPot : List Cond := .code yX1_isPot cX1_isPot 2 (some .boolean) :: ([.fieldLink RX1 69 "AtelierBookModel" "pots" "I", .methodLink RX1 62 yX1_in, .static yX1_in, .initialized RX1, .code yX1_in cX1_in 3 (some .boolean)] ++ wsX10)
def wsX1_isPicture : List Cond := .code yX1_isPicture cX1_isPicture 2 (some .boolean) :: ([.fieldLink RX1 72 "AtelierBookModel" "pictures" "I", .methodLink RX1 62 yX1_in, .static yX1_in, .initialized RX1, .code yX1_in cX1_in 3 (some .boolean)] ++ wsX10)
def wsX1_isHouse : List Cond := .code yX1_isHouse cX1_isHouse 1 (some .boolean) :: ([.methodLink RX1 62 yX1_in, .static yX1_in, .initialized RX1, .code yX1_in cX1_in 3 (some .boolean)])
def wsX1_pigment : List Cond := .code yX1_pigment cX1_pigment 4 (some .int) :: ([.fieldLink RX1 78 "AtelierBookModel" "pigments" "I", .fieldLink RX1 58 "AtelierBookModel" "thrown" "I", .fieldLink RX1 7 "AtelierBookModel" "shade" "[I", .methodLink RX1 75 yX1_areShades, .static yX1_areShades, .initialized RX1, .code yX1_areShades cX1_areShades 3 (some .boolean), .methodLink RX1 62 yX1_in, .static yX1_in, .code yX1_in cX1_in 3 (some .boolean)] ++ wsX10)
def wsX1_tube : List Cond := .code yX1_tube cX1_tube 3 (some .int) :: ([.fieldLink RX1 78 "AtelierBookModel" "pigments" "I", .fieldLink RX1 66 "AtelierBookModel" "tubes" "I", .fieldLink RX1 58 "AtelierBookModel" "thrown" "I", .fieldLink RX1 13 "AtelierBookModel" "pigmentOf" "[I", .fieldLink RX1 16 "AtelierBookModel" "left" "[I", .methodLink RX1 62 yX1_in, .static yX1_in, .initialized RX1, .code yX1_in cX1_in 3 (some .boolean)] ++ wsX10)
def wsX1_pot : List Cond := .code yX1_pot cX1_pot 1 (some .int) :: ([.fieldLink RX1 69 "AtelierBookModel" "pots" "I", .fieldLink RX1 58 "AtelierBookModel" "thrown" "I"] ++ wsX10)
def wsX1_gramsOf : List Cond := .code yX1_gramsOf cX1_gramsOf 4 (some .int) :: ([.fieldLink RX1 22 "AtelierBookModel" "inPot" "[I"] ++ wsX10)
def wsX1_squeeze : List Cond := .code yX1_squeeze cX1_squeeze 4 (some .int) :: ([.fieldLink RX1 16 "AtelierBookModel" "left" "[I", .fieldLink RX1 58 "AtelierBookModel" "thrown" "I", .fieldLink RX1 22 "AtelierBookModel" "inPot" "[I", .methodLink RX1 81 yX1_isPot, .instanceMethod yX1_isPot, .selects RX1 yX1_isPot yX1_isPot, .initialized RX1, .code yX1_isPot cX1_isPot 2 (some .boolean), .fieldLink RX1 69 "AtelierBookModel" "pots" "I", .methodLink RX1 62 yX1_in, .static yX1_in, .code yX1_in cX1_in 3 (some .boolean), .methodLink RX1 85 yX1_isTube, .instanceMethod yX1_isTube, .selects RX1 yX1_isTube yX1_isTube, .code yX1_isTube cX1_isTube 2 (some .boolean), .fieldLink RX1 66 "AtelierBookModel" "tubes" "I"] ++ wsX10)
def wsX1_flows : List Cond := .code yX1_flows cX1_flows 7 none :: ([.fieldLink RX1 22 "AtelierBookModel" "inPot" "[I", .fieldLink RX1 52 "AtelierBookModel" "flow" "[I", .methodLink RX1 88 yX1_gramsOf, .instanceMethod yX1_gramsOf, .selects RX1 yX1_gramsOf yX1_gramsOf, .initialized RX1, .code yX1_gramsOf cX1_gramsOf 4 (some .int)] ++ wsX10)
def wsX1_pour : List Cond := .code yX1_pour cX1_pour 5 (some .int) :: ([.fieldLink RX1 58 "AtelierBookModel" "thrown" "I", .fieldLink RX1 22 "AtelierBookModel" "inPot" "[I", .fieldLink RX1 52 "AtelierBookModel" "flow" "[I", .methodLink RX1 81 yX1_isPot, .instanceMethod yX1_isPot, .selects RX1 yX1_isPot yX1_isPot, .initialized RX1, .code yX1_isPot cX1_isPot 2 (some .boolean), .fieldLink RX1 69 "AtelierBookModel" "pots" "I", .methodLink RX1 62 yX1_in, .static yX1_in, .code yX1_in cX1_in 3 (some .boolean), .methodLink RX1 88 yX1_gramsOf, .instanceMethod yX1_gramsOf, .selects RX1 yX1_gramsOf yX1_gramsOf, .code yX1_gramsOf cX1_gramsOf 4 (some .int), .methodLink RX1 92 yX1_flows, .instanceMethod yX1_flows, .selects RX1 yX1_flows yX1_flows, .code yX1_flows cX1_flows 7 none] ++ wsX10)
def wsX1_scrape : List Cond := .code yX1_scrape cX1_scrape 4 (some .int) :: ([.fieldLink RX1 58 "AtelierBookModel" "thrown" "I", .fieldLink RX1 19 "AtelierBookModel" "wasted" "[I", .fieldLink RX1 22 "AtelierBookModel" "inPot" "[I", .methodLink RX1 81 yX1_isPot, .instanceMethod yX1_isPot, .selects RX1 yX1_isPot yX1_isPot, .initialized RX1, .code yX1_isPot cX1_isPot 2 (some .boolean), .fieldLink RX1 69 "AtelierBookModel" "pots" "I", .methodLink RX1 62 yX1_in, .static yX1_in, .code yX1_in cX1_in 3 (some .boolean), .methodLink RX1 88 yX1_gramsOf, .instanceMethod yX1_gramsOf, .selects RX1 yX1_gramsOf yX1_gramsOf, .code yX1_gramsOf cX1_gramsOf 4 (some .int)] ++ wsX10)
def wsX1_picture : List Cond := .code yX1_picture cX1_picture 1 (some .int) :: ([.fieldLink RX1 72 "AtelierBookModel" "pictures" "I", .fieldLink RX1 58 "AtelierBookModel" "thrown" "I"] ++ wsX10)
def wsX1_layerAt : List Cond := .code yX1_layerAt cX1_layerAt 2 (some .int) :: ([])
def wsX1_paint_r1 : List Cond := [Cond.fieldLink RX1 37 "AtelierBookModel" "house" "[I", Cond.fieldLink RX1 25 "AtelierBookModel" "layers" "[I", Cond.fieldLink RX1 58 "AtelierBookModel" "thrown" "I", Cond.fieldLink RX1 28 "AtelierBookModel" "inLayer" "[I", Cond.fieldLink RX1 52 "AtelierBookModel" "flow" "[I", Cond.methodLink RX1 96 yX1_isPicture, Cond.instanceMethod yX1_isPicture, Cond.selects RX1 yX1_isPicture yX1_isPicture, Cond.initialized RX1, Cond.code yX1_isPicture cX1_isPicture 2 (some .boolean), Cond.fieldLink RX1 72 "AtelierBookModel" "pictures" "I", Cond.methodLink RX1 62 yX1_in, Cond.static yX1_in, Cond.code yX1_in cX1_in 3 (some .boolean), Cond.methodLink RX1 81 yX1_isPot, Cond.instanceMethod yX1_isPot, Cond.selects RX1 yX1_isPot yX1_isPot, Cond.code yX1_isPot cX1_isPot 2 (some .boolean), Cond.fieldLink RX1 69 "AtelierBookModel" "pots" "I", Cond.methodLink RX1 88 yX1_gramsOf, Cond.instanceMethod yX1_gramsOf, Cond.selects RX1 yX1_gramsOf yX1_gramsOf, Cond.code yX1_gramsOf cX1_gramsOf 4 (some .int), Cond.fieldLink RX1 22 "AtelierBookModel" "inPot" "[I"]
def wsX1_paint_r2 : List Cond := [Cond.methodLink RX1 92 yX1_flows, Cond.instanceMethod yX1_flows, Cond.selects RX1 yX1_flows yX1_flows, Cond.code yX1_flows cX1_flows 7 none, Cond.methodLink RX1 99 yX1_layerAt, Cond.static yX1_layerAt, Cond.code yX1_layerAt cX1_layerAt 2 (some .int)]
def wsX1_paint : List Cond := .code yX1_paint cX1_paint 5 (some .int) :: ((wsX1_paint_r1 ++ wsX1_paint_r2) ++ wsX10)
def wsX1_clean : List Cond := .code yX1_clean cX1_clean 7 (some .int) :: ([.fieldLink RX1 37 "AtelierBookModel" "house" "[I", .fieldLink RX1 25 "AtelierBookModel" "layers" "[I", .fieldLink RX1 58 "AtelierBookModel" "thrown" "I", .fieldLink RX1 28 "AtelierBookModel" "inLayer" "[I", .fieldLink RX1 19 "AtelierBookModel" "wasted" "[I", .methodLink RX1 96 yX1_isPicture, .instanceMethod yX1_isPicture, .selects RX1 yX1_isPicture yX1_isPicture, .initialized RX1, .code yX1_isPicture cX1_isPicture 2 (some .boolean), .fieldLink RX1 72 "AtelierBookModel" "pictures" "I", .methodLink RX1 62 yX1_in, .static yX1_in, .code yX1_in cX1_in 3 (some .boolean), .methodLink RX1 99 yX1_layerAt, .static yX1_layerAt, .code yX1_layerAt cX1_layerAt 2 (some .int)] ++ wsX10)
def wsX1_main : List Cond := .code yX1_main cX1_main 4 (some .int) :: ([.fieldLink RX1 25 "AtelierBookModel" "layers" "[I", .fieldLink RX1 55 "AtelierBookModel" "sums" "[I", .fieldLink RX1 66 "AtelierBookModel" "tubes" "I", .fieldLink RX1 13 "AtelierBookModel" "pigmentOf" "[I", .fieldLink RX1 28 "AtelierBookModel" "inLayer" "[I", .methodLink RX1 99 yX1_layerAt, .static yX1_layerAt, .initialized RX1, .code yX1_layerAt cX1_layerAt 2 (some .int)] ++ wsX10)
def wsX1_look : List Cond := .code yX1_look cX1_look 7 (some .int) :: ([.fieldLink RX1 25 "AtelierBookModel" "layers" "[I", .fieldLink RX1 66 "AtelierBookModel" "tubes" "I", .fieldLink RX1 28 "AtelierBookModel" "inLayer" "[I", .fieldLink RX1 7 "AtelierBookModel" "shade" "[I", .fieldLink RX1 13 "AtelierBookModel" "pigmentOf" "[I", .methodLink RX1 99 yX1_layerAt, .static yX1_layerAt, .initialized RX1, .code yX1_layerAt cX1_layerAt 2 (some .int)] ++ wsX10)
def wsX1_value : List Cond := .code yX1_value cX1_value 7 (some .int) :: ([.fieldLink RX1 72 "AtelierBookModel" "pictures" "I", .fieldLink RX1 34 "AtelierBookModel" "price" "[I", .fieldLink RX1 31 "AtelierBookModel" "cracks" "[I", .methodLink RX1 103 yX1_main, .instanceMethod yX1_main, .selects RX1 yX1_main yX1_main, .initialized RX1, .code yX1_main cX1_main 4 (some .int), .fieldLink RX1 25 "AtelierBookModel" "layers" "[I", .fieldLink RX1 55 "AtelierBookModel" "sums" "[I", .fieldLink RX1 66 "AtelierBookModel" "tubes" "I", .fieldLink RX1 13 "AtelierBookModel" "pigmentOf" "[I", .fieldLink RX1 28 "AtelierBookModel" "inLayer" "[I", .methodLink RX1 99 yX1_layerAt, .static yX1_layerAt, .code yX1_layerAt cX1_layerAt 2 (some .int)] ++ wsX10)
def wsX1_damp : List Cond := .code yX1_damp cX1_damp 4 (some .int) :: ([.fieldLink RX1 58 "AtelierBookModel" "thrown" "I", .fieldLink RX1 46 "AtelierBookModel" "damp" "[I", .methodLink RX1 106 yX1_isHouse, .static yX1_isHouse, .initialized RX1, .code yX1_isHouse cX1_isHouse 1 (some .boolean), .methodLink RX1 62 yX1_in, .static yX1_in, .code yX1_in cX1_in 3 (some .boolean)] ++ wsX10)
def wsX1_lend_r1 : List Cond := [Cond.fieldLink RX1 37 "AtelierBookModel" "house" "[I", Cond.fieldLink RX1 31 "AtelierBookModel" "cracks" "[I", Cond.fieldLink RX1 58 "AtelierBookModel" "thrown" "I", Cond.fieldLink RX1 40 "AtelierBookModel" "days" "[I", Cond.fieldLink RX1 43 "AtelierBookModel" "cost" "[I", Cond.methodLink RX1 96 yX1_isPicture, Cond.instanceMethod yX1_isPicture, Cond.selects RX1 yX1_isPicture yX1_isPicture, Cond.initialized RX1, Cond.code yX1_isPicture cX1_isPicture 2 (some .boolean), Cond.fieldLink RX1 72 "AtelierBookModel" "pictures" "I", Cond.methodLink RX1 62 yX1_in, Cond.static yX1_in, Cond.code yX1_in cX1_in 3 (some .boolean), Cond.methodLink RX1 106 yX1_isHouse, Cond.static yX1_isHouse, Cond.code yX1_isHouse cX1_isHouse 1 (some .boolean), Cond.methodLink RX1 109 yX1_value, Cond.instanceMethod yX1_value, Cond.selects RX1 yX1_value yX1_value, Cond.code yX1_value cX1_value 7 (some .int), Cond.fieldLink RX1 34 "AtelierBookModel" "price" "[I", Cond.methodLink RX1 103 yX1_main, Cond.instanceMethod yX1_main]
def wsX1_lend_r2 : List Cond := [Cond.selects RX1 yX1_main yX1_main, Cond.code yX1_main cX1_main 4 (some .int), Cond.fieldLink RX1 25 "AtelierBookModel" "layers" "[I", Cond.fieldLink RX1 55 "AtelierBookModel" "sums" "[I", Cond.fieldLink RX1 66 "AtelierBookModel" "tubes" "I", Cond.fieldLink RX1 13 "AtelierBookModel" "pigmentOf" "[I", Cond.fieldLink RX1 28 "AtelierBookModel" "inLayer" "[I", Cond.methodLink RX1 99 yX1_layerAt, Cond.static yX1_layerAt, Cond.code yX1_layerAt cX1_layerAt 2 (some .int)]
def wsX1_lend : List Cond := .code yX1_lend cX1_lend 4 (some .int) :: ((wsX1_lend_r1 ++ wsX1_lend_r2) ++ wsX10)
def wsX1_sell_r1 : List Cond := [Cond.constant RX1 112 (100000), Cond.fieldLink RX1 37 "AtelierBookModel" "house" "[I", Cond.fieldLink RX1 25 "AtelierBookModel" "layers" "[I", Cond.fieldLink RX1 58 "AtelierBookModel" "thrown" "I", Cond.fieldLink RX1 34 "AtelierBookModel" "price" "[I", Cond.methodLink RX1 96 yX1_isPicture, Cond.instanceMethod yX1_isPicture, Cond.selects RX1 yX1_isPicture yX1_isPicture, Cond.initialized RX1, Cond.code yX1_isPicture cX1_isPicture 2 (some .boolean), Cond.fieldLink RX1 72 "AtelierBookModel" "pictures" "I", Cond.methodLink RX1 62 yX1_in, Cond.static yX1_in, Cond.code yX1_in cX1_in 3 (some .boolean), Cond.methodLink RX1 109 yX1_value, Cond.instanceMethod yX1_value, Cond.selects RX1 yX1_value yX1_value, Cond.code yX1_value cX1_value 7 (some .int), Cond.fieldLink RX1 31 "AtelierBookModel" "cracks" "[I", Cond.methodLink RX1 103 yX1_main, Cond.instanceMethod yX1_main, Cond.selects RX1 yX1_main yX1_main, Cond.code yX1_main cX1_main 4 (some .int), Cond.fieldLink RX1 55 "AtelierBookModel" "sums" "[I"]
def wsX1_sell_r2 : List Cond := [Cond.fieldLink RX1 66 "AtelierBookModel" "tubes" "I", Cond.fieldLink RX1 13 "AtelierBookModel" "pigmentOf" "[I", Cond.fieldLink RX1 28 "AtelierBookModel" "inLayer" "[I", Cond.methodLink RX1 99 yX1_layerAt, Cond.static yX1_layerAt, Cond.code yX1_layerAt cX1_layerAt 2 (some .int)]
def wsX1_sell : List Cond := .code yX1_sell cX1_sell 3 (some .int) :: ((wsX1_sell_r1 ++ wsX1_sell_r2) ++ wsX10)
def wsX1_passOne : List Cond := .code yX1_passOne cX1_passOne 3 none :: ([.fieldLink RX1 113 "AtelierBookModel" "today" "I", .fieldLink RX1 72 "AtelierBookModel" "pictures" "I", .fieldLink RX1 37 "AtelierBookModel" "house" "[I", .fieldLink RX1 49 "AtelierBookModel" "paid" "[I", .fieldLink RX1 43 "AtelierBookModel" "cost" "[I", .fieldLink RX1 31 "AtelierBookModel" "cracks" "[I", .fieldLink RX1 46 "AtelierBookModel" "damp" "[I", .fieldLink RX1 40 "AtelierBookModel" "days" "[I", .methodLink RX1 62 yX1_in, .static yX1_in, .initialized RX1, .code yX1_in cX1_in 3 (some .boolean)] ++ wsX10)
def wsX1_pass : List Cond := .code yX1_pass cX1_pass 3 (some .int) :: ([.fieldLink RX1 113 "AtelierBookModel" "today" "I", .fieldLink RX1 58 "AtelierBookModel" "thrown" "I", .methodLink RX1 62 yX1_in, .static yX1_in, .initialized RX1, .code yX1_in cX1_in 3 (some .boolean), .methodLink RX1 116 yX1_passOne, .instanceMethod yX1_passOne, .selects RX1 yX1_passOne yX1_passOne, .code yX1_passOne cX1_passOne 3 none, .fieldLink RX1 72 "AtelierBookModel" "pictures" "I", .fieldLink RX1 37 "AtelierBookModel" "house" "[I", .fieldLink RX1 49 "AtelierBookModel" "paid" "[I", .fieldLink RX1 43 "AtelierBookModel" "cost" "[I", .fieldLink RX1 31 "AtelierBookModel" "cracks" "[I", .fieldLink RX1 46 "AtelierBookModel" "damp" "[I", .fieldLink RX1 40 "AtelierBookModel" "days" "[I"] ++ wsX10)
def wsX1_left : List Cond := .code yX1_left cX1_left 2 (some .int) :: ([.fieldLink RX1 58 "AtelierBookModel" "thrown" "I", .fieldLink RX1 16 "AtelierBookModel" "left" "[I", .methodLink RX1 85 yX1_isTube, .instanceMethod yX1_isTube, .selects RX1 yX1_isTube yX1_isTube, .initialized RX1, .code yX1_isTube cX1_isTube 2 (some .boolean), .fieldLink RX1 66 "AtelierBookModel" "tubes" "I", .methodLink RX1 62 yX1_in, .static yX1_in, .code yX1_in cX1_in 3 (some .boolean)] ++ wsX10)
def wsX1_has : List Cond := .code yX1_has cX1_has 3 (some .int) :: ([.fieldLink RX1 58 "AtelierBookModel" "thrown" "I", .fieldLink RX1 22 "AtelierBookModel" "inPot" "[I", .methodLink RX1 81 yX1_isPot, .instanceMethod yX1_isPot, .selects RX1 yX1_isPot yX1_isPot, .initialized RX1, .code yX1_isPot cX1_isPot 2 (some .boolean), .fieldLink RX1 69 "AtelierBookModel" "pots" "I", .methodLink RX1 62 yX1_in, .static yX1_in, .code yX1_in cX1_in 3 (some .boolean), .methodLink RX1 85 yX1_isTube, .instanceMethod yX1_isTube, .selects RX1 yX1_isTube yX1_isTube, .code yX1_isTube cX1_isTube 2 (some .boolean), .fieldLink RX1 66 "AtelierBookModel" "tubes" "I", .methodLink RX1 88 yX1_gramsOf, .instanceMethod yX1_gramsOf, .selects RX1 yX1_gramsOf yX1_gramsOf, .code yX1_gramsOf cX1_gramsOf 4 (some .int)] ++ wsX10)
def wsX1_colour : List Cond := .code yX1_colour cX1_colour 6 (some .int) :: ([.fieldLink RX1 58 "AtelierBookModel" "thrown" "I", .fieldLink RX1 66 "AtelierBookModel" "tubes" "I", .fieldLink RX1 22 "AtelierBookModel" "inPot" "[I", .fieldLink RX1 7 "AtelierBookModel" "shade" "[I", .fieldLink RX1 13 "AtelierBookModel" "pigmentOf" "[I", .methodLink RX1 81 yX1_isPot, .instanceMethod yX1_isPot, .selects RX1 yX1_isPot yX1_isPot, .initialized RX1, .code yX1_isPot cX1_isPot 2 (some .boolean), .fieldLink RX1 69 "AtelierBookModel" "pots" "I", .methodLink RX1 62 yX1_in, .static yX1_in, .code yX1_in cX1_in 3 (some .boolean), .methodLink RX1 88 yX1_gramsOf, .instanceMethod yX1_gramsOf, .selects RX1 yX1_gramsOf yX1_gramsOf, .code yX1_gramsOf cX1_gramsOf 4 (some .int)] ++ wsX10)
def wsX1_of_r1 : List Cond := [Cond.fieldLink RX1 58 "AtelierBookModel" "thrown" "I", Cond.fieldLink RX1 25 "AtelierBookModel" "layers" "[I", Cond.fieldLink RX1 31 "AtelierBookModel" "cracks" "[I", Cond.fieldLink RX1 37 "AtelierBookModel" "house" "[I", Cond.fieldLink RX1 40 "AtelierBookModel" "days" "[I", Cond.methodLink RX1 96 yX1_isPicture, Cond.instanceMethod yX1_isPicture, Cond.selects RX1 yX1_isPicture yX1_isPicture, Cond.initialized RX1, Cond.code yX1_isPicture cX1_isPicture 2 (some .boolean), Cond.fieldLink RX1 72 "AtelierBookModel" "pictures" "I", Cond.methodLink RX1 62 yX1_in, Cond.static yX1_in, Cond.code yX1_in cX1_in 3 (some .boolean), Cond.methodLink RX1 109 yX1_value, Cond.instanceMethod yX1_value, Cond.selects RX1 yX1_value yX1_value, Cond.code yX1_value cX1_value 7 (some .int), Cond.fieldLink RX1 34 "AtelierBookModel" "price" "[I", Cond.methodLink RX1 103 yX1_main, Cond.instanceMethod yX1_main, Cond.selects RX1 yX1_main yX1_main, Cond.code yX1_main cX1_main 4 (some .int), Cond.fieldLink RX1 55 "AtelierBookModel" "sums" "[I"]
def wsX1_of_r2 : List Cond := [Cond.fieldLink RX1 66 "AtelierBookModel" "tubes" "I", Cond.fieldLink RX1 13 "AtelierBookModel" "pigmentOf" "[I", Cond.fieldLink RX1 28 "AtelierBookModel" "inLayer" "[I", Cond.methodLink RX1 99 yX1_layerAt, Cond.static yX1_layerAt, Cond.code yX1_layerAt cX1_layerAt 2 (some .int), Cond.methodLink RX1 119 yX1_look, Cond.instanceMethod yX1_look, Cond.selects RX1 yX1_look yX1_look, Cond.code yX1_look cX1_look 7 (some .int), Cond.fieldLink RX1 7 "AtelierBookModel" "shade" "[I"]
def wsX1_of : List Cond := .code yX1_of cX1_of 3 (some .int) :: ((wsX1_of_r1 ++ wsX1_of_r2) ++ wsX10)
def wsX1_layer : List Cond := .code yX1_layer cX1_layer 4 (some .int) :: ([.fieldLink RX1 25 "AtelierBookModel" "layers" "[I", .fieldLink RX1 58 "AtelierBookModel" "thrown" "I", .fieldLink RX1 28 "AtelierBookModel" "inLayer" "[I", .methodLink RX1 96 yX1_isPicture, .instanceMethod yX1_isPicture, .selects RX1 yX1_isPicture yX1_isPicture, .initialized RX1, .code yX1_isPicture cX1_isPicture 2 (some .boolean), .fieldLink RX1 72 "AtelierBookModel" "pictures" "I", .methodLink RX1 62 yX1_in, .static yX1_in, .code yX1_in cX1_in 3 (some .boolean), .methodLink RX1 85 yX1_isTube, .instanceMethod yX1_isTube, .selects RX1 yX1_isTube yX1_isTube, .code yX1_isTube cX1_isTube 2 (some .boolean), .fieldLink RX1 66 "AtelierBookModel" "tubes" "I", .methodLink RX1 99 yX1_layerAt, .static yX1_layerAt, .code yX1_layerAt cX1_layerAt 2 (some .int)] ++ wsX10)
def wsX1_onPictures : List Cond := .code yX1_onPictures cX1_onPictures 4 (some .int) :: ([.fieldLink RX1 28 "AtelierBookModel" "inLayer" "[I"] ++ wsX10)
def wsX1_inPots : List Cond := .code yX1_inPots cX1_inPots 4 (some .int) :: ([.fieldLink RX1 69 "AtelierBookModel" "pots" "I", .fieldLink RX1 22 "AtelierBookModel" "inPot" "[I"] ++ wsX10)
def wsX1_where : List Cond := .code yX1_where cX1_where 3 (some .int) :: ([.fieldLink RX1 58 "AtelierBookModel" "thrown" "I", .fieldLink RX1 16 "AtelierBookModel" "left" "[I", .fieldLink RX1 19 "AtelierBookModel" "wasted" "[I", .methodLink RX1 85 yX1_isTube, .instanceMethod yX1_isTube, .selects RX1 yX1_isTube yX1_isTube, .initialized RX1, .code yX1_isTube cX1_isTube 2 (some .boolean), .fieldLink RX1 66 "AtelierBookModel" "tubes" "I", .methodLink RX1 62 yX1_in, .static yX1_in, .code yX1_in cX1_in 3 (some .boolean), .methodLink RX1 122 yX1_inPots, .instanceMethod yX1_inPots, .selects RX1 yX1_inPots yX1_inPots, .code yX1_inPots cX1_inPots 4 (some .int), .fieldLink RX1 69 "AtelierBookModel" "pots" "I", .fieldLink RX1 22 "AtelierBookModel" "inPot" "[I", .methodLink RX1 125 yX1_onPictures, .instanceMethod yX1_onPictures, .selects RX1 yX1_onPictures yX1_onPictures, .code yX1_onPictures cX1_onPictures 4 (some .int), .fieldLink RX1 28 "AtelierBookModel" "inLayer" "[I"] ++ wsX10)
def wsX1_far : List Cond := .code yX1_far cX1_far 7 (some .int) :: ([.fieldLink RX1 7 "AtelierBookModel" "shade" "[I", .fieldLink RX1 13 "AtelierBookModel" "pigmentOf" "[I"] ++ wsX10)
def wsX1_recipe : List Cond := .code yX1_recipe cX1_recipe 10 (some .int) :: ([.fieldLink RX1 58 "AtelierBookModel" "thrown" "I", .fieldLink RX1 66 "AtelierBookModel" "tubes" "I", .fieldLink RX1 16 "AtelierBookModel" "left" "[I", .methodLink RX1 75 yX1_areShades, .static yX1_areShades, .initialized RX1, .code yX1_areShades cX1_areShades 3 (some .boolean), .methodLink RX1 62 yX1_in, .static yX1_in, .code yX1_in cX1_in 3 (some .boolean), .methodLink RX1 128 yX1_far, .instanceMethod yX1_far, .selects RX1 yX1_far yX1_far, .code yX1_far cX1_far 7 (some .int), .fieldLink RX1 7 "AtelierBookModel" "shade" "[I", .fieldLink RX1 13 "AtelierBookModel" "pigmentOf" "[I"] ++ wsX10)
def wsX1_paid : List Cond := .code yX1_paid cX1_paid 2 (some .int) :: ([.fieldLink RX1 58 "AtelierBookModel" "thrown" "I", .fieldLink RX1 49 "AtelierBookModel" "paid" "[I", .methodLink RX1 106 yX1_isHouse, .static yX1_isHouse, .initialized RX1, .code yX1_isHouse cX1_isHouse 1 (some .boolean), .methodLink RX1 62 yX1_in, .static yX1_in, .code yX1_in cX1_in 3 (some .boolean)] ++ wsX10)
def wsJ9_abs_0f7a4 : List Cond := .code yJ9_abs_0f7a4 cJ9_abs_0f7a4 1 (some .int) :: ([])
def wsJ9_max_7cf53 : List Cond := .code yJ9_max_7cf53 cJ9_max_7cf53 2 (some .int) :: ([])
def wsJ9_min_7cf53 : List Cond := .code yJ9_min_7cf53 cJ9_min_7cf53 2 (some .int) :: ([])
def wsL_pigment : List Cond := .codeWith yL_pigment cL_pigment 6 (some .int) [(0, 12, 15, 13), (0, 12, 19, 15)] :: ([.classLink RL 13 "java/lang/IllegalArgumentException", .classLink RL 15 "java/lang/IllegalStateException", .methodLink RL 7 yX0_pigment, .instanceMethod yX0_pigment, .selects RX0 yX0_pigment yX0_pigment, .initialized RX0, .code yX0_pigment cX0_pigment 5 (some .int), .classLink RX0 54 "java/lang/IllegalStateException", .initialized "java/lang/IllegalStateException", .fieldLink RX0 50 "AtelierBook" "pigmentCount" "I", .fieldLink RX0 9 "AtelierBook" "pigmentColours" "[I", .methodLink RX0 46 yX0_checkColour, .static yX0_checkColour, .code yX0_checkColour cX0_checkColour 3 none, .methodLink RX0 65 yX0_checkRange, .static yX0_checkRange, .code yX0_checkRange cX0_checkRange 3 none, .classLink RX0 88 "java/lang/IllegalArgumentException", .initialized "java/lang/IllegalArgumentException"] ++ wsX00 ++ (vx_atS RX0 58 "java/lang/IllegalStateException" ["java/lang/RuntimeException", "java/lang/Exception"]).filter goodWord ++ (vx_atS RX0 92 "java/lang/IllegalArgumentException" ["java/lang/RuntimeException", "java/lang/Exception"]).filter goodWord)
def wsL_tube : List Cond := .codeWith yL_tube cL_tube 5 (some .int) [(0, 10, 13, 21), (0, 10, 17, 13), (0, 10, 21, 15)] :: ([.classLink RL 21 "java/lang/IndexOutOfBoundsException", .classLink RL 13 "java/lang/IllegalArgumentException", .classLink RL 15 "java/lang/IllegalStateException", .methodLink RL 17 yX0_tube, .instanceMethod yX0_tube, .selects RX0 yX0_tube yX0_tube, .initialized RX0, .code yX0_tube cX0_tube 3 (some .int), .classLink RX0 54 "java/lang/IllegalStateException", .initialized "java/lang/IllegalStateException", .fieldLink RX0 50 "AtelierBook" "pigmentCount" "I", .fieldLink RX0 68 "AtelierBook" "tubeCount" "I", .fieldLink RX0 13 "AtelierBook" "pigmentOfTube" "[I", .fieldLink RX0 16 "AtelierBook" "gramsInTube" "[I", .methodLink RX0 61 yX0_checkNumber, .static yX0_checkNumber, .code yX0_checkNumber cX0_checkNumber 2 none, .classLink RX0 161 "java/lang/IndexOutOfBoundsException", .initialized "java/lang/IndexOutOfBoundsException", .methodLink RX0 65 yX0_checkRange, .static yX0_checkRange, .code yX0_checkRange cX0_checkRange 3 none, .classLink RX0 88 "java/lang/IllegalArgumentException", .initialized "java/lang/IllegalArgumentException"] ++ wsX00 ++ (vx_atS RX0 58 "java/lang/IllegalStateException" ["java/lang/RuntimeException", "java/lang/Exception"]).filter goodWord ++ (vx_atS RX0 165 "java/lang/IndexOutOfBoundsException" ["java/lang/RuntimeException", "java/lang/Exception"]).filter goodWord ++ (vx_atS RX0 92 "java/lang/IllegalArgumentException" ["java/lang/RuntimeException", "java/lang/Exception"]).filter goodWord)
def wsL_pot : List Cond := .codeWith yL_pot cL_pot 3 (some .int) [(0, 8, 11, 15)] :: ([.classLink RL 15 "java/lang/IllegalStateException", .methodLink RL 23 yX0_pot, .instanceMethod yX0_pot, .selects RX0 yX0_pot yX0_pot, .initialized RX0, .code yX0_pot cX0_pot 1 (some .int), .classLink RX0 54 "java/lang/IllegalStateException", .initialized "java/lang/IllegalStateException", .fieldLink RX0 73 "AtelierBook" "potCount" "I"] ++ wsX00 ++ (vx_atS RX0 58 "java/lang/IllegalStateException" ["java/lang/RuntimeException", "java/lang/Exception"]).filter goodWord)
def wsL_squeeze_r1 : List Cond := [Cond.classLink RL 21 "java/lang/IndexOutOfBoundsException", Cond.classLink RL 13 "java/lang/IllegalArgumentException", Cond.classLink RL 15 "java/lang/IllegalStateException", Cond.methodLink RL 27 yX0_squeeze, Cond.instanceMethod yX0_squeeze, Cond.selects RX0 yX0_squeeze yX0_squeeze, Cond.initialized RX0, Cond.code yX0_squeeze cX0_squeeze 4 (some .int), Cond.classLink RX0 54 "java/lang/IllegalStateException", Cond.initialized "java/lang/IllegalStateException", Cond.fieldLink RX0 73 "AtelierBook" "potCount" "I", Cond.fieldLink RX0 68 "AtelierBook" "tubeCount" "I", Cond.fieldLink RX0 16 "AtelierBook" "gramsInTube" "[I", Cond.fieldLink RX0 19 "AtelierBook" "ledger" "[I", Cond.methodLink RX0 61 yX0_checkNumber, Cond.static yX0_checkNumber, Cond.code yX0_checkNumber cX0_checkNumber 2 none, Cond.classLink RX0 161 "java/lang/IndexOutOfBoundsException", Cond.initialized "java/lang/IndexOutOfBoundsException", Cond.methodLink RX0 65 yX0_checkRange, Cond.static yX0_checkRange, Cond.code yX0_checkRange cX0_checkRange 3 none, Cond.classLink RX0 88 "java/lang/IllegalArgumentException", Cond.initialized "java/lang/IllegalArgumentException"]
def wsL_squeeze_r2 : List Cond := [Cond.methodLink RX0 80 yX0_potRow, Cond.static yX0_potRow, Cond.code yX0_potRow cX0_potRow 1 (some .int), Cond.methodLink RX0 84 yX0_place, Cond.static yX0_place, Cond.code yX0_place cX0_place 2 (some .int)]
def wsL_squeeze : List Cond := .codeWith yL_squeeze cL_squeeze 6 (some .int) [(0, 12, 15, 21), (0, 12, 19, 13), (0, 12, 23, 15)] :: ((wsL_squeeze_r1 ++ wsL_squeeze_r2) ++ wsX00 ++ (vx_atS RX0 58 "java/lang/IllegalStateException" ["java/lang/RuntimeException", "java/lang/Exception"]).filter goodWord ++ (vx_atS RX0 165 "java/lang/IndexOutOfBoundsException" ["java/lang/RuntimeException", "java/lang/Exception"]).filter goodWord ++ (vx_atS RX0 92 "java/lang/IllegalArgumentException" ["java/lang/RuntimeException", "java/lang/Exception"]).filter goodWord)
def wsL_pour_r1 : List Cond := [Cond.classLink RL 21 "java/lang/IndexOutOfBoundsException", Cond.classLink RL 13 "java/lang/IllegalArgumentException", Cond.classLink RL 15 "java/lang/IllegalStateException", Cond.methodLink RL 30 yX0_pour, Cond.instanceMethod yX0_pour, Cond.selects RX0 yX0_pour yX0_pour, Cond.initialized RX0, Cond.code yX0_pour cX0_pour 4 (some .int), Cond.classLink RX0 88 "java/lang/IllegalArgumentException", Cond.initialized "java/lang/IllegalArgumentException", Cond.classLink RX0 54 "java/lang/IllegalStateException", Cond.initialized "java/lang/IllegalStateException", Cond.fieldLink RX0 73 "AtelierBook" "potCount" "I", Cond.methodLink RX0 61 yX0_checkNumber, Cond.static yX0_checkNumber, Cond.code yX0_checkNumber cX0_checkNumber 2 none, Cond.classLink RX0 161 "java/lang/IndexOutOfBoundsException", Cond.initialized "java/lang/IndexOutOfBoundsException", Cond.methodLink RX0 65 yX0_checkRange, Cond.static yX0_checkRange, Cond.code yX0_checkRange cX0_checkRange 3 none, Cond.methodLink RX0 80 yX0_potRow, Cond.static yX0_potRow, Cond.code yX0_potRow cX0_potRow 1 (some .int)]
def wsL_pour_r2 : List Cond := [Cond.methodLink RX0 93 yX0_move, Cond.instanceMethod yX0_move, Cond.selects RX0 yX0_move yX0_move, Cond.code yX0_move cX0_move 9 (some .boolean), Cond.fieldLink RX0 68 "AtelierBook" "tubeCount" "I", Cond.fieldLink RX0 19 "AtelierBook" "ledger" "[I", Cond.methodLink RX0 99 yX0_sumOfRow, Cond.instanceMethod yX0_sumOfRow, Cond.selects RX0 yX0_sumOfRow yX0_sumOfRow, Cond.code yX0_sumOfRow cX0_sumOfRow 4 (some .int), Cond.methodLink RX0 84 yX0_place, Cond.static yX0_place, Cond.code yX0_place cX0_place 2 (some .int)]
def wsL_pour : List Cond := .codeWith yL_pour cL_pour 6 (some .int) [(0, 12, 15, 21), (0, 12, 19, 13), (0, 12, 23, 15)] :: ((wsL_pour_r1 ++ wsL_pour_r2) ++ wsX00 ++ (vx_atS RX0 92 "java/lang/IllegalArgumentException" ["java/lang/RuntimeException", "java/lang/Exception"]).filter goodWord ++ (vx_atS RX0 58 "java/lang/IllegalStateException" ["java/lang/RuntimeException", "java/lang/Exception"]).filter goodWord ++ (vx_atS RX0 165 "java/lang/IndexOutOfBoundsException" ["java/lang/RuntimeException", "java/lang/Exception"]).filter goodWord)
def wsL_scrape : List Cond := .codeWith yL_scrape cL_scrape 4 (some .int) [(0, 9, 12, 21)] :: ([.classLink RL 21 "java/lang/IndexOutOfBoundsException", .methodLink RL 33 yX0_scrape, .instanceMethod yX0_scrape, .selects RX0 yX0_scrape yX0_scrape, .initialized RX0, .code yX0_scrape cX0_scrape 2 (some .int), .fieldLink RX0 73 "AtelierBook" "potCount" "I", .methodLink RX0 61 yX0_checkNumber, .static yX0_checkNumber, .code yX0_checkNumber cX0_checkNumber 2 none, .classLink RX0 161 "java/lang/IndexOutOfBoundsException", .initialized "java/lang/IndexOutOfBoundsException", .methodLink RX0 80 yX0_potRow, .static yX0_potRow, .code yX0_potRow cX0_potRow 1 (some .int), .methodLink RX0 102 yX0_waste, .instanceMethod yX0_waste, .selects RX0 yX0_waste yX0_waste, .code yX0_waste cX0_waste 5 (some .int), .fieldLink RX0 68 "AtelierBook" "tubeCount" "I", .fieldLink RX0 19 "AtelierBook" "ledger" "[I", .methodLink RX0 84 yX0_place, .static yX0_place, .code yX0_place cX0_place 2 (some .int)] ++ wsX00 ++ (vx_atS RX0 165 "java/lang/IndexOutOfBoundsException" ["java/lang/RuntimeException", "java/lang/Exception"]).filter goodWord)
def wsL_picture : List Cond := .codeWith yL_picture cL_picture 3 (some .int) [(0, 8, 11, 15)] :: ([.classLink RL 15 "java/lang/IllegalStateException", .methodLink RL 37 yX0_picture, .instanceMethod yX0_picture, .selects RX0 yX0_picture yX0_picture, .initialized RX0, .code yX0_picture cX0_picture 1 (some .int), .classLink RX0 54 "java/lang/IllegalStateException", .initialized "java/lang/IllegalStateException", .fieldLink RX0 105 "AtelierBook" "pictureCount" "I"] ++ wsX00 ++ (vx_atS RX0 58 "java/lang/IllegalStateException" ["java/lang/RuntimeException", "java/lang/Exception"]).filter goodWord)
def wsL_paint_r1 : List Cond := [Cond.classLink RL 21 "java/lang/IndexOutOfBoundsException", Cond.classLink RL 13 "java/lang/IllegalArgumentException", Cond.classLink RL 15 "java/lang/IllegalStateException", Cond.methodLink RL 40 yX0_paint, Cond.instanceMethod yX0_paint, Cond.selects RX0 yX0_paint yX0_paint, Cond.initialized RX0, Cond.code yX0_paint cX0_paint 4 (some .int), Cond.classLink RX0 54 "java/lang/IllegalStateException", Cond.initialized "java/lang/IllegalStateException", Cond.fieldLink RX0 105 "AtelierBook" "pictureCount" "I", Cond.fieldLink RX0 73 "AtelierBook" "potCount" "I", Cond.fieldLink RX0 22 "AtelierBook" "layerCounts" "[I", Cond.methodLink RX0 61 yX0_checkNumber, Cond.static yX0_checkNumber, Cond.code yX0_checkNumber cX0_checkNumber 2 none, Cond.classLink RX0 161 "java/lang/IndexOutOfBoundsException", Cond.initialized "java/lang/IndexOutOfBoundsException", Cond.methodLink RX0 65 yX0_checkRange, Cond.static yX0_checkRange, Cond.code yX0_checkRange cX0_checkRange 3 none, Cond.classLink RX0 88 "java/lang/IllegalArgumentException", Cond.initialized "java/lang/IllegalArgumentException", Cond.methodLink RX0 110 yX0_checkAtHome]
def wsL_paint_r2 : List Cond := [Cond.instanceMethod yX0_checkAtHome, Cond.selects RX0 yX0_checkAtHome yX0_checkAtHome, Cond.code yX0_checkAtHome cX0_checkAtHome 2 none, Cond.methodLink RX0 143 yX0_isLent, Cond.instanceMethod yX0_isLent, Cond.selects RX0 yX0_isLent yX0_isLent, Cond.code yX0_isLent cX0_isLent 2 (some .boolean), Cond.fieldLink RX0 31 "AtelierBook" "loanDays" "[I", Cond.methodLink RX0 80 yX0_potRow, Cond.static yX0_potRow, Cond.code yX0_potRow cX0_potRow 1 (some .int), Cond.methodLink RX0 116 yX0_layerRow, Cond.static yX0_layerRow, Cond.code yX0_layerRow cX0_layerRow 2 (some .int), Cond.methodLink RX0 93 yX0_move, Cond.instanceMethod yX0_move, Cond.selects RX0 yX0_move yX0_move, Cond.code yX0_move cX0_move 9 (some .boolean), Cond.fieldLink RX0 68 "AtelierBook" "tubeCount" "I", Cond.fieldLink RX0 19 "AtelierBook" "ledger" "[I", Cond.methodLink RX0 99 yX0_sumOfRow, Cond.instanceMethod yX0_sumOfRow, Cond.selects RX0 yX0_sumOfRow yX0_sumOfRow, Cond.code yX0_sumOfRow cX0_sumOfRow 4 (some .int)]
def wsL_paint_r3 : List Cond := [Cond.methodLink RX0 84 yX0_place, Cond.static yX0_place, Cond.code yX0_place cX0_place 2 (some .int)]
def wsL_paint : List Cond := .codeWith yL_paint cL_paint 6 (some .int) [(0, 12, 15, 21), (0, 12, 19, 13), (0, 12, 23, 15)] :: ((wsL_paint_r1 ++ (wsL_paint_r2 ++ wsL_paint_r3)) ++ wsX00 ++ (vx_atS RX0 58 "java/lang/IllegalStateException" ["java/lang/RuntimeException", "java/lang/Exception"]).filter goodWord ++ (vx_atS RX0 165 "java/lang/IndexOutOfBoundsException" ["java/lang/RuntimeException", "java/lang/Exception"]).filter goodWord ++ (vx_atS RX0 92 "java/lang/IllegalArgumentException" ["java/lang/RuntimeException", "java/lang/Exception"]).filter goodWord)
def wsL_clean_r1 : List Cond := [Cond.classLink RL 21 "java/lang/IndexOutOfBoundsException", Cond.classLink RL 13 "java/lang/IllegalArgumentException", Cond.classLink RL 15 "java/lang/IllegalStateException", Cond.methodLink RL 43 yX0_clean, Cond.instanceMethod yX0_clean, Cond.selects RX0 yX0_clean yX0_clean, Cond.initialized RX0, Cond.code yX0_clean cX0_clean 5 (some .int), Cond.classLink RX0 54 "java/lang/IllegalStateException", Cond.initialized "java/lang/IllegalStateException", Cond.fieldLink RX0 105 "AtelierBook" "pictureCount" "I", Cond.fieldLink RX0 22 "AtelierBook" "layerCounts" "[I", Cond.methodLink RX0 61 yX0_checkNumber, Cond.static yX0_checkNumber, Cond.code yX0_checkNumber cX0_checkNumber 2 none, Cond.classLink RX0 161 "java/lang/IndexOutOfBoundsException", Cond.initialized "java/lang/IndexOutOfBoundsException", Cond.methodLink RX0 65 yX0_checkRange, Cond.static yX0_checkRange, Cond.code yX0_checkRange cX0_checkRange 3 none, Cond.classLink RX0 88 "java/lang/IllegalArgumentException", Cond.initialized "java/lang/IllegalArgumentException", Cond.methodLink RX0 110 yX0_checkAtHome, Cond.instanceMethod yX0_checkAtHome]
def wsL_clean_r2 : List Cond := [Cond.selects RX0 yX0_checkAtHome yX0_checkAtHome, Cond.code yX0_checkAtHome cX0_checkAtHome 2 none, Cond.methodLink RX0 143 yX0_isLent, Cond.instanceMethod yX0_isLent, Cond.selects RX0 yX0_isLent yX0_isLent, Cond.code yX0_isLent cX0_isLent 2 (some .boolean), Cond.fieldLink RX0 31 "AtelierBook" "loanDays" "[I", Cond.methodLink RX0 116 yX0_layerRow, Cond.static yX0_layerRow, Cond.code yX0_layerRow cX0_layerRow 2 (some .int), Cond.methodLink RX0 102 yX0_waste, Cond.instanceMethod yX0_waste, Cond.selects RX0 yX0_waste yX0_waste, Cond.code yX0_waste cX0_waste 5 (some .int), Cond.fieldLink RX0 68 "AtelierBook" "tubeCount" "I", Cond.fieldLink RX0 19 "AtelierBook" "ledger" "[I", Cond.methodLink RX0 84 yX0_place, Cond.static yX0_place, Cond.code yX0_place cX0_place 2 (some .int)]
def wsL_clean : List Cond := .codeWith yL_clean cL_clean 5 (some .int) [(0, 10, 13, 21), (0, 10, 17, 13), (0, 10, 21, 15)] :: ((wsL_clean_r1 ++ wsL_clean_r2) ++ wsX00 ++ (vx_atS RX0 58 "java/lang/IllegalStateException" ["java/lang/RuntimeException", "java/lang/Exception"]).filter goodWord ++ (vx_atS RX0 165 "java/lang/IndexOutOfBoundsException" ["java/lang/RuntimeException", "java/lang/Exception"]).filter goodWord ++ (vx_atS RX0 92 "java/lang/IllegalArgumentException" ["java/lang/RuntimeException", "java/lang/Exception"]).filter goodWord)
def wsL_damp : List Cond := .codeWith yL_damp cL_damp 5 (some .int) [(0, 10, 13, 21), (0, 10, 17, 13)] :: ([.classLink RL 21 "java/lang/IndexOutOfBoundsException", .classLink RL 13 "java/lang/IllegalArgumentException", .methodLink RL 46 yX0_damp, .instanceMethod yX0_damp, .selects RX0 yX0_damp yX0_damp, .initialized RX0, .code yX0_damp cX0_damp 4 (some .int), .fieldLink RX0 40 "AtelierBook" "houseDamps" "[I", .methodLink RX0 61 yX0_checkNumber, .static yX0_checkNumber, .code yX0_checkNumber cX0_checkNumber 2 none, .classLink RX0 161 "java/lang/IndexOutOfBoundsException", .initialized "java/lang/IndexOutOfBoundsException", .methodLink RX0 65 yX0_checkRange, .static yX0_checkRange, .code yX0_checkRange cX0_checkRange 3 none, .classLink RX0 88 "java/lang/IllegalArgumentException", .initialized "java/lang/IllegalArgumentException"] ++ wsX00 ++ (vx_atS RX0 165 "java/lang/IndexOutOfBoundsException" ["java/lang/RuntimeException", "java/lang/Exception"]).filter goodWord ++ (vx_atS RX0 92 "java/lang/IllegalArgumentException" ["java/lang/RuntimeException", "java/lang/Exception"]).filter goodWord)
def wsL_lend_r1 : List Cond := [Cond.classLink RL 21 "java/lang/IndexOutOfBoundsException", Cond.classLink RL 13 "java/lang/IllegalArgumentException", Cond.classLink RL 15 "java/lang/IllegalStateException", Cond.methodLink RL 49 yX0_lend, Cond.instanceMethod yX0_lend, Cond.selects RX0 yX0_lend yX0_lend, Cond.initialized RX0, Cond.code yX0_lend cX0_lend 4 (some .int), Cond.classLink RX0 54 "java/lang/IllegalStateException", Cond.initialized "java/lang/IllegalStateException", Cond.fieldLink RX0 105 "AtelierBook" "pictureCount" "I", Cond.fieldLink RX0 25 "AtelierBook" "crackCounts" "[I", Cond.fieldLink RX0 37 "AtelierBook" "loanCosts" "[I", Cond.fieldLink RX0 34 "AtelierBook" "loanHouses" "[I", Cond.fieldLink RX0 31 "AtelierBook" "loanDays" "[I", Cond.methodLink RX0 61 yX0_checkNumber, Cond.static yX0_checkNumber, Cond.code yX0_checkNumber cX0_checkNumber 2 none, Cond.classLink RX0 161 "java/lang/IndexOutOfBoundsException", Cond.initialized "java/lang/IndexOutOfBoundsException", Cond.methodLink RX0 65 yX0_checkRange, Cond.static yX0_checkRange, Cond.code yX0_checkRange cX0_checkRange 3 none, Cond.classLink RX0 88 "java/lang/IllegalArgumentException"]
def wsL_lend_r2 : List Cond := [Cond.initialized "java/lang/IllegalArgumentException", Cond.methodLink RX0 110 yX0_checkAtHome, Cond.instanceMethod yX0_checkAtHome, Cond.selects RX0 yX0_checkAtHome yX0_checkAtHome, Cond.code yX0_checkAtHome cX0_checkAtHome 2 none, Cond.methodLink RX0 143 yX0_isLent, Cond.instanceMethod yX0_isLent, Cond.selects RX0 yX0_isLent yX0_isLent, Cond.code yX0_isLent cX0_isLent 2 (some .boolean), Cond.methodLink RX0 123 yX0_valueOf, Cond.instanceMethod yX0_valueOf, Cond.selects RX0 yX0_valueOf yX0_valueOf, Cond.code yX0_valueOf cX0_valueOf 3 (some .int), Cond.methodLink RX0 182 Lib.Math.max.name, Cond.static Lib.Math.max.name, Cond.initialized "java/lang/Math", Cond.code Lib.Math.max.name Lib.Math.max.code 2 (some .int), Cond.methodLink RX0 179 yX0_averagePriceOfAlike, Cond.instanceMethod yX0_averagePriceOfAlike, Cond.selects RX0 yX0_averagePriceOfAlike yX0_averagePriceOfAlike, Cond.code yX0_averagePriceOfAlike cX0_averagePriceOfAlike 6 (some .int), Cond.fieldLink RX0 28 "AtelierBook" "latestPrices" "[I", Cond.methodLink RX0 140 yX0_mainPigmentOf, Cond.instanceMethod yX0_mainPigmentOf]
def wsL_lend_r3 : List Cond := [Cond.selects RX0 yX0_mainPigmentOf yX0_mainPigmentOf, Cond.code yX0_mainPigmentOf cX0_mainPigmentOf 3 (some .int), Cond.fieldLink RX0 22 "AtelierBook" "layerCounts" "[I", Cond.methodLink RX0 116 yX0_layerRow, Cond.static yX0_layerRow, Cond.code yX0_layerRow cX0_layerRow 2 (some .int), Cond.methodLink RX0 176 yX0_mainPigmentOfRow, Cond.instanceMethod yX0_mainPigmentOfRow, Cond.selects RX0 yX0_mainPigmentOfRow yX0_mainPigmentOfRow, Cond.code yX0_mainPigmentOfRow cX0_mainPigmentOfRow 6 (some .int), Cond.fieldLink RX0 50 "AtelierBook" "pigmentCount" "I", Cond.methodLink RX0 173 yX0_gramsOfPigment, Cond.instanceMethod yX0_gramsOfPigment, Cond.selects RX0 yX0_gramsOfPigment yX0_gramsOfPigment, Cond.code yX0_gramsOfPigment cX0_gramsOfPigment 5 (some .int), Cond.fieldLink RX0 68 "AtelierBook" "tubeCount" "I", Cond.fieldLink RX0 13 "AtelierBook" "pigmentOfTube" "[I", Cond.fieldLink RX0 19 "AtelierBook" "ledger" "[I", Cond.methodLink RX0 84 yX0_place, Cond.static yX0_place, Cond.code yX0_place cX0_place 2 (some .int)]
def wsL_lend : List Cond := .codeWith yL_lend cL_lend 6 (some .int) [(0, 12, 15, 21), (0, 12, 19, 13), (0, 12, 23, 15)] :: ((wsL_lend_r1 ++ (wsL_lend_r2 ++ wsL_lend_r3)) ++ wsX00 ++ (vx_atS RX0 58 "java/lang/IllegalStateException" ["java/lang/RuntimeException", "java/lang/Exception"]).filter goodWord ++ (vx_atS RX0 165 "java/lang/IndexOutOfBoundsException" ["java/lang/RuntimeException", "java/lang/Exception"]).filter goodWord ++ (vx_atS RX0 92 "java/lang/IllegalArgumentException" ["java/lang/RuntimeException", "java/lang/Exception"]).filter goodWord)
def wsL_sell_r1 : List Cond := [Cond.classLink RL 21 "java/lang/IndexOutOfBoundsException", Cond.classLink RL 13 "java/lang/IllegalArgumentException", Cond.classLink RL 15 "java/lang/IllegalStateException", Cond.methodLink RL 52 yX0_sell, Cond.instanceMethod yX0_sell, Cond.selects RX0 yX0_sell yX0_sell, Cond.initialized RX0, Cond.code yX0_sell cX0_sell 3 (some .int), Cond.classLink RX0 54 "java/lang/IllegalStateException", Cond.initialized "java/lang/IllegalStateException", Cond.fieldLink RX0 105 "AtelierBook" "pictureCount" "I", Cond.constant RX0 126 (100000), Cond.fieldLink RX0 22 "AtelierBook" "layerCounts" "[I", Cond.fieldLink RX0 28 "AtelierBook" "latestPrices" "[I", Cond.methodLink RX0 61 yX0_checkNumber, Cond.static yX0_checkNumber, Cond.code yX0_checkNumber cX0_checkNumber 2 none, Cond.classLink RX0 161 "java/lang/IndexOutOfBoundsException", Cond.initialized "java/lang/IndexOutOfBoundsException", Cond.methodLink RX0 65 yX0_checkRange, Cond.static yX0_checkRange, Cond.code yX0_checkRange cX0_checkRange 3 none, Cond.classLink RX0 88 "java/lang/IllegalArgumentException", Cond.initialized "java/lang/IllegalArgumentException"]
def wsL_sell_r2 : List Cond := [Cond.methodLink RX0 110 yX0_checkAtHome, Cond.instanceMethod yX0_checkAtHome, Cond.selects RX0 yX0_checkAtHome yX0_checkAtHome, Cond.code yX0_checkAtHome cX0_checkAtHome 2 none, Cond.methodLink RX0 143 yX0_isLent, Cond.instanceMethod yX0_isLent, Cond.selects RX0 yX0_isLent yX0_isLent, Cond.code yX0_isLent cX0_isLent 2 (some .boolean), Cond.fieldLink RX0 31 "AtelierBook" "loanDays" "[I", Cond.methodLink RX0 123 yX0_valueOf, Cond.instanceMethod yX0_valueOf, Cond.selects RX0 yX0_valueOf yX0_valueOf, Cond.code yX0_valueOf cX0_valueOf 3 (some .int), Cond.fieldLink RX0 25 "AtelierBook" "crackCounts" "[I", Cond.methodLink RX0 182 Lib.Math.max.name, Cond.static Lib.Math.max.name, Cond.initialized "java/lang/Math", Cond.code Lib.Math.max.name Lib.Math.max.code 2 (some .int), Cond.methodLink RX0 179 yX0_averagePriceOfAlike, Cond.instanceMethod yX0_averagePriceOfAlike, Cond.selects RX0 yX0_averagePriceOfAlike yX0_averagePriceOfAlike, Cond.code yX0_averagePriceOfAlike cX0_averagePriceOfAlike 6 (some .int), Cond.methodLink RX0 140 yX0_mainPigmentOf, Cond.instanceMethod yX0_mainPigmentOf]
def wsL_sell_r3 : List Cond := [Cond.selects RX0 yX0_mainPigmentOf yX0_mainPigmentOf, Cond.code yX0_mainPigmentOf cX0_mainPigmentOf 3 (some .int), Cond.methodLink RX0 116 yX0_layerRow, Cond.static yX0_layerRow, Cond.code yX0_layerRow cX0_layerRow 2 (some .int), Cond.methodLink RX0 176 yX0_mainPigmentOfRow, Cond.instanceMethod yX0_mainPigmentOfRow, Cond.selects RX0 yX0_mainPigmentOfRow yX0_mainPigmentOfRow, Cond.code yX0_mainPigmentOfRow cX0_mainPigmentOfRow 6 (some .int), Cond.fieldLink RX0 50 "AtelierBook" "pigmentCount" "I", Cond.methodLink RX0 173 yX0_gramsOfPigment, Cond.instanceMethod yX0_gramsOfPigment, Cond.selects RX0 yX0_gramsOfPigment yX0_gramsOfPigment, Cond.code yX0_gramsOfPigment cX0_gramsOfPigment 5 (some .int), Cond.fieldLink RX0 68 "AtelierBook" "tubeCount" "I", Cond.fieldLink RX0 13 "AtelierBook" "pigmentOfTube" "[I", Cond.fieldLink RX0 19 "AtelierBook" "ledger" "[I", Cond.methodLink RX0 84 yX0_place, Cond.static yX0_place, Cond.code yX0_place cX0_place 2 (some .int)]
def wsL_sell : List Cond := .codeWith yL_sell cL_sell 5 (some .int) [(0, 10, 13, 21), (0, 10, 17, 13), (0, 10, 21, 15)] :: ((wsL_sell_r1 ++ (wsL_sell_r2 ++ wsL_sell_r3)) ++ wsX00 ++ (vx_atS RX0 58 "java/lang/IllegalStateException" ["java/lang/RuntimeException", "java/lang/Exception"]).filter goodWord ++ (vx_atS RX0 165 "java/lang/IndexOutOfBoundsException" ["java/lang/RuntimeException", "java/lang/Exception"]).filter goodWord ++ (vx_atS RX0 92 "java/lang/IllegalArgumentException" ["java/lang/RuntimeException", "java/lang/Exception"]).filter goodWord)
def wsL_pass_r1 : List Cond := [Cond.classLink RL 13 "java/lang/IllegalArgumentException", Cond.classLink RL 15 "java/lang/IllegalStateException", Cond.methodLink RL 55 yX0_pass, Cond.instanceMethod yX0_pass, Cond.selects RX0 yX0_pass yX0_pass, Cond.initialized RX0, Cond.code yX0_pass cX0_pass 3 (some .int), Cond.classLink RX0 54 "java/lang/IllegalStateException", Cond.initialized "java/lang/IllegalStateException", Cond.fieldLink RX0 129 "AtelierBook" "today" "I", Cond.fieldLink RX0 105 "AtelierBook" "pictureCount" "I", Cond.methodLink RX0 65 yX0_checkRange, Cond.static yX0_checkRange, Cond.code yX0_checkRange cX0_checkRange 3 none, Cond.classLink RX0 88 "java/lang/IllegalArgumentException", Cond.initialized "java/lang/IllegalArgumentException", Cond.methodLink RX0 134 yX0_passForLoan, Cond.instanceMethod yX0_passForLoan, Cond.selects RX0 yX0_passForLoan yX0_passForLoan, Cond.code yX0_passForLoan cX0_passForLoan 5 none, Cond.fieldLink RX0 31 "AtelierBook" "loanDays" "[I", Cond.methodLink RX0 187 Lib.Math.min.name, Cond.static Lib.Math.min.name, Cond.initialized "java/lang/Math"]
def wsL_pass_r2 : List Cond := [Cond.code Lib.Math.min.name Lib.Math.min.code 2 (some .int), Cond.fieldLink RX0 34 "AtelierBook" "loanHouses" "[I", Cond.fieldLink RX0 40 "AtelierBook" "houseDamps" "[I", Cond.methodLink RX0 190 Lib.Math.abs.name, Cond.static Lib.Math.abs.name, Cond.code Lib.Math.abs.name Lib.Math.abs.code 1 (some .int), Cond.fieldLink RX0 25 "AtelierBook" "crackCounts" "[I", Cond.fieldLink RX0 43 "AtelierBook" "housePayments" "[I", Cond.fieldLink RX0 37 "AtelierBook" "loanCosts" "[I"]
def wsL_pass : List Cond := .codeWith yL_pass cL_pass 4 (some .int) [(0, 9, 12, 13), (0, 9, 15, 15)] :: ((wsL_pass_r1 ++ wsL_pass_r2) ++ wsX00 ++ (vx_atS RX0 58 "java/lang/IllegalStateException" ["java/lang/RuntimeException", "java/lang/Exception"]).filter goodWord ++ (vx_atS RX0 92 "java/lang/IllegalArgumentException" ["java/lang/RuntimeException", "java/lang/Exception"]).filter goodWord)
def wsL_left : List Cond := .codeWith yL_left cL_left 4 (some .int) [(0, 9, 12, 21)] :: ([.classLink RL 21 "java/lang/IndexOutOfBoundsException", .methodLink RL 58 yX0_left, .instanceMethod yX0_left, .selects RX0 yX0_left yX0_left, .initialized RX0, .code yX0_left cX0_left 2 (some .int), .fieldLink RX0 68 "AtelierBook" "tubeCount" "I", .fieldLink RX0 16 "AtelierBook" "gramsInTube" "[I", .methodLink RX0 61 yX0_checkNumber, .static yX0_checkNumber, .code yX0_checkNumber cX0_checkNumber 2 none, .classLink RX0 161 "java/lang/IndexOutOfBoundsException", .initialized "java/lang/IndexOutOfBoundsException"] ++ wsX00 ++ (vx_atS RX0 165 "java/lang/IndexOutOfBoundsException" ["java/lang/RuntimeException", "java/lang/Exception"]).filter goodWord)
def wsL_has : List Cond := .codeWith yL_has cL_has 5 (some .int) [(0, 10, 13, 21)] :: ([.classLink RL 21 "java/lang/IndexOutOfBoundsException", .methodLink RL 61 yX0_has, .instanceMethod yX0_has, .selects RX0 yX0_has yX0_has, .initialized RX0, .code yX0_has cX0_has 3 (some .int), .fieldLink RX0 73 "AtelierBook" "potCount" "I", .fieldLink RX0 68 "AtelierBook" "tubeCount" "I", .fieldLink RX0 19 "AtelierBook" "ledger" "[I", .methodLink RX0 61 yX0_checkNumber, .static yX0_checkNumber, .code yX0_checkNumber cX0_checkNumber 2 none, .classLink RX0 161 "java/lang/IndexOutOfBoundsException", .initialized "java/lang/IndexOutOfBoundsException", .methodLink RX0 80 yX0_potRow, .static yX0_potRow, .code yX0_potRow cX0_potRow 1 (some .int), .methodLink RX0 99 yX0_sumOfRow, .instanceMethod yX0_sumOfRow, .selects RX0 yX0_sumOfRow yX0_sumOfRow, .code yX0_sumOfRow cX0_sumOfRow 4 (some .int), .methodLink RX0 84 yX0_place, .static yX0_place, .code yX0_place cX0_place 2 (some .int)] ++ wsX00 ++ (vx_atS RX0 165 "java/lang/IndexOutOfBoundsException" ["java/lang/RuntimeException", "java/lang/Exception"]).filter goodWord)
def wsL_colour_r1 : List Cond := [Cond.classLink RL 21 "java/lang/IndexOutOfBoundsException", Cond.classLink RL 13 "java/lang/IllegalArgumentException", Cond.methodLink RL 64 yX0_colour, Cond.instanceMethod yX0_colour, Cond.selects RX0 yX0_colour yX0_colour, Cond.initialized RX0, Cond.code yX0_colour cX0_colour 3 (some .int), Cond.fieldLink RX0 73 "AtelierBook" "potCount" "I", Cond.methodLink RX0 61 yX0_checkNumber, Cond.static yX0_checkNumber, Cond.code yX0_checkNumber cX0_checkNumber 2 none, Cond.classLink RX0 161 "java/lang/IndexOutOfBoundsException", Cond.initialized "java/lang/IndexOutOfBoundsException", Cond.methodLink RX0 65 yX0_checkRange, Cond.static yX0_checkRange, Cond.code yX0_checkRange cX0_checkRange 3 none, Cond.classLink RX0 88 "java/lang/IllegalArgumentException", Cond.initialized "java/lang/IllegalArgumentException", Cond.methodLink RX0 80 yX0_potRow, Cond.static yX0_potRow, Cond.code yX0_potRow cX0_potRow 1 (some .int), Cond.methodLink RX0 137 yX0_colourOfRow, Cond.instanceMethod yX0_colourOfRow, Cond.selects RX0 yX0_colourOfRow yX0_colourOfRow]
def wsL_colour_r2 : List Cond := [Cond.code yX0_colourOfRow cX0_colourOfRow 7 (some .int), Cond.fieldLink RX0 68 "AtelierBook" "tubeCount" "I", Cond.fieldLink RX0 19 "AtelierBook" "ledger" "[I", Cond.methodLink RX0 84 yX0_place, Cond.static yX0_place, Cond.code yX0_place cX0_place 2 (some .int), Cond.methodLink RX0 170 yX0_colourOfTube, Cond.instanceMethod yX0_colourOfTube, Cond.selects RX0 yX0_colourOfTube yX0_colourOfTube, Cond.code yX0_colourOfTube cX0_colourOfTube 3 (some .int), Cond.fieldLink RX0 9 "AtelierBook" "pigmentColours" "[I", Cond.fieldLink RX0 13 "AtelierBook" "pigmentOfTube" "[I"]
def wsL_colour : List Cond := .codeWith yL_colour cL_colour 5 (some .int) [(0, 10, 13, 21), (0, 10, 17, 13)] :: ((wsL_colour_r1 ++ wsL_colour_r2) ++ wsX00 ++ (vx_atS RX0 165 "java/lang/IndexOutOfBoundsException" ["java/lang/RuntimeException", "java/lang/Exception"]).filter goodWord ++ (vx_atS RX0 92 "java/lang/IllegalArgumentException" ["java/lang/RuntimeException", "java/lang/Exception"]).filter goodWord)
def wsL_of_r1 : List Cond := [Cond.classLink RL 21 "java/lang/IndexOutOfBoundsException", Cond.classLink RL 13 "java/lang/IllegalArgumentException", Cond.methodLink RL 67 yX0_of, Cond.instanceMethod yX0_of, Cond.selects RX0 yX0_of yX0_of, Cond.initialized RX0, Cond.code yX0_of cX0_of 3 (some .int), Cond.fieldLink RX0 105 "AtelierBook" "pictureCount" "I", Cond.fieldLink RX0 22 "AtelierBook" "layerCounts" "[I", Cond.fieldLink RX0 25 "AtelierBook" "crackCounts" "[I", Cond.fieldLink RX0 34 "AtelierBook" "loanHouses" "[I", Cond.fieldLink RX0 31 "AtelierBook" "loanDays" "[I", Cond.methodLink RX0 61 yX0_checkNumber, Cond.static yX0_checkNumber, Cond.code yX0_checkNumber cX0_checkNumber 2 none, Cond.classLink RX0 161 "java/lang/IndexOutOfBoundsException", Cond.initialized "java/lang/IndexOutOfBoundsException", Cond.methodLink RX0 65 yX0_checkRange, Cond.static yX0_checkRange, Cond.code yX0_checkRange cX0_checkRange 3 none, Cond.classLink RX0 88 "java/lang/IllegalArgumentException", Cond.initialized "java/lang/IllegalArgumentException", Cond.methodLink RX0 123 yX0_valueOf, Cond.instanceMethod yX0_valueOf]
def wsL_of_r2 : List Cond := [Cond.selects RX0 yX0_valueOf yX0_valueOf, Cond.code yX0_valueOf cX0_valueOf 3 (some .int), Cond.methodLink RX0 182 Lib.Math.max.name, Cond.static Lib.Math.max.name, Cond.initialized "java/lang/Math", Cond.code Lib.Math.max.name Lib.Math.max.code 2 (some .int), Cond.methodLink RX0 179 yX0_averagePriceOfAlike, Cond.instanceMethod yX0_averagePriceOfAlike, Cond.selects RX0 yX0_averagePriceOfAlike yX0_averagePriceOfAlike, Cond.code yX0_averagePriceOfAlike cX0_averagePriceOfAlike 6 (some .int), Cond.fieldLink RX0 28 "AtelierBook" "latestPrices" "[I", Cond.methodLink RX0 140 yX0_mainPigmentOf, Cond.instanceMethod yX0_mainPigmentOf, Cond.selects RX0 yX0_mainPigmentOf yX0_mainPigmentOf, Cond.code yX0_mainPigmentOf cX0_mainPigmentOf 3 (some .int), Cond.methodLink RX0 116 yX0_layerRow, Cond.static yX0_layerRow, Cond.code yX0_layerRow cX0_layerRow 2 (some .int), Cond.methodLink RX0 176 yX0_mainPigmentOfRow, Cond.instanceMethod yX0_mainPigmentOfRow, Cond.selects RX0 yX0_mainPigmentOfRow yX0_mainPigmentOfRow, Cond.code yX0_mainPigmentOfRow cX0_mainPigmentOfRow 6 (some .int), Cond.fieldLink RX0 50 "AtelierBook" "pigmentCount" "I", Cond.methodLink RX0 173 yX0_gramsOfPigment]
def wsL_of_r3 : List Cond := [Cond.instanceMethod yX0_gramsOfPigment, Cond.selects RX0 yX0_gramsOfPigment yX0_gramsOfPigment, Cond.code yX0_gramsOfPigment cX0_gramsOfPigment 5 (some .int), Cond.fieldLink RX0 68 "AtelierBook" "tubeCount" "I", Cond.fieldLink RX0 13 "AtelierBook" "pigmentOfTube" "[I", Cond.fieldLink RX0 19 "AtelierBook" "ledger" "[I", Cond.methodLink RX0 84 yX0_place, Cond.static yX0_place, Cond.code yX0_place cX0_place 2 (some .int), Cond.methodLink RX0 143 yX0_isLent, Cond.instanceMethod yX0_isLent, Cond.selects RX0 yX0_isLent yX0_isLent, Cond.code yX0_isLent cX0_isLent 2 (some .boolean), Cond.methodLink RX0 147 yX0_lookOf, Cond.instanceMethod yX0_lookOf, Cond.selects RX0 yX0_lookOf yX0_lookOf, Cond.code yX0_lookOf cX0_lookOf 4 (some .int), Cond.methodLink RX0 137 yX0_colourOfRow, Cond.instanceMethod yX0_colourOfRow, Cond.selects RX0 yX0_colourOfRow yX0_colourOfRow, Cond.code yX0_colourOfRow cX0_colourOfRow 7 (some .int), Cond.methodLink RX0 170 yX0_colourOfTube, Cond.instanceMethod yX0_colourOfTube, Cond.selects RX0 yX0_colourOfTube yX0_colourOfTube]
def wsL_of_r4 : List Cond := [Cond.code yX0_colourOfTube cX0_colourOfTube 3 (some .int), Cond.fieldLink RX0 9 "AtelierBook" "pigmentColours" "[I"]
def wsL_of : List Cond := .codeWith yL_of cL_of 5 (some .int) [(0, 10, 13, 21), (0, 10, 17, 13)] :: ((wsL_of_r1 ++ (wsL_of_r2 ++ (wsL_of_r3 ++ wsL_of_r4))) ++ wsX00 ++ (vx_atS RX0 165 "java/lang/IndexOutOfBoundsException" ["java/lang/RuntimeException", "java/lang/Exception"]).filter goodWord ++ (vx_atS RX0 92 "java/lang/IllegalArgumentException" ["java/lang/RuntimeException", "java/lang/Exception"]).filter goodWord)
def wsL_layer : List Cond := .codeWith yL_layer cL_layer 6 (some .int) [(0, 12, 15, 21)] :: ([.classLink RL 21 "java/lang/IndexOutOfBoundsException", .methodLink RL 70 yX0_layer, .instanceMethod yX0_layer, .selects RX0 yX0_layer yX0_layer, .initialized RX0, .code yX0_layer cX0_layer 4 (some .int), .fieldLink RX0 105 "AtelierBook" "pictureCount" "I", .fieldLink RX0 22 "AtelierBook" "layerCounts" "[I", .fieldLink RX0 68 "AtelierBook" "tubeCount" "I", .fieldLink RX0 19 "AtelierBook" "ledger" "[I", .methodLink RX0 61 yX0_checkNumber, .static yX0_checkNumber, .code yX0_checkNumber cX0_checkNumber 2 none, .classLink RX0 161 "java/lang/IndexOutOfBoundsException", .initialized "java/lang/IndexOutOfBoundsException", .methodLink RX0 116 yX0_layerRow, .static yX0_layerRow, .code yX0_layerRow cX0_layerRow 2 (some .int), .methodLink RX0 84 yX0_place, .static yX0_place, .code yX0_place cX0_place 2 (some .int)] ++ wsX00 ++ (vx_atS RX0 165 "java/lang/IndexOutOfBoundsException" ["java/lang/RuntimeException", "java/lang/Exception"]).filter goodWord)
def wsL_where_r1 : List Cond := [Cond.classLink RL 21 "java/lang/IndexOutOfBoundsException", Cond.classLink RL 13 "java/lang/IllegalArgumentException", Cond.methodLink RL 73 yX0_where, Cond.instanceMethod yX0_where, Cond.selects RX0 yX0_where yX0_where, Cond.initialized RX0, Cond.code yX0_where cX0_where 3 (some .int), Cond.fieldLink RX0 68 "AtelierBook" "tubeCount" "I", Cond.fieldLink RX0 16 "AtelierBook" "gramsInTube" "[I", Cond.methodLink RX0 61 yX0_checkNumber, Cond.static yX0_checkNumber, Cond.code yX0_checkNumber cX0_checkNumber 2 none, Cond.classLink RX0 161 "java/lang/IndexOutOfBoundsException", Cond.initialized "java/lang/IndexOutOfBoundsException", Cond.methodLink RX0 65 yX0_checkRange, Cond.static yX0_checkRange, Cond.code yX0_checkRange cX0_checkRange 3 none, Cond.classLink RX0 88 "java/lang/IllegalArgumentException", Cond.initialized "java/lang/IllegalArgumentException", Cond.methodLink RX0 150 yX0_sumOfTube, Cond.instanceMethod yX0_sumOfTube, Cond.selects RX0 yX0_sumOfTube yX0_sumOfTube, Cond.code yX0_sumOfTube cX0_sumOfTube 6 (some .int), Cond.fieldLink RX0 19 "AtelierBook" "ledger" "[I"]
def wsL_where_r2 : List Cond := [Cond.methodLink RX0 84 yX0_place, Cond.static yX0_place, Cond.code yX0_place cX0_place 2 (some .int)]
def wsL_where : List Cond := .codeWith yL_where cL_where 5 (some .int) [(0, 10, 13, 21), (0, 10, 17, 13)] :: ((wsL_where_r1 ++ wsL_where_r2) ++ wsX00 ++ (vx_atS RX0 165 "java/lang/IndexOutOfBoundsException" ["java/lang/RuntimeException", "java/lang/Exception"]).filter goodWord ++ (vx_atS RX0 92 "java/lang/IllegalArgumentException" ["java/lang/RuntimeException", "java/lang/Exception"]).filter goodWord)
def wsL_recipe_r1 : List Cond := [Cond.classLink RL 13 "java/lang/IllegalArgumentException", Cond.methodLink RL 76 yX0_recipe, Cond.instanceMethod yX0_recipe, Cond.selects RX0 yX0_recipe yX0_recipe, Cond.initialized RX0, Cond.code yX0_recipe cX0_recipe 10 (some .int), Cond.fieldLink RX0 68 "AtelierBook" "tubeCount" "I", Cond.fieldLink RX0 16 "AtelierBook" "gramsInTube" "[I", Cond.methodLink RX0 46 yX0_checkColour, Cond.static yX0_checkColour, Cond.code yX0_checkColour cX0_checkColour 3 none, Cond.methodLink RX0 65 yX0_checkRange, Cond.static yX0_checkRange, Cond.code yX0_checkRange cX0_checkRange 3 none, Cond.classLink RX0 88 "java/lang/IllegalArgumentException", Cond.initialized "java/lang/IllegalArgumentException", Cond.methodLink RX0 154 yX0_mixed, Cond.instanceMethod yX0_mixed, Cond.selects RX0 yX0_mixed yX0_mixed, Cond.code yX0_mixed cX0_mixed 5 (some .int), Cond.methodLink RX0 170 yX0_colourOfTube, Cond.instanceMethod yX0_colourOfTube, Cond.selects RX0 yX0_colourOfTube yX0_colourOfTube, Cond.code yX0_colourOfTube cX0_colourOfTube 3 (some .int)]
def wsL_recipe_r2 : List Cond := [Cond.fieldLink RX0 9 "AtelierBook" "pigmentColours" "[I", Cond.fieldLink RX0 13 "AtelierBook" "pigmentOfTube" "[I", Cond.methodLink RX0 158 yX0_square, Cond.static yX0_square, Cond.code yX0_square cX0_square 1 (some .int)]
def wsL_recipe : List Cond := .codeWith yL_recipe cL_recipe 6 (some .int) [(0, 12, 15, 13)] :: ((wsL_recipe_r1 ++ wsL_recipe_r2) ++ wsX00 ++ (vx_atS RX0 92 "java/lang/IllegalArgumentException" ["java/lang/RuntimeException", "java/lang/Exception"]).filter goodWord)
def wsL_paid : List Cond := .codeWith yL_paid cL_paid 4 (some .int) [(0, 9, 12, 21)] :: ([.classLink RL 21 "java/lang/IndexOutOfBoundsException", .methodLink RL 79 yX0_paid, .instanceMethod yX0_paid, .selects RX0 yX0_paid yX0_paid, .initialized RX0, .code yX0_paid cX0_paid 2 (some .int), .fieldLink RX0 43 "AtelierBook" "housePayments" "[I", .methodLink RX0 61 yX0_checkNumber, .static yX0_checkNumber, .code yX0_checkNumber cX0_checkNumber 2 none, .classLink RX0 161 "java/lang/IndexOutOfBoundsException", .initialized "java/lang/IndexOutOfBoundsException"] ++ wsX00 ++ (vx_atS RX0 165 "java/lang/IndexOutOfBoundsException" ["java/lang/RuntimeException", "java/lang/Exception"]).filter goodWord)
def wsL_law0_r1 : List Cond := [Cond.classLink RL 8 RX0, Cond.instantiable RX0 17, Cond.initialized RX0, Cond.classLink RL 83 RX1, Cond.instantiable RX1 22, Cond.initialized RX1, Cond.arrayClass .long, Cond.methodLink RL 82 yX0_init, Cond.instanceMethod yX0_init, Cond.code yX0_init cX0_init 2 none, Cond.methodLink RX0 3 objectInit, Cond.instanceMethod objectInit, Cond.code objectInit ⟨#[0xb1]⟩ 1 none, Cond.arrayClass .int, Cond.fieldLink RX0 9 "AtelierBook" "pigmentColours" "[I", Cond.fieldLink RX0 13 "AtelierBook" "pigmentOfTube" "[I", Cond.fieldLink RX0 16 "AtelierBook" "gramsInTube" "[I", Cond.fieldLink RX0 19 "AtelierBook" "ledger" "[I", Cond.fieldLink RX0 22 "AtelierBook" "layerCounts" "[I", Cond.fieldLink RX0 25 "AtelierBook" "crackCounts" "[I", Cond.fieldLink RX0 28 "AtelierBook" "latestPrices" "[I", Cond.fieldLink RX0 31 "AtelierBook" "loanDays" "[I", Cond.fieldLink RX0 34 "AtelierBook" "loanHouses" "[I", Cond.fieldLink RX0 37 "AtelierBook" "loanCosts" "[I"]
def wsL_law0_r2 : List Cond := [Cond.fieldLink RX0 40 "AtelierBook" "houseDamps" "[I", Cond.fieldLink RX0 43 "AtelierBook" "housePayments" "[I", Cond.methodLink RL 85 yX1_init, Cond.instanceMethod yX1_init, Cond.code yX1_init cX1_init 2 none, Cond.methodLink RX1 1 objectInit, Cond.fieldLink RX1 7 "AtelierBookModel" "shade" "[I", Cond.fieldLink RX1 13 "AtelierBookModel" "pigmentOf" "[I", Cond.fieldLink RX1 16 "AtelierBookModel" "left" "[I", Cond.fieldLink RX1 19 "AtelierBookModel" "wasted" "[I", Cond.fieldLink RX1 22 "AtelierBookModel" "inPot" "[I", Cond.fieldLink RX1 25 "AtelierBookModel" "layers" "[I", Cond.fieldLink RX1 28 "AtelierBookModel" "inLayer" "[I", Cond.fieldLink RX1 31 "AtelierBookModel" "cracks" "[I", Cond.fieldLink RX1 34 "AtelierBookModel" "price" "[I", Cond.fieldLink RX1 37 "AtelierBookModel" "house" "[I", Cond.fieldLink RX1 40 "AtelierBookModel" "days" "[I", Cond.fieldLink RX1 43 "AtelierBookModel" "cost" "[I", Cond.fieldLink RX1 46 "AtelierBookModel" "damp" "[I", Cond.fieldLink RX1 49 "AtelierBookModel" "paid" "[I", Cond.fieldLink RX1 52 "AtelierBookModel" "flow" "[I", Cond.fieldLink RX1 55 "AtelierBookModel" "sums" "[I", Cond.methodLink RL 86 yL_pigment, Cond.static yL_pigment]
def wsL_law0_r3 : List Cond := [Cond.initialized RL, Cond.codeWith yL_pigment cL_pigment 6 (some .int) [(0, 12, 15, 13), (0, 12, 19, 15)], Cond.classLink RL 13 "java/lang/IllegalArgumentException", Cond.classLink RL 15 "java/lang/IllegalStateException", Cond.methodLink RL 7 yX0_pigment, Cond.instanceMethod yX0_pigment, Cond.selects RX0 yX0_pigment yX0_pigment, Cond.code yX0_pigment cX0_pigment 5 (some .int), Cond.classLink RX0 54 "java/lang/IllegalStateException", Cond.initialized "java/lang/IllegalStateException", Cond.fieldLink RX0 50 "AtelierBook" "pigmentCount" "I", Cond.methodLink RX0 46 yX0_checkColour, Cond.static yX0_checkColour, Cond.code yX0_checkColour cX0_checkColour 3 none, Cond.methodLink RX0 65 yX0_checkRange, Cond.static yX0_checkRange, Cond.code yX0_checkRange cX0_checkRange 3 none, Cond.classLink RX0 88 "java/lang/IllegalArgumentException", Cond.initialized "java/lang/IllegalArgumentException", Cond.methodLink RL 91 yX1_pigment, Cond.instanceMethod yX1_pigment, Cond.selects RX1 yX1_pigment yX1_pigment, Cond.code yX1_pigment cX1_pigment 4 (some .int), Cond.fieldLink RX1 78 "AtelierBookModel" "pigments" "I"]
def wsL_law0_r4 : List Cond := [Cond.fieldLink RX1 58 "AtelierBookModel" "thrown" "I", Cond.methodLink RX1 75 yX1_areShades, Cond.static yX1_areShades, Cond.code yX1_areShades cX1_areShades 3 (some .boolean), Cond.methodLink RX1 62 yX1_in, Cond.static yX1_in, Cond.code yX1_in cX1_in 3 (some .boolean), Cond.methodLink RL 92 yX1_thrown, Cond.instanceMethod yX1_thrown, Cond.selects RX1 yX1_thrown yX1_thrown, Cond.code yX1_thrown cX1_thrown 1 (some .int), Cond.methodLink RL 95 yL_tube, Cond.static yL_tube, Cond.codeWith yL_tube cL_tube 5 (some .int) [(0, 10, 13, 21), (0, 10, 17, 13), (0, 10, 21, 15)], Cond.classLink RL 21 "java/lang/IndexOutOfBoundsException", Cond.methodLink RL 17 yX0_tube, Cond.instanceMethod yX0_tube, Cond.selects RX0 yX0_tube yX0_tube, Cond.code yX0_tube cX0_tube 3 (some .int), Cond.fieldLink RX0 68 "AtelierBook" "tubeCount" "I", Cond.methodLink RX0 61 yX0_checkNumber, Cond.static yX0_checkNumber, Cond.code yX0_checkNumber cX0_checkNumber 2 none, Cond.classLink RX0 161 "java/lang/IndexOutOfBoundsException"]
def wsL_law0_r5 : List Cond := [Cond.initialized "java/lang/IndexOutOfBoundsException", Cond.methodLink RL 98 yX1_tube, Cond.instanceMethod yX1_tube, Cond.selects RX1 yX1_tube yX1_tube, Cond.code yX1_tube cX1_tube 3 (some .int), Cond.fieldLink RX1 66 "AtelierBookModel" "tubes" "I", Cond.methodLink RL 99 yL_pot, Cond.static yL_pot, Cond.codeWith yL_pot cL_pot 3 (some .int) [(0, 8, 11, 15)], Cond.methodLink RL 23 yX0_pot, Cond.instanceMethod yX0_pot, Cond.selects RX0 yX0_pot yX0_pot, Cond.code yX0_pot cX0_pot 1 (some .int), Cond.fieldLink RX0 73 "AtelierBook" "potCount" "I", Cond.methodLink RL 102 yX1_pot, Cond.instanceMethod yX1_pot, Cond.selects RX1 yX1_pot yX1_pot, Cond.code yX1_pot cX1_pot 1 (some .int), Cond.fieldLink RX1 69 "AtelierBookModel" "pots" "I", Cond.methodLink RL 103 yL_squeeze, Cond.static yL_squeeze, Cond.codeWith yL_squeeze cL_squeeze 6 (some .int) [(0, 12, 15, 21), (0, 12, 19, 13), (0, 12, 23, 15)], Cond.methodLink RL 27 yX0_squeeze, Cond.instanceMethod yX0_squeeze]
def wsL_law0_r6 : List Cond := [Cond.selects RX0 yX0_squeeze yX0_squeeze, Cond.code yX0_squeeze cX0_squeeze 4 (some .int), Cond.methodLink RX0 80 yX0_potRow, Cond.static yX0_potRow, Cond.code yX0_potRow cX0_potRow 1 (some .int), Cond.methodLink RX0 84 yX0_place, Cond.static yX0_place, Cond.code yX0_place cX0_place 2 (some .int), Cond.methodLink RL 105 yX1_squeeze, Cond.instanceMethod yX1_squeeze, Cond.selects RX1 yX1_squeeze yX1_squeeze, Cond.code yX1_squeeze cX1_squeeze 4 (some .int), Cond.methodLink RX1 81 yX1_isPot, Cond.instanceMethod yX1_isPot, Cond.selects RX1 yX1_isPot yX1_isPot, Cond.code yX1_isPot cX1_isPot 2 (some .boolean), Cond.methodLink RX1 85 yX1_isTube, Cond.instanceMethod yX1_isTube, Cond.selects RX1 yX1_isTube yX1_isTube, Cond.code yX1_isTube cX1_isTube 2 (some .boolean), Cond.methodLink RL 106 yL_pour, Cond.static yL_pour, Cond.codeWith yL_pour cL_pour 6 (some .int) [(0, 12, 15, 21), (0, 12, 19, 13), (0, 12, 23, 15)], Cond.methodLink RL 30 yX0_pour]
def wsL_law0_r7 : List Cond := [Cond.instanceMethod yX0_pour, Cond.selects RX0 yX0_pour yX0_pour, Cond.code yX0_pour cX0_pour 4 (some .int), Cond.methodLink RX0 93 yX0_move, Cond.instanceMethod yX0_move, Cond.selects RX0 yX0_move yX0_move, Cond.code yX0_move cX0_move 9 (some .boolean), Cond.methodLink RX0 99 yX0_sumOfRow, Cond.instanceMethod yX0_sumOfRow, Cond.selects RX0 yX0_sumOfRow yX0_sumOfRow, Cond.code yX0_sumOfRow cX0_sumOfRow 4 (some .int), Cond.methodLink RL 108 yX1_pour, Cond.instanceMethod yX1_pour, Cond.selects RX1 yX1_pour yX1_pour, Cond.code yX1_pour cX1_pour 5 (some .int), Cond.methodLink RX1 88 yX1_gramsOf, Cond.instanceMethod yX1_gramsOf, Cond.selects RX1 yX1_gramsOf yX1_gramsOf, Cond.code yX1_gramsOf cX1_gramsOf 4 (some .int), Cond.methodLink RX1 92 yX1_flows, Cond.instanceMethod yX1_flows, Cond.selects RX1 yX1_flows yX1_flows, Cond.code yX1_flows cX1_flows 7 none, Cond.methodLink RL 109 yL_scrape]
def wsL_law0_r8 : List Cond := [Cond.static yL_scrape, Cond.codeWith yL_scrape cL_scrape 4 (some .int) [(0, 9, 12, 21)], Cond.methodLink RL 33 yX0_scrape, Cond.instanceMethod yX0_scrape, Cond.selects RX0 yX0_scrape yX0_scrape, Cond.code yX0_scrape cX0_scrape 2 (some .int), Cond.methodLink RX0 102 yX0_waste, Cond.instanceMethod yX0_waste, Cond.selects RX0 yX0_waste yX0_waste, Cond.code yX0_waste cX0_waste 5 (some .int), Cond.methodLink RL 112 yX1_scrape, Cond.instanceMethod yX1_scrape, Cond.selects RX1 yX1_scrape yX1_scrape, Cond.code yX1_scrape cX1_scrape 4 (some .int), Cond.methodLink RL 113 yL_picture, Cond.static yL_picture, Cond.codeWith yL_picture cL_picture 3 (some .int) [(0, 8, 11, 15)], Cond.methodLink RL 37 yX0_picture, Cond.instanceMethod yX0_picture, Cond.selects RX0 yX0_picture yX0_picture, Cond.code yX0_picture cX0_picture 1 (some .int), Cond.fieldLink RX0 105 "AtelierBook" "pictureCount" "I", Cond.methodLink RL 115 yX1_picture, Cond.instanceMethod yX1_picture]
def wsL_law0_r9 : List Cond := [Cond.selects RX1 yX1_picture yX1_picture, Cond.code yX1_picture cX1_picture 1 (some .int), Cond.fieldLink RX1 72 "AtelierBookModel" "pictures" "I", Cond.methodLink RL 116 yL_paint, Cond.static yL_paint, Cond.codeWith yL_paint cL_paint 6 (some .int) [(0, 12, 15, 21), (0, 12, 19, 13), (0, 12, 23, 15)], Cond.methodLink RL 40 yX0_paint, Cond.instanceMethod yX0_paint, Cond.selects RX0 yX0_paint yX0_paint, Cond.code yX0_paint cX0_paint 4 (some .int), Cond.methodLink RX0 110 yX0_checkAtHome, Cond.instanceMethod yX0_checkAtHome, Cond.selects RX0 yX0_checkAtHome yX0_checkAtHome, Cond.code yX0_checkAtHome cX0_checkAtHome 2 none, Cond.methodLink RX0 143 yX0_isLent, Cond.instanceMethod yX0_isLent, Cond.selects RX0 yX0_isLent yX0_isLent, Cond.code yX0_isLent cX0_isLent 2 (some .boolean), Cond.methodLink RX0 116 yX0_layerRow, Cond.static yX0_layerRow, Cond.code yX0_layerRow cX0_layerRow 2 (some .int), Cond.methodLink RL 118 yX1_paint, Cond.instanceMethod yX1_paint, Cond.selects RX1 yX1_paint yX1_paint]
def wsL_law0_r10 : List Cond := [Cond.code yX1_paint cX1_paint 5 (some .int), Cond.methodLink RX1 96 yX1_isPicture, Cond.instanceMethod yX1_isPicture, Cond.selects RX1 yX1_isPicture yX1_isPicture, Cond.code yX1_isPicture cX1_isPicture 2 (some .boolean), Cond.methodLink RX1 99 yX1_layerAt, Cond.static yX1_layerAt, Cond.code yX1_layerAt cX1_layerAt 2 (some .int), Cond.methodLink RL 119 yL_clean, Cond.static yL_clean, Cond.codeWith yL_clean cL_clean 5 (some .int) [(0, 10, 13, 21), (0, 10, 17, 13), (0, 10, 21, 15)], Cond.methodLink RL 43 yX0_clean, Cond.instanceMethod yX0_clean, Cond.selects RX0 yX0_clean yX0_clean, Cond.code yX0_clean cX0_clean 5 (some .int), Cond.methodLink RL 121 yX1_clean, Cond.instanceMethod yX1_clean, Cond.selects RX1 yX1_clean yX1_clean, Cond.code yX1_clean cX1_clean 7 (some .int), Cond.methodLink RL 122 yL_damp, Cond.static yL_damp, Cond.codeWith yL_damp cL_damp 5 (some .int) [(0, 10, 13, 21), (0, 10, 17, 13)], Cond.methodLink RL 46 yX0_damp, Cond.instanceMethod yX0_damp]
def wsL_law0_r11 : List Cond := [Cond.selects RX0 yX0_damp yX0_damp, Cond.code yX0_damp cX0_damp 4 (some .int), Cond.methodLink RL 124 yX1_damp, Cond.instanceMethod yX1_damp, Cond.selects RX1 yX1_damp yX1_damp, Cond.code yX1_damp cX1_damp 4 (some .int), Cond.methodLink RX1 106 yX1_isHouse, Cond.static yX1_isHouse, Cond.code yX1_isHouse cX1_isHouse 1 (some .boolean), Cond.methodLink RL 125 yL_lend, Cond.static yL_lend, Cond.codeWith yL_lend cL_lend 6 (some .int) [(0, 12, 15, 21), (0, 12, 19, 13), (0, 12, 23, 15)], Cond.methodLink RL 49 yX0_lend, Cond.instanceMethod yX0_lend, Cond.selects RX0 yX0_lend yX0_lend, Cond.code yX0_lend cX0_lend 4 (some .int), Cond.methodLink RX0 123 yX0_valueOf, Cond.instanceMethod yX0_valueOf, Cond.selects RX0 yX0_valueOf yX0_valueOf, Cond.code yX0_valueOf cX0_valueOf 3 (some .int), Cond.methodLink RX0 182 Lib.Math.max.name, Cond.static Lib.Math.max.name, Cond.initialized "java/lang/Math", Cond.code Lib.Math.max.name Lib.Math.max.code 2 (some .int)]
def wsL_law0_r12 : List Cond := [Cond.methodLink RX0 179 yX0_averagePriceOfAlike, Cond.instanceMethod yX0_averagePriceOfAlike, Cond.selects RX0 yX0_averagePriceOfAlike yX0_averagePriceOfAlike, Cond.code yX0_averagePriceOfAlike cX0_averagePriceOfAlike 6 (some .int), Cond.methodLink RX0 140 yX0_mainPigmentOf, Cond.instanceMethod yX0_mainPigmentOf, Cond.selects RX0 yX0_mainPigmentOf yX0_mainPigmentOf, Cond.code yX0_mainPigmentOf cX0_mainPigmentOf 3 (some .int), Cond.methodLink RX0 176 yX0_mainPigmentOfRow, Cond.instanceMethod yX0_mainPigmentOfRow, Cond.selects RX0 yX0_mainPigmentOfRow yX0_mainPigmentOfRow, Cond.code yX0_mainPigmentOfRow cX0_mainPigmentOfRow 6 (some .int), Cond.methodLink RX0 173 yX0_gramsOfPigment, Cond.instanceMethod yX0_gramsOfPigment, Cond.selects RX0 yX0_gramsOfPigment yX0_gramsOfPigment, Cond.code yX0_gramsOfPigment cX0_gramsOfPigment 5 (some .int), Cond.methodLink RL 127 yX1_lend, Cond.instanceMethod yX1_lend, Cond.selects RX1 yX1_lend yX1_lend, Cond.code yX1_lend cX1_lend 4 (some .int), Cond.methodLink RX1 109 yX1_value, Cond.instanceMethod yX1_value, Cond.selects RX1 yX1_value yX1_value, Cond.code yX1_value cX1_value 7 (some .int)]
def wsL_law0_r13 : List Cond := [Cond.methodLink RX1 103 yX1_main, Cond.instanceMethod yX1_main, Cond.selects RX1 yX1_main yX1_main, Cond.code yX1_main cX1_main 4 (some .int), Cond.methodLink RL 128 yL_sell, Cond.static yL_sell, Cond.codeWith yL_sell cL_sell 5 (some .int) [(0, 10, 13, 21), (0, 10, 17, 13), (0, 10, 21, 15)], Cond.methodLink RL 52 yX0_sell, Cond.instanceMethod yX0_sell, Cond.selects RX0 yX0_sell yX0_sell, Cond.code yX0_sell cX0_sell 3 (some .int), Cond.constant RX0 126 (100000), Cond.methodLink RL 130 yX1_sell, Cond.instanceMethod yX1_sell, Cond.selects RX1 yX1_sell yX1_sell, Cond.code yX1_sell cX1_sell 3 (some .int), Cond.constant RX1 112 (100000), Cond.methodLink RL 131 yL_pass, Cond.static yL_pass, Cond.codeWith yL_pass cL_pass 4 (some .int) [(0, 9, 12, 13), (0, 9, 15, 15)], Cond.methodLink RL 55 yX0_pass, Cond.instanceMethod yX0_pass, Cond.selects RX0 yX0_pass yX0_pass, Cond.code yX0_pass cX0_pass 3 (some .int)]
def wsL_law0_r14 : List Cond := [Cond.fieldLink RX0 129 "AtelierBook" "today" "I", Cond.methodLink RX0 134 yX0_passForLoan, Cond.instanceMethod yX0_passForLoan, Cond.selects RX0 yX0_passForLoan yX0_passForLoan, Cond.code yX0_passForLoan cX0_passForLoan 5 none, Cond.methodLink RX0 187 Lib.Math.min.name, Cond.static Lib.Math.min.name, Cond.code Lib.Math.min.name Lib.Math.min.code 2 (some .int), Cond.methodLink RX0 190 Lib.Math.abs.name, Cond.static Lib.Math.abs.name, Cond.code Lib.Math.abs.name Lib.Math.abs.code 1 (some .int), Cond.methodLink RL 133 yX1_pass, Cond.instanceMethod yX1_pass, Cond.selects RX1 yX1_pass yX1_pass, Cond.code yX1_pass cX1_pass 3 (some .int), Cond.fieldLink RX1 113 "AtelierBookModel" "today" "I", Cond.methodLink RX1 116 yX1_passOne, Cond.instanceMethod yX1_passOne, Cond.selects RX1 yX1_passOne yX1_passOne, Cond.code yX1_passOne cX1_passOne 3 none, Cond.methodLink RL 134 yL_left, Cond.static yL_left, Cond.codeWith yL_left cL_left 4 (some .int) [(0, 9, 12, 21)], Cond.methodLink RL 58 yX0_left]
def wsL_law0_r15 : List Cond := [Cond.instanceMethod yX0_left, Cond.selects RX0 yX0_left yX0_left, Cond.code yX0_left cX0_left 2 (some .int), Cond.methodLink RL 136 yX1_left, Cond.instanceMethod yX1_left, Cond.selects RX1 yX1_left yX1_left, Cond.code yX1_left cX1_left 2 (some .int), Cond.methodLink RL 137 yL_has, Cond.static yL_has, Cond.codeWith yL_has cL_has 5 (some .int) [(0, 10, 13, 21)], Cond.methodLink RL 61 yX0_has, Cond.instanceMethod yX0_has, Cond.selects RX0 yX0_has yX0_has, Cond.code yX0_has cX0_has 3 (some .int), Cond.methodLink RL 139 yX1_has, Cond.instanceMethod yX1_has, Cond.selects RX1 yX1_has yX1_has, Cond.code yX1_has cX1_has 3 (some .int), Cond.methodLink RL 140 yL_colour, Cond.static yL_colour, Cond.codeWith yL_colour cL_colour 5 (some .int) [(0, 10, 13, 21), (0, 10, 17, 13)], Cond.methodLink RL 64 yX0_colour, Cond.instanceMethod yX0_colour, Cond.selects RX0 yX0_colour yX0_colour]
def wsL_law0_r16 : List Cond := [Cond.code yX0_colour cX0_colour 3 (some .int), Cond.methodLink RX0 137 yX0_colourOfRow, Cond.instanceMethod yX0_colourOfRow, Cond.selects RX0 yX0_colourOfRow yX0_colourOfRow, Cond.code yX0_colourOfRow cX0_colourOfRow 7 (some .int), Cond.methodLink RX0 170 yX0_colourOfTube, Cond.instanceMethod yX0_colourOfTube, Cond.selects RX0 yX0_colourOfTube yX0_colourOfTube, Cond.code yX0_colourOfTube cX0_colourOfTube 3 (some .int), Cond.methodLink RL 142 yX1_colour, Cond.instanceMethod yX1_colour, Cond.selects RX1 yX1_colour yX1_colour, Cond.code yX1_colour cX1_colour 6 (some .int), Cond.methodLink RL 143 yL_of, Cond.static yL_of, Cond.codeWith yL_of cL_of 5 (some .int) [(0, 10, 13, 21), (0, 10, 17, 13)], Cond.methodLink RL 67 yX0_of, Cond.instanceMethod yX0_of, Cond.selects RX0 yX0_of yX0_of, Cond.code yX0_of cX0_of 3 (some .int), Cond.methodLink RX0 147 yX0_lookOf, Cond.instanceMethod yX0_lookOf, Cond.selects RX0 yX0_lookOf yX0_lookOf, Cond.code yX0_lookOf cX0_lookOf 4 (some .int)]
def wsL_law0_r17 : List Cond := [Cond.methodLink RL 145 yX1_of, Cond.instanceMethod yX1_of, Cond.selects RX1 yX1_of yX1_of, Cond.code yX1_of cX1_of 3 (some .int), Cond.methodLink RX1 119 yX1_look, Cond.instanceMethod yX1_look, Cond.selects RX1 yX1_look yX1_look, Cond.code yX1_look cX1_look 7 (some .int), Cond.methodLink RL 146 yL_layer, Cond.static yL_layer, Cond.codeWith yL_layer cL_layer 6 (some .int) [(0, 12, 15, 21)], Cond.methodLink RL 70 yX0_layer, Cond.instanceMethod yX0_layer, Cond.selects RX0 yX0_layer yX0_layer, Cond.code yX0_layer cX0_layer 4 (some .int), Cond.methodLink RL 148 yX1_layer, Cond.instanceMethod yX1_layer, Cond.selects RX1 yX1_layer yX1_layer, Cond.code yX1_layer cX1_layer 4 (some .int), Cond.methodLink RL 149 yL_where, Cond.static yL_where, Cond.codeWith yL_where cL_where 5 (some .int) [(0, 10, 13, 21), (0, 10, 17, 13)], Cond.methodLink RL 73 yX0_where, Cond.instanceMethod yX0_where]
def wsL_law0_r18 : List Cond := [Cond.selects RX0 yX0_where yX0_where, Cond.code yX0_where cX0_where 3 (some .int), Cond.methodLink RX0 150 yX0_sumOfTube, Cond.instanceMethod yX0_sumOfTube, Cond.selects RX0 yX0_sumOfTube yX0_sumOfTube, Cond.code yX0_sumOfTube cX0_sumOfTube 6 (some .int), Cond.methodLink RL 151 yX1_where, Cond.instanceMethod yX1_where, Cond.selects RX1 yX1_where yX1_where, Cond.code yX1_where cX1_where 3 (some .int), Cond.methodLink RX1 122 yX1_inPots, Cond.instanceMethod yX1_inPots, Cond.selects RX1 yX1_inPots yX1_inPots, Cond.code yX1_inPots cX1_inPots 4 (some .int), Cond.methodLink RX1 125 yX1_onPictures, Cond.instanceMethod yX1_onPictures, Cond.selects RX1 yX1_onPictures yX1_onPictures, Cond.code yX1_onPictures cX1_onPictures 4 (some .int), Cond.methodLink RL 152 yL_recipe, Cond.static yL_recipe, Cond.codeWith yL_recipe cL_recipe 6 (some .int) [(0, 12, 15, 13)], Cond.methodLink RL 76 yX0_recipe, Cond.instanceMethod yX0_recipe, Cond.selects RX0 yX0_recipe yX0_recipe]
def wsL_law0_r19 : List Cond := [Cond.code yX0_recipe cX0_recipe 10 (some .int), Cond.methodLink RX0 154 yX0_mixed, Cond.instanceMethod yX0_mixed, Cond.selects RX0 yX0_mixed yX0_mixed, Cond.code yX0_mixed cX0_mixed 5 (some .int), Cond.methodLink RX0 158 yX0_square, Cond.static yX0_square, Cond.code yX0_square cX0_square 1 (some .int), Cond.methodLink RL 154 yX1_recipe, Cond.instanceMethod yX1_recipe, Cond.selects RX1 yX1_recipe yX1_recipe, Cond.code yX1_recipe cX1_recipe 10 (some .int), Cond.methodLink RX1 128 yX1_far, Cond.instanceMethod yX1_far, Cond.selects RX1 yX1_far yX1_far, Cond.code yX1_far cX1_far 7 (some .int), Cond.methodLink RL 155 yL_paid, Cond.static yL_paid, Cond.codeWith yL_paid cL_paid 4 (some .int) [(0, 9, 12, 21)], Cond.methodLink RL 79 yX0_paid, Cond.instanceMethod yX0_paid, Cond.selects RX0 yX0_paid yX0_paid, Cond.code yX0_paid cX0_paid 2 (some .int), Cond.methodLink RL 157 yX1_paid]
def wsL_law0_r20 : List Cond := [Cond.instanceMethod yX1_paid, Cond.selects RX1 yX1_paid yX1_paid, Cond.code yX1_paid cX1_paid 2 (some .int)]
def wsL_law0 : List Cond := (wsL_law0_r1 ++ (wsL_law0_r2 ++ (wsL_law0_r3 ++ (wsL_law0_r4 ++ (wsL_law0_r5 ++ (wsL_law0_r6 ++ (wsL_law0_r7 ++ (wsL_law0_r8 ++ (wsL_law0_r9 ++ (wsL_law0_r10 ++ (wsL_law0_r11 ++ (wsL_law0_r12 ++ (wsL_law0_r13 ++ (wsL_law0_r14 ++ (wsL_law0_r15 ++ (wsL_law0_r16 ++ (wsL_law0_r17 ++ (wsL_law0_r18 ++ (wsL_law0_r19 ++ wsL_law0_r20))))))))))))))))))) ++ wsX00 ++ wsX10 ++ ([] : List Cond)
def wsL_law : List Cond := wsL_law0 ++ (vx_atS RX0 58 "java/lang/IllegalStateException" ["java/lang/RuntimeException", "java/lang/Exception"]).filter goodWord ++ (vx_atS RX0 92 "java/lang/IllegalArgumentException" ["java/lang/RuntimeException", "java/lang/Exception"]).filter goodWord ++ (vx_atS RX0 165 "java/lang/IndexOutOfBoundsException" ["java/lang/RuntimeException", "java/lang/Exception"]).filter goodWord
set_option maxRecDepth 20000 in
theorem ggX0_pigment_X0_checkColour : GoodIn wsX0_pigment wsX0_checkColour := goodIn_ca (goodIn_r _ [8, 9, 10, 7, 11, 12, 13] (by decide +kernel) (by decide +kernel)) (goodIn_sub (fun _ h => List.mem_cons_of_mem _ (List.mem_append_right _ h)) (by decide +kernel))
set_option maxRecDepth 20000 in
theorem gX0_pigment_X0_checkColour : GoodIn wsX0_pigment (va_wsS RX0 46 yX0_checkColour wsX0_checkColour) := goodIn_app (goodIn_of _ (by decide +kernel)) ggX0_pigment_X0_checkColour
set_option maxRecDepth 20000 in
theorem ggX0_tube_X0_checkNumber : GoodIn wsX0_tube wsX0_checkNumber := goodIn_ca (goodIn_r _ [10, 11, 12] (by decide +kernel) (by decide +kernel)) (goodIn_sub (fun _ h => List.mem_cons_of_mem _ (List.mem_append_left _ (List.mem_append_right _ h))) (by decide +kernel))
set_option maxRecDepth 20000 in
theorem gX0_tube_X0_checkNumber : GoodIn wsX0_tube (va_wsS RX0 61 yX0_checkNumber wsX0_checkNumber) := goodIn_app (goodIn_of _ (by decide +kernel)) ggX0_tube_X0_checkNumber
set_option maxRecDepth 20000 in
theorem ggX0_tube_X0_checkRange : GoodIn wsX0_tube wsX0_checkRange := goodIn_ca (goodIn_r _ [15, 16, 17] (by decide +kernel) (by decide +kernel)) (goodIn_sub (fun _ h => List.mem_cons_of_mem _ (List.mem_append_right _ h)) (by decide +kernel))
set_option maxRecDepth 20000 in
theorem gX0_tube_X0_checkRange : GoodIn wsX0_tube (va_wsS RX0 65 yX0_checkRange wsX0_checkRange) := goodIn_app (goodIn_of _ (by decide +kernel)) ggX0_tube_X0_checkRange
set_option maxRecDepth 20000 in
theorem ggX0_squeeze_X0_checkNumber : GoodIn wsX0_squeeze wsX0_checkNumber := goodIn_ca (goodIn_r _ [10, 11, 12] (by decide +kernel) (by decide +kernel)) (goodIn_sub (fun _ h => List.mem_cons_of_mem _ (List.mem_append_left _ (List.mem_append_right _ h))) (by decide +kernel))
set_option maxRecDepth 20000 in
theorem gX0_squeeze_X0_checkNumber : GoodIn wsX0_squeeze (va_wsS RX0 61 yX0_checkNumber wsX0_checkNumber) := goodIn_app (goodIn_of _ (by decide +kernel)) ggX0_squeeze_X0_checkNumber
set_option maxRecDepth 20000 in
theorem ggX0_squeeze_X0_checkRange : GoodIn wsX0_squeeze wsX0_checkRange := goodIn_ca (goodIn_r _ [15, 16, 17] (by decide +kernel) (by decide +kernel)) (goodIn_sub (fun _ h => List.mem_cons_of_mem _ (List.mem_append_right _ h)) (by decide +kernel))
set_option maxRecDepth 20000 in
theorem gX0_squeeze_X0_checkRange : GoodIn wsX0_squeeze (va_wsS RX0 65 yX0_checkRange wsX0_checkRange) := goodIn_app (goodIn_of _ (by decide +kernel)) ggX0_squeeze_X0_checkRange
set_option maxRecDepth 20000 in
theorem ggX0_squeeze_X0_potRow : GoodIn wsX0_squeeze wsX0_potRow := goodIn_r _ [20] (by decide +kernel) (by decide +kernel)
set_option maxRecDepth 20000 in
theorem gX0_squeeze_X0_potRow : GoodIn wsX0_squeeze (va_wsS RX0 80 yX0_potRow wsX0_potRow) := goodIn_app (goodIn_of _ (by decide +kernel)) ggX0_squeeze_X0_potRow
set_option maxRecDepth 20000 in
theorem ggX0_squeeze_X0_place : GoodIn wsX0_squeeze wsX0_place := goodIn_r _ [23] (by decide +kernel) (by decide +kernel)
set_option maxRecDepth 20000 in
theorem gX0_squeeze_X0_place : GoodIn wsX0_squeeze (va_wsS RX0 84 yX0_place wsX0_place) := goodIn_app (goodIn_of _ (by decide +kernel)) ggX0_squeeze_X0_place
set_option maxRecDepth 20000 in
theorem ggX0_pour_X0_checkNumber : GoodIn wsX0_pour wsX0_checkNumber := goodIn_ca (goodIn_r _ [9, 10, 11] (by decide +kernel) (by decide +kernel)) (goodIn_sub (fun _ h => List.mem_cons_of_mem _ (List.mem_append_right _ h)) (by decide +kernel))
set_option maxRecDepth 20000 in
theorem gX0_pour_X0_checkNumber : GoodIn wsX0_pour (va_wsS RX0 61 yX0_checkNumber wsX0_checkNumber) := goodIn_app (goodIn_of _ (by decide +kernel)) ggX0_pour_X0_checkNumber
set_option maxRecDepth 20000 in
theorem ggX0_pour_X0_checkRange : GoodIn wsX0_pour wsX0_checkRange := goodIn_ca (goodIn_r _ [14, 1, 2] (by decide +kernel) (by decide +kernel)) (goodIn_sub (fun _ h => List.mem_cons_of_mem _ (List.mem_append_left _ (List.mem_append_left _ (List.mem_append_right _ h)))) (by decide +kernel))
set_option maxRecDepth 20000 in
theorem gX0_pour_X0_checkRange : GoodIn wsX0_pour (va_wsS RX0 65 yX0_checkRange wsX0_checkRange) := goodIn_app (goodIn_of _ (by decide +kernel)) ggX0_pour_X0_checkRange
set_option maxRecDepth 20000 in
theorem ggX0_pour_X0_potRow : GoodIn wsX0_pour wsX0_potRow := goodIn_r _ [17] (by decide +kernel) (by decide +kernel)
set_option maxRecDepth 20000 in
theorem gX0_pour_X0_potRow : GoodIn wsX0_pour (va_wsS RX0 80 yX0_potRow wsX0_potRow) := goodIn_app (goodIn_of _ (by decide +kernel)) ggX0_pour_X0_potRow
set_option maxRecDepth 20000 in
theorem ggX0_pour_X0_move : GoodIn wsX0_pour wsX0_move := goodIn_r _ [21, 22, 23, 24, 25, 26, 8, 27, 28, 29, 30, 31, 32, 33, 34, 35, 36, 37, 38, 39, 40, 41, 42, 43, 44, 45, 46, 47] (by decide +kernel) (by decide +kernel)
set_option maxRecDepth 20000 in
theorem gX0_pour_X0_move : GoodIn wsX0_pour (wsV RX0 93 RX0 yX0_move wsX0_move) := goodIn_app (goodIn_of _ (by decide +kernel)) ggX0_pour_X0_move
set_option maxRecDepth 20000 in
theorem ggX0_pour_X0_sumOfRow : GoodIn wsX0_pour wsX0_sumOfRow := goodIn_r _ [27, 22, 23, 28, 29, 8, 30, 31, 32, 33, 34, 35, 36, 37, 38, 39, 40, 41, 42, 43, 44, 45, 46, 47] (by decide +kernel) (by decide +kernel)
set_option maxRecDepth 20000 in
theorem gX0_pour_X0_sumOfRow : GoodIn wsX0_pour (wsV RX0 99 RX0 yX0_sumOfRow wsX0_sumOfRow) := goodIn_app (goodIn_of _ (by decide +kernel)) ggX0_pour_X0_sumOfRow
set_option maxRecDepth 20000 in
theorem ggX0_scrape_X0_checkNumber : GoodIn wsX0_scrape wsX0_checkNumber := goodIn_ca (goodIn_r _ [5, 6, 7] (by decide +kernel) (by decide +kernel)) (goodIn_sub (fun _ h => List.mem_cons_of_mem _ (List.mem_append_right _ h)) (by decide +kernel))
set_option maxRecDepth 20000 in
theorem gX0_scrape_X0_checkNumber : GoodIn wsX0_scrape (va_wsS RX0 61 yX0_checkNumber wsX0_checkNumber) := goodIn_app (goodIn_of _ (by decide +kernel)) ggX0_scrape_X0_checkNumber
set_option maxRecDepth 20000 in
theorem ggX0_scrape_X0_potRow : GoodIn wsX0_scrape wsX0_potRow := goodIn_r _ [10] (by decide +kernel) (by decide +kernel)
set_option maxRecDepth 20000 in
theorem gX0_scrape_X0_potRow : GoodIn wsX0_scrape (va_wsS RX0 80 yX0_potRow wsX0_potRow) := goodIn_app (goodIn_of _ (by decide +kernel)) ggX0_scrape_X0_potRow
set_option maxRecDepth 20000 in
theorem ggX0_scrape_X0_waste : GoodIn wsX0_scrape wsX0_waste := goodIn_r _ [14, 15, 16, 17, 18, 4, 19, 20, 21, 22, 23, 24, 25, 26, 27, 28, 29, 30, 31, 32, 33, 34, 35, 36] (by decide +kernel) (by decide +kernel)
set_option maxRecDepth 20000 in
theorem gX0_scrape_X0_waste : GoodIn wsX0_scrape (wsV RX0 102 RX0 yX0_waste wsX0_waste) := goodIn_app (goodIn_of _ (by decide +kernel)) ggX0_scrape_X0_waste
set_option maxRecDepth 20000 in
theorem ggX0_paint_X0_checkNumber : GoodIn wsX0_paint wsX0_checkNumber := goodIn_ca (goodIn_r _ [9, 10, 11] (by decide +kernel) (by decide +kernel)) (goodIn_sub (fun _ h => List.mem_cons_of_mem _ (List.mem_append_left _ (List.mem_append_right _ h))) (by decide +kernel))
set_option maxRecDepth 20000 in
theorem gX0_paint_X0_checkNumber : GoodIn wsX0_paint (va_wsS RX0 61 yX0_checkNumber wsX0_checkNumber) := goodIn_app (goodIn_of _ (by decide +kernel)) ggX0_paint_X0_checkNumber
set_option maxRecDepth 20000 in
theorem ggX0_paint_X0_checkRange : GoodIn wsX0_paint wsX0_checkRange := goodIn_ca (goodIn_r _ [14, 15, 16] (by decide +kernel) (by decide +kernel)) (goodIn_sub (fun _ h => List.mem_cons_of_mem _ (List.mem_append_right _ h)) (by decide +kernel))
set_option maxRecDepth 20000 in
theorem gX0_paint_X0_checkRange : GoodIn wsX0_paint (va_wsS RX0 65 yX0_checkRange wsX0_checkRange) := goodIn_app (goodIn_of _ (by decide +kernel)) ggX0_paint_X0_checkRange
set_option maxRecDepth 20000 in
theorem ggX0_paint_X0_checkAtHome : GoodIn wsX0_paint wsX0_checkAtHome := goodIn_ca (goodIn_r _ [20, 1, 2, 21, 22, 23, 8, 24, 25, 45, 46, 47, 48, 49, 50, 51, 52, 53, 54, 55, 56, 57, 58, 59, 60, 61] (by decide +kernel) (by decide +kernel)) (goodIn_sub (fun _ h => List.mem_cons_of_mem _ (List.mem_append_left _ (List.mem_append_left _ (List.mem_append_right _ h)))) (by decide +kernel))
set_option maxRecDepth 20000 in
theorem gX0_paint_X0_checkAtHome : GoodIn wsX0_paint (wsV RX0 110 RX0 yX0_checkAtHome wsX0_checkAtHome) := goodIn_app (goodIn_of _ (by decide +kernel)) ggX0_paint_X0_checkAtHome
set_option maxRecDepth 20000 in
theorem ggX0_paint_X0_potRow : GoodIn wsX0_paint wsX0_potRow := goodIn_r _ [28] (by decide +kernel) (by decide +kernel)
set_option maxRecDepth 20000 in
theorem gX0_paint_X0_potRow : GoodIn wsX0_paint (va_wsS RX0 80 yX0_potRow wsX0_potRow) := goodIn_app (goodIn_of _ (by decide +kernel)) ggX0_paint_X0_potRow
set_option maxRecDepth 20000 in
theorem ggX0_paint_X0_layerRow : GoodIn wsX0_paint wsX0_layerRow := goodIn_r _ [31] (by decide +kernel) (by decide +kernel)
set_option maxRecDepth 20000 in
theorem gX0_paint_X0_layerRow : GoodIn wsX0_paint (va_wsS RX0 116 yX0_layerRow wsX0_layerRow) := goodIn_app (goodIn_of _ (by decide +kernel)) ggX0_paint_X0_layerRow
set_option maxRecDepth 20000 in
theorem ggX0_paint_X0_move : GoodIn wsX0_paint wsX0_move := goodIn_r _ [35, 36, 37, 38, 39, 40, 8, 41, 42, 43, 44, 45, 46, 47, 48, 49, 50, 51, 52, 53, 54, 55, 56, 57, 58, 59, 60, 61] (by decide +kernel) (by decide +kernel)
set_option maxRecDepth 20000 in
theorem gX0_paint_X0_move : GoodIn wsX0_paint (wsV RX0 93 RX0 yX0_move wsX0_move) := goodIn_app (goodIn_of _ (by decide +kernel)) ggX0_paint_X0_move
set_option maxRecDepth 20000 in
theorem ggX0_clean_X0_checkNumber : GoodIn wsX0_clean wsX0_checkNumber := goodIn_ca (goodIn_r _ [8, 9, 10] (by decide +kernel) (by decide +kernel)) (goodIn_sub (fun _ h => List.mem_cons_of_mem _ (List.mem_append_left _ (List.mem_append_right _ h))) (by decide +kernel))
set_option maxRecDepth 20000 in
theorem gX0_clean_X0_checkNumber : GoodIn wsX0_clean (va_wsS RX0 61 yX0_checkNumber wsX0_checkNumber) := goodIn_app (goodIn_of _ (by decide +kernel)) ggX0_clean_X0_checkNumber
set_option maxRecDepth 20000 in
theorem ggX0_clean_X0_checkRange : GoodIn wsX0_clean wsX0_checkRange := goodIn_ca (goodIn_r _ [13, 14, 15] (by decide +kernel) (by decide +kernel)) (goodIn_sub (fun _ h => List.mem_cons_of_mem _ (List.mem_append_right _ h)) (by decide +kernel))
set_option maxRecDepth 20000 in
theorem gX0_clean_X0_checkRange : GoodIn wsX0_clean (va_wsS RX0 65 yX0_checkRange wsX0_checkRange) := goodIn_app (goodIn_of _ (by decide +kernel)) ggX0_clean_X0_checkRange
set_option maxRecDepth 20000 in
theorem ggX0_clean_X0_checkAtHome : GoodIn wsX0_clean wsX0_checkAtHome := goodIn_ca (goodIn_r _ [19, 1, 2, 20, 21, 22, 7, 23, 24, 37, 38, 39, 40, 41, 42, 43, 44, 45, 46, 47, 48, 49, 50, 51, 52, 53] (by decide +kernel) (by decide +kernel)) (goodIn_sub (fun _ h => List.mem_cons_of_mem _ (List.mem_append_left _ (List.mem_append_left _ (List.mem_append_right _ h)))) (by decide +kernel))
set_option maxRecDepth 20000 in
theorem gX0_clean_X0_checkAtHome : GoodIn wsX0_clean (wsV RX0 110 RX0 yX0_checkAtHome wsX0_checkAtHome) := goodIn_app (goodIn_of _ (by decide +kernel)) ggX0_clean_X0_checkAtHome
set_option maxRecDepth 20000 in
theorem ggX0_clean_X0_layerRow : GoodIn wsX0_clean wsX0_layerRow := goodIn_r _ [27] (by decide +kernel) (by decide +kernel)
set_option maxRecDepth 20000 in
theorem gX0_clean_X0_layerRow : GoodIn wsX0_clean (va_wsS RX0 116 yX0_layerRow wsX0_layerRow) := goodIn_app (goodIn_of _ (by decide +kernel)) ggX0_clean_X0_layerRow
set_option maxRecDepth 20000 in
theorem ggX0_clean_X0_waste : GoodIn wsX0_clean wsX0_waste := goodIn_r _ [31, 32, 33, 34, 35, 7, 36, 37, 38, 39, 40, 41, 42, 43, 44, 45, 46, 47, 48, 49, 50, 51, 52, 53] (by decide +kernel) (by decide +kernel)
set_option maxRecDepth 20000 in
theorem gX0_clean_X0_waste : GoodIn wsX0_clean (wsV RX0 102 RX0 yX0_waste wsX0_waste) := goodIn_app (goodIn_of _ (by decide +kernel)) ggX0_clean_X0_waste
set_option maxRecDepth 20000 in
theorem ggX0_damp_X0_checkNumber : GoodIn wsX0_damp wsX0_checkNumber := goodIn_ca (goodIn_r _ [5, 6, 7] (by decide +kernel) (by decide +kernel)) (goodIn_sub (fun _ h => List.mem_cons_of_mem _ (List.mem_append_left _ (List.mem_append_right _ h))) (by decide +kernel))
set_option maxRecDepth 20000 in
theorem gX0_damp_X0_checkNumber : GoodIn wsX0_damp (va_wsS RX0 61 yX0_checkNumber wsX0_checkNumber) := goodIn_app (goodIn_of _ (by decide +kernel)) ggX0_damp_X0_checkNumber
set_option maxRecDepth 20000 in
theorem ggX0_damp_X0_checkRange : GoodIn wsX0_damp wsX0_checkRange := goodIn_ca (goodIn_r _ [10, 11, 12] (by decide +kernel) (by decide +kernel)) (goodIn_sub (fun _ h => List.mem_cons_of_mem _ (List.mem_append_right _ h)) (by decide +kernel))
set_option maxRecDepth 20000 in
theorem gX0_damp_X0_checkRange : GoodIn wsX0_damp (va_wsS RX0 65 yX0_checkRange wsX0_checkRange) := goodIn_app (goodIn_of _ (by decide +kernel)) ggX0_damp_X0_checkRange
set_option maxRecDepth 20000 in
theorem ggX0_lend_X0_checkNumber : GoodIn wsX0_lend wsX0_checkNumber := goodIn_ca (goodIn_r _ [11, 12, 13] (by decide +kernel) (by decide +kernel)) (goodIn_sub (fun _ h => List.mem_cons_of_mem _ (List.mem_append_left _ (List.mem_append_right _ h))) (by decide +kernel))
set_option maxRecDepth 20000 in
theorem gX0_lend_X0_checkNumber : GoodIn wsX0_lend (va_wsS RX0 61 yX0_checkNumber wsX0_checkNumber) := goodIn_app (goodIn_of _ (by decide +kernel)) ggX0_lend_X0_checkNumber
set_option maxRecDepth 20000 in
theorem ggX0_lend_X0_checkRange : GoodIn wsX0_lend wsX0_checkRange := goodIn_ca (goodIn_r _ [16, 17, 18] (by decide +kernel) (by decide +kernel)) (goodIn_sub (fun _ h => List.mem_cons_of_mem _ (List.mem_append_right _ h)) (by decide +kernel))
set_option maxRecDepth 20000 in
theorem gX0_lend_X0_checkRange : GoodIn wsX0_lend (va_wsS RX0 65 yX0_checkRange wsX0_checkRange) := goodIn_app (goodIn_of _ (by decide +kernel)) ggX0_lend_X0_checkRange
set_option maxRecDepth 20000 in
theorem ggX0_lend_X0_checkAtHome : GoodIn wsX0_lend wsX0_checkAtHome := goodIn_ca (goodIn_r _ [22, 1, 2, 23, 24, 25, 10, 26, 7, 63, 64, 65, 66, 67, 68, 69, 70, 71, 72, 73, 74, 75, 76, 77, 78, 79] (by decide +kernel) (by decide +kernel)) (goodIn_sub (fun _ h => List.mem_cons_of_mem _ (List.mem_append_left _ (List.mem_append_left _ (List.mem_append_right _ h)))) (by decide +kernel))
set_option maxRecDepth 20000 in
theorem gX0_lend_X0_checkAtHome : GoodIn wsX0_lend (wsV RX0 110 RX0 yX0_checkAtHome wsX0_checkAtHome) := goodIn_app (goodIn_of _ (by decide +kernel)) ggX0_lend_X0_checkAtHome
set_option maxRecDepth 20000 in
theorem ggX0_lend_X0_valueOf : GoodIn wsX0_lend wsX0_valueOf := goodIn_r _ [30, 4, 31, 32, 33, 34, 35, 36, 37, 10, 38, 3, 39, 40, 41, 42, 43, 44, 45, 46, 47, 48, 49, 50, 51, 52, 53, 54, 55, 56, 57, 58, 59, 60, 61, 62, 63, 64, 65, 66, 67, 68, 69, 70, 71, 72, 73, 74, 75, 76, 77, 78, 79] (by decide +kernel) (by decide +kernel)
set_option maxRecDepth 20000 in
theorem gX0_lend_X0_valueOf : GoodIn wsX0_lend (wsV RX0 123 RX0 yX0_valueOf wsX0_valueOf) := goodIn_app (goodIn_of _ (by decide +kernel)) ggX0_lend_X0_valueOf
set_option maxRecDepth 20000 in
theorem ggX0_sell_X0_checkNumber : GoodIn wsX0_sell wsX0_checkNumber := goodIn_ca (goodIn_r _ [10, 11, 12] (by decide +kernel) (by decide +kernel)) (goodIn_sub (fun _ h => List.mem_cons_of_mem _ (List.mem_append_left _ (List.mem_append_right _ h))) (by decide +kernel))
set_option maxRecDepth 20000 in
theorem gX0_sell_X0_checkNumber : GoodIn wsX0_sell (va_wsS RX0 61 yX0_checkNumber wsX0_checkNumber) := goodIn_app (goodIn_of _ (by decide +kernel)) ggX0_sell_X0_checkNumber
set_option maxRecDepth 20000 in
theorem ggX0_sell_X0_checkRange : GoodIn wsX0_sell wsX0_checkRange := goodIn_ca (goodIn_r _ [15, 16, 17] (by decide +kernel) (by decide +kernel)) (goodIn_sub (fun _ h => List.mem_cons_of_mem _ (List.mem_append_right _ h)) (by decide +kernel))
set_option maxRecDepth 20000 in
theorem gX0_sell_X0_checkRange : GoodIn wsX0_sell (va_wsS RX0 65 yX0_checkRange wsX0_checkRange) := goodIn_app (goodIn_of _ (by decide +kernel)) ggX0_sell_X0_checkRange
set_option maxRecDepth 20000 in
theorem ggX0_sell_X0_checkAtHome : GoodIn wsX0_sell wsX0_checkAtHome := goodIn_ca (goodIn_r _ [21, 1, 2, 22, 23, 24, 9, 25, 26, 62, 63, 64, 65, 66, 67, 68, 69, 70, 71, 72, 73, 74, 75, 76, 77, 78] (by decide +kernel) (by decide +kernel)) (goodIn_sub (fun _ h => List.mem_cons_of_mem _ (List.mem_append_left _ (List.mem_append_left _ (List.mem_append_right _ h)))) (by decide +kernel))
set_option maxRecDepth 20000 in
theorem gX0_sell_X0_checkAtHome : GoodIn wsX0_sell (wsV RX0 110 RX0 yX0_checkAtHome wsX0_checkAtHome) := goodIn_app (goodIn_of _ (by decide +kernel)) ggX0_sell_X0_checkAtHome
set_option maxRecDepth 20000 in
theorem ggX0_sell_X0_valueOf : GoodIn wsX0_sell wsX0_valueOf := goodIn_r _ [30, 31, 32, 33, 34, 35, 36, 37, 38, 9, 39, 3, 6, 40, 41, 42, 43, 5, 44, 45, 46, 47, 48, 49, 50, 51, 52, 53, 54, 55, 56, 57, 58, 59, 60, 61, 62, 63, 64, 65, 66, 67, 68, 69, 70, 71, 72, 73, 74, 75, 76, 77, 78] (by decide +kernel) (by decide +kernel)
set_option maxRecDepth 20000 in
theorem gX0_sell_X0_valueOf : GoodIn wsX0_sell (wsV RX0 123 RX0 yX0_valueOf wsX0_valueOf) := goodIn_app (goodIn_of _ (by decide +kernel)) ggX0_sell_X0_valueOf
set_option maxRecDepth 20000 in
theorem ggX0_pass_X0_checkRange : GoodIn wsX0_pass wsX0_checkRange := goodIn_ca (goodIn_r _ [8, 9, 10] (by decide +kernel) (by decide +kernel)) (goodIn_sub (fun _ h => List.mem_cons_of_mem _ (List.mem_append_right _ h)) (by decide +kernel))
set_option maxRecDepth 20000 in
theorem gX0_pass_X0_checkRange : GoodIn wsX0_pass (va_wsS RX0 65 yX0_checkRange wsX0_checkRange) := goodIn_app (goodIn_of _ (by decide +kernel)) ggX0_pass_X0_checkRange
set_option maxRecDepth 20000 in
theorem ggX0_pass_X0_passForLoan : GoodIn wsX0_pass wsX0_passForLoan := goodIn_r _ [14, 15, 16, 17, 18, 19, 20, 21, 22, 23, 24, 25, 26, 27, 28, 29, 30, 31, 32, 33, 34, 35, 36, 37, 38, 39, 40, 41, 42, 43, 44] (by decide +kernel) (by decide +kernel)
set_option maxRecDepth 20000 in
theorem gX0_pass_X0_passForLoan : GoodIn wsX0_pass (wsV RX0 134 RX0 yX0_passForLoan wsX0_passForLoan) := goodIn_app (goodIn_of _ (by decide +kernel)) ggX0_pass_X0_passForLoan
set_option maxRecDepth 20000 in
theorem ggX0_left_X0_checkNumber : GoodIn wsX0_left wsX0_checkNumber := goodIn_ca (goodIn_r _ [6, 7, 8] (by decide +kernel) (by decide +kernel)) (goodIn_sub (fun _ h => List.mem_cons_of_mem _ (List.mem_append_right _ h)) (by decide +kernel))
set_option maxRecDepth 20000 in
theorem gX0_left_X0_checkNumber : GoodIn wsX0_left (va_wsS RX0 61 yX0_checkNumber wsX0_checkNumber) := goodIn_app (goodIn_of _ (by decide +kernel)) ggX0_left_X0_checkNumber
set_option maxRecDepth 20000 in
theorem ggX0_has_X0_checkNumber : GoodIn wsX0_has wsX0_checkNumber := goodIn_ca (goodIn_r _ [7, 8, 9] (by decide +kernel) (by decide +kernel)) (goodIn_sub (fun _ h => List.mem_cons_of_mem _ (List.mem_append_right _ h)) (by decide +kernel))
set_option maxRecDepth 20000 in
theorem gX0_has_X0_checkNumber : GoodIn wsX0_has (va_wsS RX0 61 yX0_checkNumber wsX0_checkNumber) := goodIn_app (goodIn_of _ (by decide +kernel)) ggX0_has_X0_checkNumber
set_option maxRecDepth 20000 in
theorem ggX0_has_X0_potRow : GoodIn wsX0_has wsX0_potRow := goodIn_r _ [12] (by decide +kernel) (by decide +kernel)
set_option maxRecDepth 20000 in
theorem gX0_has_X0_potRow : GoodIn wsX0_has (va_wsS RX0 80 yX0_potRow wsX0_potRow) := goodIn_app (goodIn_of _ (by decide +kernel)) ggX0_has_X0_potRow
set_option maxRecDepth 20000 in
theorem ggX0_has_X0_sumOfRow : GoodIn wsX0_has wsX0_sumOfRow := goodIn_r _ [16, 2, 3, 17, 18, 6, 19, 20, 21, 22, 23, 24, 25, 26, 27, 28, 29, 30, 31, 32, 33, 34, 35, 36] (by decide +kernel) (by decide +kernel)
set_option maxRecDepth 20000 in
theorem gX0_has_X0_sumOfRow : GoodIn wsX0_has (wsV RX0 99 RX0 yX0_sumOfRow wsX0_sumOfRow) := goodIn_app (goodIn_of _ (by decide +kernel)) ggX0_has_X0_sumOfRow
set_option maxRecDepth 20000 in
theorem ggX0_has_X0_place : GoodIn wsX0_has wsX0_place := goodIn_r _ [19] (by decide +kernel) (by decide +kernel)
set_option maxRecDepth 20000 in
theorem gX0_has_X0_place : GoodIn wsX0_has (va_wsS RX0 84 yX0_place wsX0_place) := goodIn_app (goodIn_of _ (by decide +kernel)) ggX0_has_X0_place
set_option maxRecDepth 20000 in
theorem ggX0_colour_X0_checkNumber : GoodIn wsX0_colour wsX0_checkNumber := goodIn_ca (goodIn_r _ [5, 6, 7] (by decide +kernel) (by decide +kernel)) (goodIn_sub (fun _ h => List.mem_cons_of_mem _ (List.mem_append_left _ (List.mem_append_right _ h))) (by decide +kernel))
set_option maxRecDepth 20000 in
theorem gX0_colour_X0_checkNumber : GoodIn wsX0_colour (va_wsS RX0 61 yX0_checkNumber wsX0_checkNumber) := goodIn_app (goodIn_of _ (by decide +kernel)) ggX0_colour_X0_checkNumber
set_option maxRecDepth 20000 in
theorem ggX0_colour_X0_checkRange : GoodIn wsX0_colour wsX0_checkRange := goodIn_ca (goodIn_r _ [10, 11, 12] (by decide +kernel) (by decide +kernel)) (goodIn_sub (fun _ h => List.mem_cons_of_mem _ (List.mem_append_right _ h)) (by decide +kernel))
set_option maxRecDepth 20000 in
theorem gX0_colour_X0_checkRange : GoodIn wsX0_colour (va_wsS RX0 65 yX0_checkRange wsX0_checkRange) := goodIn_app (goodIn_of _ (by decide +kernel)) ggX0_colour_X0_checkRange
set_option maxRecDepth 20000 in
theorem ggX0_colour_X0_potRow : GoodIn wsX0_colour wsX0_potRow := goodIn_r _ [15] (by decide +kernel) (by decide +kernel)
set_option maxRecDepth 20000 in
theorem gX0_colour_X0_potRow : GoodIn wsX0_colour (va_wsS RX0 80 yX0_potRow wsX0_potRow) := goodIn_app (goodIn_of _ (by decide +kernel)) ggX0_colour_X0_potRow
set_option maxRecDepth 20000 in
theorem ggX0_colour_X0_colourOfRow : GoodIn wsX0_colour wsX0_colourOfRow := goodIn_r _ [19, 20, 21, 22, 23, 4, 24, 25, 26, 27, 28, 29, 30, 31, 32, 33, 34, 35, 36, 37, 38, 39, 40, 41, 42, 43, 44, 45, 46, 47] (by decide +kernel) (by decide +kernel)
set_option maxRecDepth 20000 in
theorem gX0_colour_X0_colourOfRow : GoodIn wsX0_colour (wsV RX0 137 RX0 yX0_colourOfRow wsX0_colourOfRow) := goodIn_app (goodIn_of _ (by decide +kernel)) ggX0_colour_X0_colourOfRow
set_option maxRecDepth 20000 in
theorem ggX0_of_X0_checkNumber : GoodIn wsX0_of wsX0_checkNumber := goodIn_ca (goodIn_r _ [9, 10, 11] (by decide +kernel) (by decide +kernel)) (goodIn_sub (fun _ h => List.mem_cons_of_mem _ (List.mem_append_left _ (List.mem_append_right _ h))) (by decide +kernel))
set_option maxRecDepth 20000 in
theorem gX0_of_X0_checkNumber : GoodIn wsX0_of (va_wsS RX0 61 yX0_checkNumber wsX0_checkNumber) := goodIn_app (goodIn_of _ (by decide +kernel)) ggX0_of_X0_checkNumber
set_option maxRecDepth 20000 in
theorem ggX0_of_X0_checkRange : GoodIn wsX0_of wsX0_checkRange := goodIn_ca (goodIn_r _ [14, 15, 16] (by decide +kernel) (by decide +kernel)) (goodIn_sub (fun _ h => List.mem_cons_of_mem _ (List.mem_append_right _ h)) (by decide +kernel))
set_option maxRecDepth 20000 in
theorem gX0_of_X0_checkRange : GoodIn wsX0_of (va_wsS RX0 65 yX0_checkRange wsX0_checkRange) := goodIn_app (goodIn_of _ (by decide +kernel)) ggX0_of_X0_checkRange
set_option maxRecDepth 20000 in
theorem ggX0_of_X0_valueOf : GoodIn wsX0_of wsX0_valueOf := goodIn_r _ [20, 3, 21, 22, 23, 24, 25, 26, 27, 8, 28, 1, 29, 30, 31, 32, 33, 2, 34, 35, 36, 37, 38, 39, 40, 41, 42, 43, 44, 45, 46, 47, 48, 49, 50, 51, 69, 70, 71, 72, 73, 74, 75, 76, 77, 78, 79, 80, 81, 82, 83, 84, 85] (by decide +kernel) (by decide +kernel)
set_option maxRecDepth 20000 in
theorem gX0_of_X0_valueOf : GoodIn wsX0_of (wsV RX0 123 RX0 yX0_valueOf wsX0_valueOf) := goodIn_app (goodIn_of _ (by decide +kernel)) ggX0_of_X0_valueOf
set_option maxRecDepth 20000 in
theorem ggX0_of_X0_mainPigmentOf : GoodIn wsX0_of wsX0_mainPigmentOf := goodIn_r _ [33, 2, 34, 35, 8, 36, 37, 38, 39, 40, 41, 42, 43, 44, 45, 46, 47, 48, 49, 50, 51, 69, 70, 71, 72, 73, 74, 75, 76, 77, 78, 79, 80, 81, 82, 83, 84, 85] (by decide +kernel) (by decide +kernel)
set_option maxRecDepth 20000 in
theorem gX0_of_X0_mainPigmentOf : GoodIn wsX0_of (wsV RX0 140 RX0 yX0_mainPigmentOf wsX0_mainPigmentOf) := goodIn_app (goodIn_of _ (by decide +kernel)) ggX0_of_X0_mainPigmentOf
set_option maxRecDepth 20000 in
theorem ggX0_of_X0_isLent : GoodIn wsX0_of wsX0_isLent := goodIn_r _ [55, 5, 69, 70, 71, 72, 73, 74, 75, 76, 77, 78, 79, 80, 81, 82, 83, 84, 85] (by decide +kernel) (by decide +kernel)
set_option maxRecDepth 20000 in
theorem gX0_of_X0_isLent : GoodIn wsX0_of (wsV RX0 143 RX0 yX0_isLent wsX0_isLent) := goodIn_app (goodIn_of _ (by decide +kernel)) ggX0_of_X0_isLent
set_option maxRecDepth 20000 in
theorem ggX0_of_X0_lookOf : GoodIn wsX0_of wsX0_lookOf := goodIn_r _ [59, 2, 34, 35, 8, 36, 60, 61, 62, 63, 46, 48, 49, 50, 51, 64, 65, 66, 67, 68, 47, 69, 70, 71, 72, 73, 74, 75, 76, 77, 78, 79, 80, 81, 82, 83, 84, 85] (by decide +kernel) (by decide +kernel)
set_option maxRecDepth 20000 in
theorem gX0_of_X0_lookOf : GoodIn wsX0_of (wsV RX0 147 RX0 yX0_lookOf wsX0_lookOf) := goodIn_app (goodIn_of _ (by decide +kernel)) ggX0_of_X0_lookOf
set_option maxRecDepth 20000 in
theorem ggX0_layer_X0_checkNumber : GoodIn wsX0_layer wsX0_checkNumber := goodIn_ca (goodIn_r _ [8, 9, 10] (by decide +kernel) (by decide +kernel)) (goodIn_sub (fun _ h => List.mem_cons_of_mem _ (List.mem_append_right _ h)) (by decide +kernel))
set_option maxRecDepth 20000 in
theorem gX0_layer_X0_checkNumber : GoodIn wsX0_layer (va_wsS RX0 61 yX0_checkNumber wsX0_checkNumber) := goodIn_app (goodIn_of _ (by decide +kernel)) ggX0_layer_X0_checkNumber
set_option maxRecDepth 20000 in
theorem ggX0_layer_X0_layerRow : GoodIn wsX0_layer wsX0_layerRow := goodIn_r _ [13] (by decide +kernel) (by decide +kernel)
set_option maxRecDepth 20000 in
theorem gX0_layer_X0_layerRow : GoodIn wsX0_layer (va_wsS RX0 116 yX0_layerRow wsX0_layerRow) := goodIn_app (goodIn_of _ (by decide +kernel)) ggX0_layer_X0_layerRow
set_option maxRecDepth 20000 in
theorem ggX0_layer_X0_place : GoodIn wsX0_layer wsX0_place := goodIn_r _ [16] (by decide +kernel) (by decide +kernel)
set_option maxRecDepth 20000 in
theorem gX0_layer_X0_place : GoodIn wsX0_layer (va_wsS RX0 84 yX0_place wsX0_place) := goodIn_app (goodIn_of _ (by decide +kernel)) ggX0_layer_X0_place
set_option maxRecDepth 20000 in
theorem ggX0_where_X0_checkNumber : GoodIn wsX0_where wsX0_checkNumber := goodIn_ca (goodIn_r _ [6, 7, 8] (by decide +kernel) (by decide +kernel)) (goodIn_sub (fun _ h => List.mem_cons_of_mem _ (List.mem_append_left _ (List.mem_append_right _ h))) (by decide +kernel))
set_option maxRecDepth 20000 in
theorem gX0_where_X0_checkNumber : GoodIn wsX0_where (va_wsS RX0 61 yX0_checkNumber wsX0_checkNumber) := goodIn_app (goodIn_of _ (by decide +kernel)) ggX0_where_X0_checkNumber
set_option maxRecDepth 20000 in
theorem ggX0_where_X0_checkRange : GoodIn wsX0_where wsX0_checkRange := goodIn_ca (goodIn_r _ [11, 12, 13] (by decide +kernel) (by decide +kernel)) (goodIn_sub (fun _ h => List.mem_cons_of_mem _ (List.mem_append_right _ h)) (by decide +kernel))
set_option maxRecDepth 20000 in
theorem gX0_where_X0_checkRange : GoodIn wsX0_where (va_wsS RX0 65 yX0_checkRange wsX0_checkRange) := goodIn_app (goodIn_of _ (by decide +kernel)) ggX0_where_X0_checkRange
set_option maxRecDepth 20000 in
theorem ggX0_where_X0_sumOfTube : GoodIn wsX0_where wsX0_sumOfTube := goodIn_r _ [17, 18, 19, 20, 5, 21, 22, 23, 24, 25, 26, 27, 28, 29, 30, 31, 32, 33, 34, 35, 36, 37, 38] (by decide +kernel) (by decide +kernel)
set_option maxRecDepth 20000 in
theorem gX0_where_X0_sumOfTube : GoodIn wsX0_where (wsV RX0 150 RX0 yX0_sumOfTube wsX0_sumOfTube) := goodIn_app (goodIn_of _ (by decide +kernel)) ggX0_where_X0_sumOfTube
set_option maxRecDepth 20000 in
theorem ggX0_recipe_X0_checkColour : GoodIn wsX0_recipe wsX0_checkColour := goodIn_ca (goodIn_r _ [6, 7, 8, 5, 9, 10, 11] (by decide +kernel) (by decide +kernel)) (goodIn_sub (fun _ h => List.mem_cons_of_mem _ (List.mem_append_right _ h)) (by decide +kernel))
set_option maxRecDepth 20000 in
theorem gX0_recipe_X0_checkColour : GoodIn wsX0_recipe (va_wsS RX0 46 yX0_checkColour wsX0_checkColour) := goodIn_app (goodIn_of _ (by decide +kernel)) ggX0_recipe_X0_checkColour
set_option maxRecDepth 20000 in
theorem ggX0_recipe_X0_mixed : GoodIn wsX0_recipe wsX0_mixed := goodIn_r _ [15, 16, 17, 18, 5, 19, 20, 21, 25, 26, 27, 28, 29, 30, 31, 32, 33, 34, 35, 36, 37, 38, 39, 40, 41] (by decide +kernel) (by decide +kernel)
set_option maxRecDepth 20000 in
theorem gX0_recipe_X0_mixed : GoodIn wsX0_recipe (wsV RX0 154 RX0 yX0_mixed wsX0_mixed) := goodIn_app (goodIn_of _ (by decide +kernel)) ggX0_recipe_X0_mixed
set_option maxRecDepth 20000 in
theorem ggX0_recipe_X0_square : GoodIn wsX0_recipe wsX0_square := goodIn_r _ [24] (by decide +kernel) (by decide +kernel)
set_option maxRecDepth 20000 in
theorem gX0_recipe_X0_square : GoodIn wsX0_recipe (va_wsS RX0 158 yX0_square wsX0_square) := goodIn_app (goodIn_of _ (by decide +kernel)) ggX0_recipe_X0_square
set_option maxRecDepth 20000 in
theorem ggX0_paid_X0_checkNumber : GoodIn wsX0_paid wsX0_checkNumber := goodIn_ca (goodIn_r _ [5, 6, 7] (by decide +kernel) (by decide +kernel)) (goodIn_sub (fun _ h => List.mem_cons_of_mem _ (List.mem_append_right _ h)) (by decide +kernel))
set_option maxRecDepth 20000 in
theorem gX0_paid_X0_checkNumber : GoodIn wsX0_paid (va_wsS RX0 61 yX0_checkNumber wsX0_checkNumber) := goodIn_app (goodIn_of _ (by decide +kernel)) ggX0_paid_X0_checkNumber
set_option maxRecDepth 20000 in
theorem ggX0_checkColour_X0_checkRange : GoodIn wsX0_checkColour wsX0_checkRange := goodIn_ca (goodIn_r _ [4, 5, 6] (by decide +kernel) (by decide +kernel)) (goodIn_sub (fun _ h => List.mem_cons_of_mem _ (List.mem_append_right _ h)) (by decide +kernel))
set_option maxRecDepth 20000 in
theorem gX0_checkColour_X0_checkRange : GoodIn wsX0_checkColour (va_wsS RX0 65 yX0_checkRange wsX0_checkRange) := goodIn_app (goodIn_of _ (by decide +kernel)) ggX0_checkColour_X0_checkRange
set_option maxRecDepth 20000 in
theorem ggX0_checkAtHome_X0_isLent : GoodIn wsX0_checkAtHome wsX0_isLent := goodIn_r _ [7, 8, 9, 10, 11, 12, 13, 14, 15, 16, 17, 18, 19, 20, 21, 22, 23, 24, 25] (by decide +kernel) (by decide +kernel)
set_option maxRecDepth 20000 in
theorem gX0_checkAtHome_X0_isLent : GoodIn wsX0_checkAtHome (wsV RX0 143 RX0 yX0_isLent wsX0_isLent) := goodIn_app (goodIn_of _ (by decide +kernel)) ggX0_checkAtHome_X0_isLent
set_option maxRecDepth 20000 in
theorem ggX0_sumOfRow_X0_place : GoodIn wsX0_sumOfRow wsX0_place := goodIn_r _ [6] (by decide +kernel) (by decide +kernel)
set_option maxRecDepth 20000 in
theorem gX0_sumOfRow_X0_place : GoodIn wsX0_sumOfRow (va_wsS RX0 84 yX0_place wsX0_place) := goodIn_app (goodIn_of _ (by decide +kernel)) ggX0_sumOfRow_X0_place
set_option maxRecDepth 20000 in
theorem ggX0_sumOfTube_X0_place : GoodIn wsX0_sumOfTube wsX0_place := goodIn_r _ [5] (by decide +kernel) (by decide +kernel)
set_option maxRecDepth 20000 in
theorem gX0_sumOfTube_X0_place : GoodIn wsX0_sumOfTube (va_wsS RX0 84 yX0_place wsX0_place) := goodIn_app (goodIn_of _ (by decide +kernel)) ggX0_sumOfTube_X0_place
set_option maxRecDepth 20000 in
theorem ggX0_move_X0_sumOfRow : GoodIn wsX0_move wsX0_sumOfRow := goodIn_r _ [7, 1, 2, 8, 9, 6, 10, 11, 12, 13, 14, 15, 16, 17, 18, 19, 20, 21, 22, 23, 24, 25, 26, 27] (by decide +kernel) (by decide +kernel)
set_option maxRecDepth 20000 in
theorem gX0_move_X0_sumOfRow : GoodIn wsX0_move (wsV RX0 99 RX0 yX0_sumOfRow wsX0_sumOfRow) := goodIn_app (goodIn_of _ (by decide +kernel)) ggX0_move_X0_sumOfRow
set_option maxRecDepth 20000 in
theorem ggX0_move_X0_place : GoodIn wsX0_move wsX0_place := goodIn_r _ [10] (by decide +kernel) (by decide +kernel)
set_option maxRecDepth 20000 in
theorem gX0_move_X0_place : GoodIn wsX0_move (va_wsS RX0 84 yX0_place wsX0_place) := goodIn_app (goodIn_of _ (by decide +kernel)) ggX0_move_X0_place
set_option maxRecDepth 20000 in
theorem ggX0_waste_X0_place : GoodIn wsX0_waste wsX0_place := goodIn_r _ [6] (by decide +kernel) (by decide +kernel)
set_option maxRecDepth 20000 in
theorem gX0_waste_X0_place : GoodIn wsX0_waste (va_wsS RX0 84 yX0_place wsX0_place) := goodIn_app (goodIn_of _ (by decide +kernel)) ggX0_waste_X0_place
set_option maxRecDepth 20000 in
theorem ggX0_colourOfRow_X0_place : GoodIn wsX0_colourOfRow wsX0_place := goodIn_r _ [6] (by decide +kernel) (by decide +kernel)
set_option maxRecDepth 20000 in
theorem gX0_colourOfRow_X0_place : GoodIn wsX0_colourOfRow (va_wsS RX0 84 yX0_place wsX0_place) := goodIn_app (goodIn_of _ (by decide +kernel)) ggX0_colourOfRow_X0_place
set_option maxRecDepth 20000 in
theorem ggX0_colourOfRow_X0_colourOfTube : GoodIn wsX0_colourOfRow wsX0_colourOfTube := goodIn_r _ [10, 11, 12, 13, 14, 15, 16, 17, 18, 19, 20, 21, 22, 23, 24, 25, 26, 27, 28, 29] (by decide +kernel) (by decide +kernel)
set_option maxRecDepth 20000 in
theorem gX0_colourOfRow_X0_colourOfTube : GoodIn wsX0_colourOfRow (wsV RX0 170 RX0 yX0_colourOfTube wsX0_colourOfTube) := goodIn_app (goodIn_of _ (by decide +kernel)) ggX0_colourOfRow_X0_colourOfTube
set_option maxRecDepth 20000 in
theorem ggX0_gramsOfPigment_X0_place : GoodIn wsX0_gramsOfPigment wsX0_place := goodIn_r _ [7] (by decide +kernel) (by decide +kernel)
set_option maxRecDepth 20000 in
theorem gX0_gramsOfPigment_X0_place : GoodIn wsX0_gramsOfPigment (va_wsS RX0 84 yX0_place wsX0_place) := goodIn_app (goodIn_of _ (by decide +kernel)) ggX0_gramsOfPigment_X0_place
set_option maxRecDepth 20000 in
theorem ggX0_mainPigmentOfRow_X0_gramsOfPigment : GoodIn wsX0_mainPigmentOfRow wsX0_gramsOfPigment := goodIn_r _ [6, 7, 8, 9, 10, 11, 5, 12, 13, 14, 15, 16, 17, 18, 19, 20, 21, 22, 23, 24, 25, 26, 27, 28, 29] (by decide +kernel) (by decide +kernel)
set_option maxRecDepth 20000 in
theorem gX0_mainPigmentOfRow_X0_gramsOfPigment : GoodIn wsX0_mainPigmentOfRow (wsV RX0 173 RX0 yX0_gramsOfPigment wsX0_gramsOfPigment) := goodIn_app (goodIn_of _ (by decide +kernel)) ggX0_mainPigmentOfRow_X0_gramsOfPigment
set_option maxRecDepth 20000 in
theorem ggX0_mixed_X0_colourOfTube : GoodIn wsX0_mixed wsX0_colourOfTube := goodIn_r _ [5, 6, 7, 8, 9, 10, 11, 12, 13, 14, 15, 16, 17, 18, 19, 20, 21, 22, 23, 24] (by decide +kernel) (by decide +kernel)
set_option maxRecDepth 20000 in
theorem gX0_mixed_X0_colourOfTube : GoodIn wsX0_mixed (wsV RX0 170 RX0 yX0_colourOfTube wsX0_colourOfTube) := goodIn_app (goodIn_of _ (by decide +kernel)) ggX0_mixed_X0_colourOfTube
set_option maxRecDepth 20000 in
theorem ggX0_mainPigmentOf_X0_layerRow : GoodIn wsX0_mainPigmentOf wsX0_layerRow := goodIn_r _ [5] (by decide +kernel) (by decide +kernel)
set_option maxRecDepth 20000 in
theorem gX0_mainPigmentOf_X0_layerRow : GoodIn wsX0_mainPigmentOf (va_wsS RX0 116 yX0_layerRow wsX0_layerRow) := goodIn_app (goodIn_of _ (by decide +kernel)) ggX0_mainPigmentOf_X0_layerRow
set_option maxRecDepth 20000 in
theorem ggX0_mainPigmentOf_X0_mainPigmentOfRow : GoodIn wsX0_mainPigmentOf wsX0_mainPigmentOfRow := goodIn_r _ [9, 10, 11, 12, 13, 4, 14, 15, 16, 17, 18, 19, 20, 21, 22, 23, 24, 25, 26, 27, 28, 29, 30, 31, 32, 33, 34, 35, 36, 37] (by decide +kernel) (by decide +kernel)
set_option maxRecDepth 20000 in
theorem gX0_mainPigmentOf_X0_mainPigmentOfRow : GoodIn wsX0_mainPigmentOf (wsV RX0 176 RX0 yX0_mainPigmentOfRow wsX0_mainPigmentOfRow) := goodIn_app (goodIn_of _ (by decide +kernel)) ggX0_mainPigmentOf_X0_mainPigmentOfRow
set_option maxRecDepth 20000 in
theorem ggX0_lookOf_X0_layerRow : GoodIn wsX0_lookOf wsX0_layerRow := goodIn_r _ [5] (by decide +kernel) (by decide +kernel)
set_option maxRecDepth 20000 in
theorem gX0_lookOf_X0_layerRow : GoodIn wsX0_lookOf (va_wsS RX0 116 yX0_layerRow wsX0_layerRow) := goodIn_app (goodIn_of _ (by decide +kernel)) ggX0_lookOf_X0_layerRow
set_option maxRecDepth 20000 in
theorem ggX0_lookOf_X0_colourOfRow : GoodIn wsX0_lookOf wsX0_colourOfRow := goodIn_r _ [9, 10, 11, 12, 13, 4, 14, 15, 16, 17, 18, 19, 20, 21, 22, 23, 24, 25, 26, 27, 28, 29, 30, 31, 32, 33, 34, 35, 36, 37] (by decide +kernel) (by decide +kernel)
set_option maxRecDepth 20000 in
theorem gX0_lookOf_X0_colourOfRow : GoodIn wsX0_lookOf (wsV RX0 137 RX0 yX0_colourOfRow wsX0_colourOfRow) := goodIn_app (goodIn_of _ (by decide +kernel)) ggX0_lookOf_X0_colourOfRow
set_option maxRecDepth 20000 in
theorem ggX0_valueOf_X0_averagePriceOfAlike : GoodIn wsX0_valueOf wsX0_averagePriceOfAlike := goodIn_r _ [10, 11, 12, 13, 14, 15, 9, 16, 17, 18, 19, 20, 21, 22, 23, 24, 25, 26, 27, 28, 29, 30, 31, 32, 33, 34, 35, 36, 37, 38, 39, 40, 41, 42, 43, 44, 45, 46, 47, 48, 49, 50, 51, 52] (by decide +kernel) (by decide +kernel)
set_option maxRecDepth 20000 in
theorem gX0_valueOf_X0_averagePriceOfAlike : GoodIn wsX0_valueOf (wsV RX0 179 RX0 yX0_averagePriceOfAlike wsX0_averagePriceOfAlike) := goodIn_app (goodIn_of _ (by decide +kernel)) ggX0_valueOf_X0_averagePriceOfAlike
set_option maxRecDepth 20000 in
theorem ggX0_averagePriceOfAlike_X0_mainPigmentOf : GoodIn wsX0_averagePriceOfAlike wsX0_mainPigmentOf := goodIn_r _ [7, 8, 9, 10, 6, 11, 12, 13, 14, 15, 16, 17, 18, 19, 20, 21, 22, 23, 24, 25, 26, 27, 28, 29, 30, 31, 32, 33, 34, 35, 36, 37, 38, 39, 40, 41, 42, 43] (by decide +kernel) (by decide +kernel)
set_option maxRecDepth 20000 in
theorem gX0_averagePriceOfAlike_X0_mainPigmentOf : GoodIn wsX0_averagePriceOfAlike (wsV RX0 140 RX0 yX0_mainPigmentOf wsX0_mainPigmentOf) := goodIn_app (goodIn_of _ (by decide +kernel)) ggX0_averagePriceOfAlike_X0_mainPigmentOf
set_option maxRecDepth 20000 in
theorem ggX1_areShades_X1_in : GoodIn wsX1_areShades wsX1_in := goodIn_r _ [4] (by decide +kernel) (by decide +kernel)
set_option maxRecDepth 20000 in
theorem gX1_areShades_X1_in : GoodIn wsX1_areShades (va_wsS RX1 62 yX1_in wsX1_in) := goodIn_app (goodIn_of _ (by decide +kernel)) ggX1_areShades_X1_in
set_option maxRecDepth 20000 in
theorem ggX1_isTube_X1_in : GoodIn wsX1_isTube wsX1_in := goodIn_r _ [5] (by decide +kernel) (by decide +kernel)
set_option maxRecDepth 20000 in
theorem gX1_isTube_X1_in : GoodIn wsX1_isTube (va_wsS RX1 62 yX1_in wsX1_in) := goodIn_app (goodIn_of _ (by decide +kernel)) ggX1_isTube_X1_in
set_option maxRecDepth 20000 in
theorem ggX1_isPot_X1_in : GoodIn wsX1_isPot wsX1_in := goodIn_r _ [5] (by decide +kernel) (by decide +kernel)
set_option maxRecDepth 20000 in
theorem gX1_isPot_X1_in : GoodIn wsX1_isPot (va_wsS RX1 62 yX1_in wsX1_in) := goodIn_app (goodIn_of _ (by decide +kernel)) ggX1_isPot_X1_in
set_option maxRecDepth 20000 in
theorem ggX1_isPicture_X1_in : GoodIn wsX1_isPicture wsX1_in := goodIn_r _ [5] (by decide +kernel) (by decide +kernel)
set_option maxRecDepth 20000 in
theorem gX1_isPicture_X1_in : GoodIn wsX1_isPicture (va_wsS RX1 62 yX1_in wsX1_in) := goodIn_app (goodIn_of _ (by decide +kernel)) ggX1_isPicture_X1_in
set_option maxRecDepth 20000 in
theorem ggX1_isHouse_X1_in : GoodIn wsX1_isHouse wsX1_in := goodIn_r _ [4] (by decide +kernel) (by decide +kernel)
set_option maxRecDepth 20000 in
theorem gX1_isHouse_X1_in : GoodIn wsX1_isHouse (va_wsS RX1 62 yX1_in wsX1_in) := goodIn_app (goodIn_of _ (by decide +kernel)) ggX1_isHouse_X1_in
set_option maxRecDepth 20000 in
theorem ggX1_pigment_X1_areShades : GoodIn wsX1_pigment wsX1_areShades := goodIn_r _ [7, 8, 9, 6, 10] (by decide +kernel) (by decide +kernel)
set_option maxRecDepth 20000 in
theorem gX1_pigment_X1_areShades : GoodIn wsX1_pigment (va_wsS RX1 75 yX1_areShades wsX1_areShades) := goodIn_app (goodIn_of _ (by decide +kernel)) ggX1_pigment_X1_areShades
set_option maxRecDepth 20000 in
theorem ggX1_tube_X1_in : GoodIn wsX1_tube wsX1_in := goodIn_r _ [9] (by decide +kernel) (by decide +kernel)
set_option maxRecDepth 20000 in
theorem gX1_tube_X1_in : GoodIn wsX1_tube (va_wsS RX1 62 yX1_in wsX1_in) := goodIn_app (goodIn_of _ (by decide +kernel)) ggX1_tube_X1_in
set_option maxRecDepth 20000 in
theorem ggX1_squeeze_X1_isPot : GoodIn wsX1_squeeze wsX1_isPot := goodIn_r _ [8, 9, 10, 11, 7, 12, 18, 19, 20, 21, 22, 23, 24, 25, 26, 27, 28, 29, 30, 31, 32, 33, 34, 35, 36, 37, 38, 39] (by decide +kernel) (by decide +kernel)
set_option maxRecDepth 20000 in
theorem gX1_squeeze_X1_isPot : GoodIn wsX1_squeeze (wsV RX1 81 RX1 yX1_isPot wsX1_isPot) := goodIn_app (goodIn_of _ (by decide +kernel)) ggX1_squeeze_X1_isPot
set_option maxRecDepth 20000 in
theorem ggX1_squeeze_X1_isTube : GoodIn wsX1_squeeze wsX1_isTube := goodIn_r _ [16, 17, 10, 11, 7, 12, 18, 19, 20, 21, 22, 23, 24, 25, 26, 27, 28, 29, 30, 31, 32, 33, 34, 35, 36, 37, 38, 39] (by decide +kernel) (by decide +kernel)
set_option maxRecDepth 20000 in
theorem gX1_squeeze_X1_isTube : GoodIn wsX1_squeeze (wsV RX1 85 RX1 yX1_isTube wsX1_isTube) := goodIn_app (goodIn_of _ (by decide +kernel)) ggX1_squeeze_X1_isTube
set_option maxRecDepth 20000 in
theorem ggX1_squeeze_X1_in : GoodIn wsX1_squeeze wsX1_in := goodIn_r _ [12] (by decide +kernel) (by decide +kernel)
set_option maxRecDepth 20000 in
theorem gX1_squeeze_X1_in : GoodIn wsX1_squeeze (va_wsS RX1 62 yX1_in wsX1_in) := goodIn_app (goodIn_of _ (by decide +kernel)) ggX1_squeeze_X1_in
set_option maxRecDepth 20000 in
theorem ggX1_flows_X1_gramsOf : GoodIn wsX1_flows wsX1_gramsOf := goodIn_r _ [7, 1, 8, 9, 10, 11, 12, 13, 14, 15, 16, 17, 18, 19, 20, 21, 22, 23, 24, 25, 26, 27, 28, 29] (by decide +kernel) (by decide +kernel)
set_option maxRecDepth 20000 in
theorem gX1_flows_X1_gramsOf : GoodIn wsX1_flows (wsV RX1 88 RX1 yX1_gramsOf wsX1_gramsOf) := goodIn_app (goodIn_of _ (by decide +kernel)) ggX1_flows_X1_gramsOf
set_option maxRecDepth 20000 in
theorem ggX1_pour_X1_isPot : GoodIn wsX1_pour wsX1_isPot := goodIn_r _ [8, 9, 10, 11, 7, 12, 21, 22, 23, 24, 25, 26, 27, 28, 29, 30, 31, 32, 33, 34, 35, 36, 37, 38, 39, 40, 41, 42] (by decide +kernel) (by decide +kernel)
set_option maxRecDepth 20000 in
theorem gX1_pour_X1_isPot : GoodIn wsX1_pour (wsV RX1 81 RX1 yX1_isPot wsX1_isPot) := goodIn_app (goodIn_of _ (by decide +kernel)) ggX1_pour_X1_isPot
set_option maxRecDepth 20000 in
theorem ggX1_pour_X1_in : GoodIn wsX1_pour wsX1_in := goodIn_r _ [12] (by decide +kernel) (by decide +kernel)
set_option maxRecDepth 20000 in
theorem gX1_pour_X1_in : GoodIn wsX1_pour (va_wsS RX1 62 yX1_in wsX1_in) := goodIn_app (goodIn_of _ (by decide +kernel)) ggX1_pour_X1_in
set_option maxRecDepth 20000 in
theorem ggX1_pour_X1_gramsOf : GoodIn wsX1_pour wsX1_gramsOf := goodIn_r _ [16, 2, 21, 22, 23, 24, 25, 26, 27, 28, 29, 30, 31, 32, 33, 34, 35, 36, 37, 38, 39, 40, 41, 42] (by decide +kernel) (by decide +kernel)
set_option maxRecDepth 20000 in
theorem gX1_pour_X1_gramsOf : GoodIn wsX1_pour (wsV RX1 88 RX1 yX1_gramsOf wsX1_gramsOf) := goodIn_app (goodIn_of _ (by decide +kernel)) ggX1_pour_X1_gramsOf
set_option maxRecDepth 20000 in
theorem ggX1_pour_X1_flows : GoodIn wsX1_pour wsX1_flows := goodIn_r _ [20, 2, 3, 13, 14, 15, 7, 16, 21, 22, 23, 24, 25, 26, 27, 28, 29, 30, 31, 32, 33, 34, 35, 36, 37, 38, 39, 40, 41, 42] (by decide +kernel) (by decide +kernel)
set_option maxRecDepth 20000 in
theorem gX1_pour_X1_flows : GoodIn wsX1_pour (wsV RX1 92 RX1 yX1_flows wsX1_flows) := goodIn_app (goodIn_of _ (by decide +kernel)) ggX1_pour_X1_flows
set_option maxRecDepth 20000 in
theorem ggX1_scrape_X1_isPot : GoodIn wsX1_scrape wsX1_isPot := goodIn_r _ [8, 9, 10, 11, 7, 12, 17, 18, 19, 20, 21, 22, 23, 24, 25, 26, 27, 28, 29, 30, 31, 32, 33, 34, 35, 36, 37, 38] (by decide +kernel) (by decide +kernel)
set_option maxRecDepth 20000 in
theorem gX1_scrape_X1_isPot : GoodIn wsX1_scrape (wsV RX1 81 RX1 yX1_isPot wsX1_isPot) := goodIn_app (goodIn_of _ (by decide +kernel)) ggX1_scrape_X1_isPot
set_option maxRecDepth 20000 in
theorem ggX1_scrape_X1_gramsOf : GoodIn wsX1_scrape wsX1_gramsOf := goodIn_r _ [16, 3, 17, 18, 19, 20, 21, 22, 23, 24, 25, 26, 27, 28, 29, 30, 31, 32, 33, 34, 35, 36, 37, 38] (by decide +kernel) (by decide +kernel)
set_option maxRecDepth 20000 in
theorem gX1_scrape_X1_gramsOf : GoodIn wsX1_scrape (wsV RX1 88 RX1 yX1_gramsOf wsX1_gramsOf) := goodIn_app (goodIn_of _ (by decide +kernel)) ggX1_scrape_X1_gramsOf
set_option maxRecDepth 20000 in
theorem ggX1_paint_X1_isPicture : GoodIn wsX1_paint wsX1_isPicture := goodIn_r _ [10, 11, 12, 13, 9, 14, 32, 33, 34, 35, 36, 37, 38, 39, 40, 41, 42, 43, 44, 45, 46, 47, 48, 49, 50, 51, 52, 53] (by decide +kernel) (by decide +kernel)
set_option maxRecDepth 20000 in
theorem gX1_paint_X1_isPicture : GoodIn wsX1_paint (wsV RX1 96 RX1 yX1_isPicture wsX1_isPicture) := goodIn_app (goodIn_of _ (by decide +kernel)) ggX1_paint_X1_isPicture
set_option maxRecDepth 20000 in
theorem ggX1_paint_X1_isPot : GoodIn wsX1_paint wsX1_isPot := goodIn_r _ [18, 19, 12, 13, 9, 14, 32, 33, 34, 35, 36, 37, 38, 39, 40, 41, 42, 43, 44, 45, 46, 47, 48, 49, 50, 51, 52, 53] (by decide +kernel) (by decide +kernel)
set_option maxRecDepth 20000 in
theorem gX1_paint_X1_isPot : GoodIn wsX1_paint (wsV RX1 81 RX1 yX1_isPot wsX1_isPot) := goodIn_app (goodIn_of _ (by decide +kernel)) ggX1_paint_X1_isPot
set_option maxRecDepth 20000 in
theorem ggX1_paint_X1_in : GoodIn wsX1_paint wsX1_in := goodIn_r _ [14] (by decide +kernel) (by decide +kernel)
set_option maxRecDepth 20000 in
theorem gX1_paint_X1_in : GoodIn wsX1_paint (va_wsS RX1 62 yX1_in wsX1_in) := goodIn_app (goodIn_of _ (by decide +kernel)) ggX1_paint_X1_in
set_option maxRecDepth 20000 in
theorem ggX1_paint_X1_gramsOf : GoodIn wsX1_paint wsX1_gramsOf := goodIn_r _ [23, 24, 32, 33, 34, 35, 36, 37, 38, 39, 40, 41, 42, 43, 44, 45, 46, 47, 48, 49, 50, 51, 52, 53] (by decide +kernel) (by decide +kernel)
set_option maxRecDepth 20000 in
theorem gX1_paint_X1_gramsOf : GoodIn wsX1_paint (wsV RX1 88 RX1 yX1_gramsOf wsX1_gramsOf) := goodIn_app (goodIn_of _ (by decide +kernel)) ggX1_paint_X1_gramsOf
set_option maxRecDepth 20000 in
theorem ggX1_paint_X1_flows : GoodIn wsX1_paint wsX1_flows := goodIn_r _ [28, 24, 5, 20, 21, 22, 9, 23, 32, 33, 34, 35, 36, 37, 38, 39, 40, 41, 42, 43, 44, 45, 46, 47, 48, 49, 50, 51, 52, 53] (by decide +kernel) (by decide +kernel)
set_option maxRecDepth 20000 in
theorem gX1_paint_X1_flows : GoodIn wsX1_paint (wsV RX1 92 RX1 yX1_flows wsX1_flows) := goodIn_app (goodIn_of _ (by decide +kernel)) ggX1_paint_X1_flows
set_option maxRecDepth 20000 in
theorem ggX1_paint_X1_layerAt : GoodIn wsX1_paint wsX1_layerAt := goodIn_r _ [31] (by decide +kernel) (by decide +kernel)
set_option maxRecDepth 20000 in
theorem gX1_paint_X1_layerAt : GoodIn wsX1_paint (va_wsS RX1 99 yX1_layerAt wsX1_layerAt) := goodIn_app (goodIn_of _ (by decide +kernel)) ggX1_paint_X1_layerAt
set_option maxRecDepth 20000 in
theorem ggX1_clean_X1_isPicture : GoodIn wsX1_clean wsX1_isPicture := goodIn_r _ [10, 11, 12, 13, 9, 14, 18, 19, 20, 21, 22, 23, 24, 25, 26, 27, 28, 29, 30, 31, 32, 33, 34, 35, 36, 37, 38, 39] (by decide +kernel) (by decide +kernel)
set_option maxRecDepth 20000 in
theorem gX1_clean_X1_isPicture : GoodIn wsX1_clean (wsV RX1 96 RX1 yX1_isPicture wsX1_isPicture) := goodIn_app (goodIn_of _ (by decide +kernel)) ggX1_clean_X1_isPicture
set_option maxRecDepth 20000 in
theorem ggX1_clean_X1_in : GoodIn wsX1_clean wsX1_in := goodIn_r _ [14] (by decide +kernel) (by decide +kernel)
set_option maxRecDepth 20000 in
theorem gX1_clean_X1_in : GoodIn wsX1_clean (va_wsS RX1 62 yX1_in wsX1_in) := goodIn_app (goodIn_of _ (by decide +kernel)) ggX1_clean_X1_in
set_option maxRecDepth 20000 in
theorem ggX1_clean_X1_layerAt : GoodIn wsX1_clean wsX1_layerAt := goodIn_r _ [17] (by decide +kernel) (by decide +kernel)
set_option maxRecDepth 20000 in
theorem gX1_clean_X1_layerAt : GoodIn wsX1_clean (va_wsS RX1 99 yX1_layerAt wsX1_layerAt) := goodIn_app (goodIn_of _ (by decide +kernel)) ggX1_clean_X1_layerAt
set_option maxRecDepth 20000 in
theorem ggX1_main_X1_layerAt : GoodIn wsX1_main wsX1_layerAt := goodIn_r _ [9] (by decide +kernel) (by decide +kernel)
set_option maxRecDepth 20000 in
theorem gX1_main_X1_layerAt : GoodIn wsX1_main (va_wsS RX1 99 yX1_layerAt wsX1_layerAt) := goodIn_app (goodIn_of _ (by decide +kernel)) ggX1_main_X1_layerAt
set_option maxRecDepth 20000 in
theorem ggX1_look_X1_layerAt : GoodIn wsX1_look wsX1_layerAt := goodIn_r _ [9] (by decide +kernel) (by decide +kernel)
set_option maxRecDepth 20000 in
theorem gX1_look_X1_layerAt : GoodIn wsX1_look (va_wsS RX1 99 yX1_layerAt wsX1_layerAt) := goodIn_app (goodIn_of _ (by decide +kernel)) ggX1_look_X1_layerAt
set_option maxRecDepth 20000 in
theorem ggX1_value_X1_main : GoodIn wsX1_value wsX1_main := goodIn_r _ [8, 9, 10, 11, 12, 13, 14, 15, 7, 16, 17, 18, 19, 20, 21, 22, 23, 24, 25, 26, 27, 28, 29, 30, 31, 32, 33, 34, 35, 36, 37, 38] (by decide +kernel) (by decide +kernel)
set_option maxRecDepth 20000 in
theorem gX1_value_X1_main : GoodIn wsX1_value (wsV RX1 103 RX1 yX1_main wsX1_main) := goodIn_app (goodIn_of _ (by decide +kernel)) ggX1_value_X1_main
set_option maxRecDepth 20000 in
theorem ggX1_damp_X1_isHouse : GoodIn wsX1_damp wsX1_isHouse := goodIn_r _ [6, 7, 8, 5, 9] (by decide +kernel) (by decide +kernel)
set_option maxRecDepth 20000 in
theorem gX1_damp_X1_isHouse : GoodIn wsX1_damp (va_wsS RX1 106 yX1_isHouse wsX1_isHouse) := goodIn_app (goodIn_of _ (by decide +kernel)) ggX1_damp_X1_isHouse
set_option maxRecDepth 20000 in
theorem ggX1_damp_X1_in : GoodIn wsX1_damp wsX1_in := goodIn_r _ [9] (by decide +kernel) (by decide +kernel)
set_option maxRecDepth 20000 in
theorem gX1_damp_X1_in : GoodIn wsX1_damp (va_wsS RX1 62 yX1_in wsX1_in) := goodIn_app (goodIn_of _ (by decide +kernel)) ggX1_damp_X1_in
set_option maxRecDepth 20000 in
theorem ggX1_lend_X1_isPicture : GoodIn wsX1_lend wsX1_isPicture := goodIn_r _ [10, 11, 12, 13, 9, 14, 35, 36, 37, 38, 39, 40, 41, 42, 43, 44, 45, 46, 47, 48, 49, 50, 51, 52, 53, 54, 55, 56] (by decide +kernel) (by decide +kernel)
set_option maxRecDepth 20000 in
theorem gX1_lend_X1_isPicture : GoodIn wsX1_lend (wsV RX1 96 RX1 yX1_isPicture wsX1_isPicture) := goodIn_app (goodIn_of _ (by decide +kernel)) ggX1_lend_X1_isPicture
set_option maxRecDepth 20000 in
theorem ggX1_lend_X1_isHouse : GoodIn wsX1_lend wsX1_isHouse := goodIn_r _ [17, 12, 13, 9, 14] (by decide +kernel) (by decide +kernel)
set_option maxRecDepth 20000 in
theorem gX1_lend_X1_isHouse : GoodIn wsX1_lend (va_wsS RX1 106 yX1_isHouse wsX1_isHouse) := goodIn_app (goodIn_of _ (by decide +kernel)) ggX1_lend_X1_isHouse
set_option maxRecDepth 20000 in
theorem ggX1_lend_X1_in : GoodIn wsX1_lend wsX1_in := goodIn_r _ [14] (by decide +kernel) (by decide +kernel)
set_option maxRecDepth 20000 in
theorem gX1_lend_X1_in : GoodIn wsX1_lend (va_wsS RX1 62 yX1_in wsX1_in) := goodIn_app (goodIn_of _ (by decide +kernel)) ggX1_lend_X1_in
set_option maxRecDepth 20000 in
theorem ggX1_lend_X1_value : GoodIn wsX1_lend wsX1_value := goodIn_r _ [21, 11, 22, 2, 23, 24, 25, 9, 26, 27, 28, 29, 30, 31, 32, 33, 34, 35, 36, 37, 38, 39, 40, 41, 42, 43, 44, 45, 46, 47, 48, 49, 50, 51, 52, 53, 54, 55, 56] (by decide +kernel) (by decide +kernel)
set_option maxRecDepth 20000 in
theorem gX1_lend_X1_value : GoodIn wsX1_lend (wsV RX1 109 RX1 yX1_value wsX1_value) := goodIn_app (goodIn_of _ (by decide +kernel)) ggX1_lend_X1_value
set_option maxRecDepth 20000 in
theorem ggX1_sell_X1_isPicture : GoodIn wsX1_sell wsX1_isPicture := goodIn_r _ [10, 11, 12, 13, 9, 14, 31, 32, 33, 34, 35, 36, 37, 38, 39, 40, 41, 42, 43, 44, 45, 46, 47, 48, 49, 50, 51, 52] (by decide +kernel) (by decide +kernel)
set_option maxRecDepth 20000 in
theorem gX1_sell_X1_isPicture : GoodIn wsX1_sell (wsV RX1 96 RX1 yX1_isPicture wsX1_isPicture) := goodIn_app (goodIn_of _ (by decide +kernel)) ggX1_sell_X1_isPicture
set_option maxRecDepth 20000 in
theorem ggX1_sell_X1_in : GoodIn wsX1_sell wsX1_in := goodIn_r _ [14] (by decide +kernel) (by decide +kernel)
set_option maxRecDepth 20000 in
theorem gX1_sell_X1_in : GoodIn wsX1_sell (va_wsS RX1 62 yX1_in wsX1_in) := goodIn_app (goodIn_of _ (by decide +kernel)) ggX1_sell_X1_in
set_option maxRecDepth 20000 in
theorem ggX1_sell_X1_value : GoodIn wsX1_sell wsX1_value := goodIn_r _ [18, 11, 5, 19, 20, 21, 22, 9, 23, 3, 24, 25, 26, 27, 28, 29, 30, 31, 32, 33, 34, 35, 36, 37, 38, 39, 40, 41, 42, 43, 44, 45, 46, 47, 48, 49, 50, 51, 52] (by decide +kernel) (by decide +kernel)
set_option maxRecDepth 20000 in
theorem gX1_sell_X1_value : GoodIn wsX1_sell (wsV RX1 109 RX1 yX1_value wsX1_value) := goodIn_app (goodIn_of _ (by decide +kernel)) ggX1_sell_X1_value
set_option maxRecDepth 20000 in
theorem ggX1_passOne_X1_in : GoodIn wsX1_passOne wsX1_in := goodIn_r _ [12] (by decide +kernel) (by decide +kernel)
set_option maxRecDepth 20000 in
theorem gX1_passOne_X1_in : GoodIn wsX1_passOne (va_wsS RX1 62 yX1_in wsX1_in) := goodIn_app (goodIn_of _ (by decide +kernel)) ggX1_passOne_X1_in
set_option maxRecDepth 20000 in
theorem ggX1_pass_X1_in : GoodIn wsX1_pass wsX1_in := goodIn_r _ [6] (by decide +kernel) (by decide +kernel)
set_option maxRecDepth 20000 in
theorem gX1_pass_X1_in : GoodIn wsX1_pass (va_wsS RX1 62 yX1_in wsX1_in) := goodIn_app (goodIn_of _ (by decide +kernel)) ggX1_pass_X1_in
set_option maxRecDepth 20000 in
theorem ggX1_pass_X1_passOne : GoodIn wsX1_pass wsX1_passOne := goodIn_r _ [10, 1, 11, 12, 13, 14, 15, 16, 17, 3, 4, 5, 6, 18, 19, 20, 21, 22, 23, 24, 25, 26, 27, 28, 29, 30, 31, 32, 33, 34, 35, 36, 37, 38, 39] (by decide +kernel) (by decide +kernel)
set_option maxRecDepth 20000 in
theorem gX1_pass_X1_passOne : GoodIn wsX1_pass (wsV RX1 116 RX1 yX1_passOne wsX1_passOne) := goodIn_app (goodIn_of _ (by decide +kernel)) ggX1_pass_X1_passOne
set_option maxRecDepth 20000 in
theorem ggX1_left_X1_isTube : GoodIn wsX1_left wsX1_isTube := goodIn_r _ [7, 8, 9, 10, 6, 11, 12, 13, 14, 15, 16, 17, 18, 19, 20, 21, 22, 23, 24, 25, 26, 27, 28, 29, 30, 31, 32, 33] (by decide +kernel) (by decide +kernel)
set_option maxRecDepth 20000 in
theorem gX1_left_X1_isTube : GoodIn wsX1_left (wsV RX1 85 RX1 yX1_isTube wsX1_isTube) := goodIn_app (goodIn_of _ (by decide +kernel)) ggX1_left_X1_isTube
set_option maxRecDepth 20000 in
theorem ggX1_has_X1_isPot : GoodIn wsX1_has wsX1_isPot := goodIn_r _ [7, 8, 9, 10, 6, 11, 21, 22, 23, 24, 25, 26, 27, 28, 29, 30, 31, 32, 33, 34, 35, 36, 37, 38, 39, 40, 41, 42] (by decide +kernel) (by decide +kernel)
set_option maxRecDepth 20000 in
theorem gX1_has_X1_isPot : GoodIn wsX1_has (wsV RX1 81 RX1 yX1_isPot wsX1_isPot) := goodIn_app (goodIn_of _ (by decide +kernel)) ggX1_has_X1_isPot
set_option maxRecDepth 20000 in
theorem ggX1_has_X1_isTube : GoodIn wsX1_has wsX1_isTube := goodIn_r _ [15, 16, 9, 10, 6, 11, 21, 22, 23, 24, 25, 26, 27, 28, 29, 30, 31, 32, 33, 34, 35, 36, 37, 38, 39, 40, 41, 42] (by decide +kernel) (by decide +kernel)
set_option maxRecDepth 20000 in
theorem gX1_has_X1_isTube : GoodIn wsX1_has (wsV RX1 85 RX1 yX1_isTube wsX1_isTube) := goodIn_app (goodIn_of _ (by decide +kernel)) ggX1_has_X1_isTube
set_option maxRecDepth 20000 in
theorem ggX1_has_X1_gramsOf : GoodIn wsX1_has wsX1_gramsOf := goodIn_r _ [20, 2, 21, 22, 23, 24, 25, 26, 27, 28, 29, 30, 31, 32, 33, 34, 35, 36, 37, 38, 39, 40, 41, 42] (by decide +kernel) (by decide +kernel)
set_option maxRecDepth 20000 in
theorem gX1_has_X1_gramsOf : GoodIn wsX1_has (wsV RX1 88 RX1 yX1_gramsOf wsX1_gramsOf) := goodIn_app (goodIn_of _ (by decide +kernel)) ggX1_has_X1_gramsOf
set_option maxRecDepth 20000 in
theorem ggX1_colour_X1_isPot : GoodIn wsX1_colour wsX1_isPot := goodIn_r _ [10, 11, 12, 13, 9, 14, 19, 20, 21, 22, 23, 24, 25, 26, 27, 28, 29, 30, 31, 32, 33, 34, 35, 36, 37, 38, 39, 40] (by decide +kernel) (by decide +kernel)
set_option maxRecDepth 20000 in
theorem gX1_colour_X1_isPot : GoodIn wsX1_colour (wsV RX1 81 RX1 yX1_isPot wsX1_isPot) := goodIn_app (goodIn_of _ (by decide +kernel)) ggX1_colour_X1_isPot
set_option maxRecDepth 20000 in
theorem ggX1_colour_X1_in : GoodIn wsX1_colour wsX1_in := goodIn_r _ [14] (by decide +kernel) (by decide +kernel)
set_option maxRecDepth 20000 in
theorem gX1_colour_X1_in : GoodIn wsX1_colour (va_wsS RX1 62 yX1_in wsX1_in) := goodIn_app (goodIn_of _ (by decide +kernel)) ggX1_colour_X1_in
set_option maxRecDepth 20000 in
theorem ggX1_colour_X1_gramsOf : GoodIn wsX1_colour wsX1_gramsOf := goodIn_r _ [18, 3, 19, 20, 21, 22, 23, 24, 25, 26, 27, 28, 29, 30, 31, 32, 33, 34, 35, 36, 37, 38, 39, 40] (by decide +kernel) (by decide +kernel)
set_option maxRecDepth 20000 in
theorem gX1_colour_X1_gramsOf : GoodIn wsX1_colour (wsV RX1 88 RX1 yX1_gramsOf wsX1_gramsOf) := goodIn_app (goodIn_of _ (by decide +kernel)) ggX1_colour_X1_gramsOf
set_option maxRecDepth 20000 in
theorem ggX1_of_X1_isPicture : GoodIn wsX1_of wsX1_isPicture := goodIn_r _ [10, 11, 12, 13, 9, 14, 36, 37, 38, 39, 40, 41, 42, 43, 44, 45, 46, 47, 48, 49, 50, 51, 52, 53, 54, 55, 56, 57] (by decide +kernel) (by decide +kernel)
set_option maxRecDepth 20000 in
theorem gX1_of_X1_isPicture : GoodIn wsX1_of (wsV RX1 96 RX1 yX1_isPicture wsX1_isPicture) := goodIn_app (goodIn_of _ (by decide +kernel)) ggX1_of_X1_isPicture
set_option maxRecDepth 20000 in
theorem ggX1_of_X1_in : GoodIn wsX1_of wsX1_in := goodIn_r _ [14] (by decide +kernel) (by decide +kernel)
set_option maxRecDepth 20000 in
theorem gX1_of_X1_in : GoodIn wsX1_of (va_wsS RX1 62 yX1_in wsX1_in) := goodIn_app (goodIn_of _ (by decide +kernel)) ggX1_of_X1_in
set_option maxRecDepth 20000 in
theorem ggX1_of_X1_value : GoodIn wsX1_of wsX1_value := goodIn_r _ [18, 11, 19, 3, 20, 21, 22, 9, 23, 2, 24, 25, 26, 27, 28, 29, 30, 36, 37, 38, 39, 40, 41, 42, 43, 44, 45, 46, 47, 48, 49, 50, 51, 52, 53, 54, 55, 56, 57] (by decide +kernel) (by decide +kernel)
set_option maxRecDepth 20000 in
theorem gX1_of_X1_value : GoodIn wsX1_of (wsV RX1 109 RX1 yX1_value wsX1_value) := goodIn_app (goodIn_of _ (by decide +kernel)) ggX1_of_X1_value
set_option maxRecDepth 20000 in
theorem ggX1_of_X1_main : GoodIn wsX1_of wsX1_main := goodIn_r _ [23, 2, 24, 25, 26, 27, 28, 29, 9, 30, 36, 37, 38, 39, 40, 41, 42, 43, 44, 45, 46, 47, 48, 49, 50, 51, 52, 53, 54, 55, 56, 57] (by decide +kernel) (by decide +kernel)
set_option maxRecDepth 20000 in
theorem gX1_of_X1_main : GoodIn wsX1_of (wsV RX1 103 RX1 yX1_main wsX1_main) := goodIn_app (goodIn_of _ (by decide +kernel)) ggX1_of_X1_main
set_option maxRecDepth 20000 in
theorem ggX1_of_X1_look : GoodIn wsX1_of wsX1_look := goodIn_r _ [34, 2, 25, 27, 35, 26, 28, 29, 9, 30, 36, 37, 38, 39, 40, 41, 42, 43, 44, 45, 46, 47, 48, 49, 50, 51, 52, 53, 54, 55, 56, 57] (by decide +kernel) (by decide +kernel)
set_option maxRecDepth 20000 in
theorem gX1_of_X1_look : GoodIn wsX1_of (wsV RX1 119 RX1 yX1_look wsX1_look) := goodIn_app (goodIn_of _ (by decide +kernel)) ggX1_of_X1_look
set_option maxRecDepth 20000 in
theorem ggX1_layer_X1_isPicture : GoodIn wsX1_layer wsX1_isPicture := goodIn_r _ [8, 9, 10, 11, 7, 12, 21, 22, 23, 24, 25, 26, 27, 28, 29, 30, 31, 32, 33, 34, 35, 36, 37, 38, 39, 40, 41, 42] (by decide +kernel) (by decide +kernel)
set_option maxRecDepth 20000 in
theorem gX1_layer_X1_isPicture : GoodIn wsX1_layer (wsV RX1 96 RX1 yX1_isPicture wsX1_isPicture) := goodIn_app (goodIn_of _ (by decide +kernel)) ggX1_layer_X1_isPicture
set_option maxRecDepth 20000 in
theorem ggX1_layer_X1_in : GoodIn wsX1_layer wsX1_in := goodIn_r _ [12] (by decide +kernel) (by decide +kernel)
set_option maxRecDepth 20000 in
theorem gX1_layer_X1_in : GoodIn wsX1_layer (va_wsS RX1 62 yX1_in wsX1_in) := goodIn_app (goodIn_of _ (by decide +kernel)) ggX1_layer_X1_in
set_option maxRecDepth 20000 in
theorem ggX1_layer_X1_isTube : GoodIn wsX1_layer wsX1_isTube := goodIn_r _ [16, 17, 10, 11, 7, 12, 21, 22, 23, 24, 25, 26, 27, 28, 29, 30, 31, 32, 33, 34, 35, 36, 37, 38, 39, 40, 41, 42] (by decide +kernel) (by decide +kernel)
set_option maxRecDepth 20000 in
theorem gX1_layer_X1_isTube : GoodIn wsX1_layer (wsV RX1 85 RX1 yX1_isTube wsX1_isTube) := goodIn_app (goodIn_of _ (by decide +kernel)) ggX1_layer_X1_isTube
set_option maxRecDepth 20000 in
theorem ggX1_layer_X1_layerAt : GoodIn wsX1_layer wsX1_layerAt := goodIn_r _ [20] (by decide +kernel) (by decide +kernel)
set_option maxRecDepth 20000 in
theorem gX1_layer_X1_layerAt : GoodIn wsX1_layer (va_wsS RX1 99 yX1_layerAt wsX1_layerAt) := goodIn_app (goodIn_of _ (by decide +kernel)) ggX1_layer_X1_layerAt
set_option maxRecDepth 20000 in
theorem ggX1_where_X1_isTube : GoodIn wsX1_where wsX1_isTube := goodIn_r _ [8, 9, 10, 11, 7, 12, 24, 25, 26, 27, 28, 29, 30, 31, 32, 33, 34, 35, 36, 37, 38, 39, 40, 41, 42, 43, 44, 45] (by decide +kernel) (by decide +kernel)
set_option maxRecDepth 20000 in
theorem gX1_where_X1_isTube : GoodIn wsX1_where (wsV RX1 85 RX1 yX1_isTube wsX1_isTube) := goodIn_app (goodIn_of _ (by decide +kernel)) ggX1_where_X1_isTube
set_option maxRecDepth 20000 in
theorem ggX1_where_X1_in : GoodIn wsX1_where wsX1_in := goodIn_r _ [12] (by decide +kernel) (by decide +kernel)
set_option maxRecDepth 20000 in
theorem gX1_where_X1_in : GoodIn wsX1_where (va_wsS RX1 62 yX1_in wsX1_in) := goodIn_app (goodIn_of _ (by decide +kernel)) ggX1_where_X1_in
set_option maxRecDepth 20000 in
theorem ggX1_where_X1_inPots : GoodIn wsX1_where wsX1_inPots := goodIn_r _ [16, 17, 18, 24, 25, 26, 27, 28, 29, 30, 31, 32, 33, 34, 35, 36, 37, 38, 39, 40, 41, 42, 43, 44, 45] (by decide +kernel) (by decide +kernel)
set_option maxRecDepth 20000 in
theorem gX1_where_X1_inPots : GoodIn wsX1_where (wsV RX1 122 RX1 yX1_inPots wsX1_inPots) := goodIn_app (goodIn_of _ (by decide +kernel)) ggX1_where_X1_inPots
set_option maxRecDepth 20000 in
theorem ggX1_where_X1_onPictures : GoodIn wsX1_where wsX1_onPictures := goodIn_r _ [22, 23, 24, 25, 26, 27, 28, 29, 30, 31, 32, 33, 34, 35, 36, 37, 38, 39, 40, 41, 42, 43, 44, 45] (by decide +kernel) (by decide +kernel)
set_option maxRecDepth 20000 in
theorem gX1_where_X1_onPictures : GoodIn wsX1_where (wsV RX1 125 RX1 yX1_onPictures wsX1_onPictures) := goodIn_app (goodIn_of _ (by decide +kernel)) ggX1_where_X1_onPictures
set_option maxRecDepth 20000 in
theorem ggX1_recipe_X1_areShades : GoodIn wsX1_recipe wsX1_areShades := goodIn_r _ [7, 8, 9, 6, 10] (by decide +kernel) (by decide +kernel)
set_option maxRecDepth 20000 in
theorem gX1_recipe_X1_areShades : GoodIn wsX1_recipe (va_wsS RX1 75 yX1_areShades wsX1_areShades) := goodIn_app (goodIn_of _ (by decide +kernel)) ggX1_recipe_X1_areShades
set_option maxRecDepth 20000 in
theorem ggX1_recipe_X1_far : GoodIn wsX1_recipe wsX1_far := goodIn_r _ [14, 15, 16, 17, 18, 19, 20, 21, 22, 23, 24, 25, 26, 27, 28, 29, 30, 31, 32, 33, 34, 35, 36, 37, 38] (by decide +kernel) (by decide +kernel)
set_option maxRecDepth 20000 in
theorem gX1_recipe_X1_far : GoodIn wsX1_recipe (wsV RX1 128 RX1 yX1_far wsX1_far) := goodIn_app (goodIn_of _ (by decide +kernel)) ggX1_recipe_X1_far
set_option maxRecDepth 20000 in
theorem ggX1_paid_X1_isHouse : GoodIn wsX1_paid wsX1_isHouse := goodIn_r _ [6, 7, 8, 5, 9] (by decide +kernel) (by decide +kernel)
set_option maxRecDepth 20000 in
theorem gX1_paid_X1_isHouse : GoodIn wsX1_paid (va_wsS RX1 106 yX1_isHouse wsX1_isHouse) := goodIn_app (goodIn_of _ (by decide +kernel)) ggX1_paid_X1_isHouse
set_option maxRecDepth 20000 in
theorem ggL_pigment_X0_pigment : GoodIn wsL_pigment wsX0_pigment := goodIn_ca (goodIn_ca (goodIn_r _ [7, 8, 9, 10, 11, 12, 13, 6, 14, 15, 16, 17, 18, 19, 20, 21, 22, 23, 24, 25, 26, 27, 28, 29, 30, 31, 32, 33, 34, 35, 36] (by decide +kernel) (by decide +kernel)) (goodIn_sub (fun _ h => List.mem_cons_of_mem _ (List.mem_append_left _ (List.mem_append_right _ h))) (by decide +kernel))) (goodIn_sub (fun _ h => List.mem_cons_of_mem _ (List.mem_append_right _ h)) (by decide +kernel))
set_option maxRecDepth 20000 in
theorem gL_pigment_X0_pigment : GoodIn wsL_pigment (wsV RL 7 RX0 yX0_pigment wsX0_pigment) := goodIn_app (goodIn_of _ (by decide +kernel)) ggL_pigment_X0_pigment
set_option maxRecDepth 20000 in
theorem ggL_tube_X0_tube : GoodIn wsL_tube wsX0_tube := goodIn_ca (goodIn_ca (goodIn_ca (goodIn_r _ [8, 9, 10, 11, 12, 13, 14, 15, 16, 7, 17, 18, 19, 20, 21, 22, 23, 24, 25, 26, 27, 28, 29, 30, 31, 32, 33, 34, 35, 36, 37, 38, 39, 40, 41] (by decide +kernel) (by decide +kernel)) (goodIn_sub (fun _ h => List.mem_cons_of_mem _ (List.mem_append_left _ (List.mem_append_left _ (List.mem_append_right _ h)))) (by decide +kernel))) (goodIn_sub (fun _ h => List.mem_cons_of_mem _ (List.mem_append_left _ (List.mem_append_right _ h))) (by decide +kernel))) (goodIn_sub (fun _ h => List.mem_cons_of_mem _ (List.mem_append_right _ h)) (by decide +kernel))
set_option maxRecDepth 20000 in
theorem gL_tube_X0_tube : GoodIn wsL_tube (wsV RL 17 RX0 yX0_tube wsX0_tube) := goodIn_app (goodIn_of _ (by decide +kernel)) ggL_tube_X0_tube
set_option maxRecDepth 20000 in
theorem ggL_pot_X0_pot : GoodIn wsL_pot wsX0_pot := goodIn_ca (goodIn_r _ [6, 7, 8, 9, 10, 11, 12, 13, 14, 15, 16, 17, 18, 19, 20, 21, 22, 23, 24, 25, 26] (by decide +kernel) (by decide +kernel)) (goodIn_sub (fun _ h => List.mem_cons_of_mem _ (List.mem_append_right _ h)) (by decide +kernel))
set_option maxRecDepth 20000 in
theorem gL_pot_X0_pot : GoodIn wsL_pot (wsV RL 23 RX0 yX0_pot wsX0_pot) := goodIn_app (goodIn_of _ (by decide +kernel)) ggL_pot_X0_pot
set_option maxRecDepth 20000 in
theorem ggL_squeeze_X0_squeeze : GoodIn wsL_squeeze wsX0_squeeze := goodIn_ca (goodIn_ca (goodIn_ca (goodIn_r _ [8, 9, 10, 11, 12, 13, 14, 15, 16, 7, 17, 18, 19, 20, 21, 22, 23, 24, 25, 26, 27, 28, 29, 30, 31, 32, 33, 34, 35, 36, 37, 38, 39, 40, 41, 42, 43, 44, 45, 46, 47] (by decide +kernel) (by decide +kernel)) (goodIn_sub (fun _ h => List.mem_cons_of_mem _ (List.mem_append_left _ (List.mem_append_left _ (List.mem_append_right _ h)))) (by decide +kernel))) (goodIn_sub (fun _ h => List.mem_cons_of_mem _ (List.mem_append_left _ (List.mem_append_right _ h))) (by decide +kernel))) (goodIn_sub (fun _ h => List.mem_cons_of_mem _ (List.mem_append_right _ h)) (by decide +kernel))
set_option maxRecDepth 20000 in
theorem gL_squeeze_X0_squeeze : GoodIn wsL_squeeze (wsV RL 27 RX0 yX0_squeeze wsX0_squeeze) := goodIn_app (goodIn_of _ (by decide +kernel)) ggL_squeeze_X0_squeeze
set_option maxRecDepth 20000 in
theorem ggL_pour_X0_pour : GoodIn wsL_pour wsX0_pour := goodIn_ca (goodIn_ca (goodIn_ca (goodIn_r _ [8, 9, 10, 11, 12, 13, 14, 15, 7, 16, 17, 18, 19, 20, 21, 22, 23, 24, 25, 26, 27, 28, 29, 30, 31, 32, 33, 34, 35, 36, 37, 38, 39, 40, 41, 42, 43, 44, 45, 46, 47, 48, 49, 50, 51, 52, 53, 54] (by decide +kernel) (by decide +kernel)) (goodIn_sub (fun _ h => List.mem_cons_of_mem _ (List.mem_append_left _ (List.mem_append_left _ (List.mem_append_right _ h)))) (by decide +kernel))) (goodIn_sub (fun _ h => List.mem_cons_of_mem _ (List.mem_append_left _ (List.mem_append_right _ h))) (by decide +kernel))) (goodIn_sub (fun _ h => List.mem_cons_of_mem _ (List.mem_append_right _ h)) (by decide +kernel))
set_option maxRecDepth 20000 in
theorem gL_pour_X0_pour : GoodIn wsL_pour (wsV RL 30 RX0 yX0_pour wsX0_pour) := goodIn_app (goodIn_of _ (by decide +kernel)) ggL_pour_X0_pour
set_option maxRecDepth 20000 in
theorem ggL_scrape_X0_scrape : GoodIn wsL_scrape wsX0_scrape := goodIn_ca (goodIn_r _ [6, 7, 8, 9, 5, 10, 11, 12, 13, 14, 15, 16, 17, 18, 19, 20, 21, 22, 23, 24, 25, 26, 27, 28, 29, 30, 31, 32, 33, 34, 35, 36, 37, 38, 39, 40, 41] (by decide +kernel) (by decide +kernel)) (goodIn_sub (fun _ h => List.mem_cons_of_mem _ (List.mem_append_right _ h)) (by decide +kernel))
set_option maxRecDepth 20000 in
theorem gL_scrape_X0_scrape : GoodIn wsL_scrape (wsV RL 33 RX0 yX0_scrape wsX0_scrape) := goodIn_app (goodIn_of _ (by decide +kernel)) ggL_scrape_X0_scrape
set_option maxRecDepth 20000 in
theorem ggL_picture_X0_picture : GoodIn wsL_picture wsX0_picture := goodIn_ca (goodIn_r _ [6, 7, 8, 9, 10, 11, 12, 13, 14, 15, 16, 17, 18, 19, 20, 21, 22, 23, 24, 25, 26] (by decide +kernel) (by decide +kernel)) (goodIn_sub (fun _ h => List.mem_cons_of_mem _ (List.mem_append_right _ h)) (by decide +kernel))
set_option maxRecDepth 20000 in
theorem gL_picture_X0_picture : GoodIn wsL_picture (wsV RL 37 RX0 yX0_picture wsX0_picture) := goodIn_app (goodIn_of _ (by decide +kernel)) ggL_picture_X0_picture
set_option maxRecDepth 20000 in
theorem ggL_paint_X0_paint : GoodIn wsL_paint wsX0_paint := goodIn_ca (goodIn_ca (goodIn_ca (goodIn_r _ [8, 9, 10, 11, 12, 13, 14, 15, 7, 16, 17, 18, 19, 20, 21, 22, 23, 24, 25, 26, 27, 28, 29, 30, 31, 32, 33, 34, 35, 36, 37, 38, 39, 40, 41, 42, 43, 44, 45, 46, 47, 48, 49, 50, 51, 52, 53, 54, 55, 56, 57, 58, 59, 60, 61, 62, 63, 64, 65, 66, 67, 68] (by decide +kernel) (by decide +kernel)) (goodIn_sub (fun _ h => List.mem_cons_of_mem _ (List.mem_append_left _ (List.mem_append_left _ (List.mem_append_right _ h)))) (by decide +kernel))) (goodIn_sub (fun _ h => List.mem_cons_of_mem _ (List.mem_append_left _ (List.mem_append_right _ h))) (by decide +kernel))) (goodIn_sub (fun _ h => List.mem_cons_of_mem _ (List.mem_append_right _ h)) (by decide +kernel))
set_option maxRecDepth 20000 in
theorem gL_paint_X0_paint : GoodIn wsL_paint (wsV RL 40 RX0 yX0_paint wsX0_paint) := goodIn_app (goodIn_of _ (by decide +kernel)) ggL_paint_X0_paint
set_option maxRecDepth 20000 in
theorem ggL_clean_X0_clean : GoodIn wsL_clean wsX0_clean := goodIn_ca (goodIn_ca (goodIn_ca (goodIn_r _ [8, 9, 10, 11, 12, 13, 14, 7, 15, 16, 17, 18, 19, 20, 21, 22, 23, 24, 25, 26, 27, 28, 29, 30, 31, 32, 33, 34, 35, 36, 37, 38, 39, 40, 41, 42, 43, 44, 45, 46, 47, 48, 49, 50, 51, 52, 53, 54, 55, 56, 57, 58, 59, 60] (by decide +kernel) (by decide +kernel)) (goodIn_sub (fun _ h => List.mem_cons_of_mem _ (List.mem_append_left _ (List.mem_append_left _ (List.mem_append_right _ h)))) (by decide +kernel))) (goodIn_sub (fun _ h => List.mem_cons_of_mem _ (List.mem_append_left _ (List.mem_append_right _ h))) (by decide +kernel))) (goodIn_sub (fun _ h => List.mem_cons_of_mem _ (List.mem_append_right _ h)) (by decide +kernel))
set_option maxRecDepth 20000 in
theorem gL_clean_X0_clean : GoodIn wsL_clean (wsV RL 43 RX0 yX0_clean wsX0_clean) := goodIn_app (goodIn_of _ (by decide +kernel)) ggL_clean_X0_clean
set_option maxRecDepth 20000 in
theorem ggL_damp_X0_damp : GoodIn wsL_damp wsX0_damp := goodIn_ca (goodIn_ca (goodIn_r _ [7, 8, 9, 10, 6, 11, 12, 13, 14, 15, 16, 17, 18, 19, 20, 21, 22, 23, 24, 25, 26, 27, 28, 29, 30, 31, 32, 33, 34, 35] (by decide +kernel) (by decide +kernel)) (goodIn_sub (fun _ h => List.mem_cons_of_mem _ (List.mem_append_left _ (List.mem_append_right _ h))) (by decide +kernel))) (goodIn_sub (fun _ h => List.mem_cons_of_mem _ (List.mem_append_right _ h)) (by decide +kernel))
set_option maxRecDepth 20000 in
theorem gL_damp_X0_damp : GoodIn wsL_damp (wsV RL 46 RX0 yX0_damp wsX0_damp) := goodIn_app (goodIn_of _ (by decide +kernel)) ggL_damp_X0_damp
set_option maxRecDepth 20000 in
theorem ggL_lend_X0_lend : GoodIn wsL_lend wsX0_lend := goodIn_ca (goodIn_ca (goodIn_ca (goodIn_r _ [8, 9, 10, 11, 12, 13, 14, 15, 16, 17, 7, 18, 19, 20, 21, 22, 23, 24, 25, 26, 27, 28, 29, 30, 31, 32, 33, 34, 35, 36, 37, 38, 39, 40, 41, 42, 43, 44, 45, 46, 47, 48, 49, 50, 51, 52, 53, 54, 55, 56, 57, 58, 59, 60, 61, 62, 63, 64, 65, 66, 67, 68, 69, 70, 71, 72, 73, 74, 75, 76, 77, 78, 79, 80, 81, 82, 83, 84, 85, 86] (by decide +kernel) (by decide +kernel)) (goodIn_sub (fun _ h => List.mem_cons_of_mem _ (List.mem_append_left _ (List.mem_append_left _ (List.mem_append_right _ h)))) (by decide +kernel))) (goodIn_sub (fun _ h => List.mem_cons_of_mem _ (List.mem_append_left _ (List.mem_append_right _ h))) (by decide +kernel))) (goodIn_sub (fun _ h => List.mem_cons_of_mem _ (List.mem_append_right _ h)) (by decide +kernel))
set_option maxRecDepth 20000 in
theorem gL_lend_X0_lend : GoodIn wsL_lend (wsV RL 49 RX0 yX0_lend wsX0_lend) := goodIn_app (goodIn_of _ (by decide +kernel)) ggL_lend_X0_lend
set_option maxRecDepth 20000 in
theorem ggL_sell_X0_sell : GoodIn wsL_sell wsX0_sell := goodIn_ca (goodIn_ca (goodIn_ca (goodIn_r _ [8, 9, 10, 11, 12, 13, 14, 15, 16, 7, 17, 18, 19, 20, 21, 22, 23, 24, 25, 26, 27, 28, 29, 30, 31, 32, 33, 34, 35, 36, 37, 38, 39, 40, 41, 42, 43, 44, 45, 46, 47, 48, 49, 50, 51, 52, 53, 54, 55, 56, 57, 58, 59, 60, 61, 62, 63, 64, 65, 66, 67, 68, 69, 70, 71, 72, 73, 74, 75, 76, 77, 78, 79, 80, 81, 82, 83, 84, 85] (by decide +kernel) (by decide +kernel)) (goodIn_sub (fun _ h => List.mem_cons_of_mem _ (List.mem_append_left _ (List.mem_append_left _ (List.mem_append_right _ h)))) (by decide +kernel))) (goodIn_sub (fun _ h => List.mem_cons_of_mem _ (List.mem_append_left _ (List.mem_append_right _ h))) (by decide +kernel))) (goodIn_sub (fun _ h => List.mem_cons_of_mem _ (List.mem_append_right _ h)) (by decide +kernel))
set_option maxRecDepth 20000 in
theorem gL_sell_X0_sell : GoodIn wsL_sell (wsV RL 52 RX0 yX0_sell wsX0_sell) := goodIn_app (goodIn_of _ (by decide +kernel)) ggL_sell_X0_sell
set_option maxRecDepth 20000 in
theorem ggL_pass_X0_pass : GoodIn wsL_pass wsX0_pass := goodIn_ca (goodIn_ca (goodIn_r _ [7, 8, 9, 10, 11, 12, 13, 6, 14, 15, 16, 17, 18, 19, 20, 21, 22, 23, 24, 25, 26, 27, 28, 29, 30, 31, 32, 33, 34, 35, 36, 37, 38, 39, 40, 41, 42, 43, 44, 45, 46, 47, 48, 49, 50] (by decide +kernel) (by decide +kernel)) (goodIn_sub (fun _ h => List.mem_cons_of_mem _ (List.mem_append_left _ (List.mem_append_right _ h))) (by decide +kernel))) (goodIn_sub (fun _ h => List.mem_cons_of_mem _ (List.mem_append_right _ h)) (by decide +kernel))
set_option maxRecDepth 20000 in
theorem gL_pass_X0_pass : GoodIn wsL_pass (wsV RL 55 RX0 yX0_pass wsX0_pass) := goodIn_app (goodIn_of _ (by decide +kernel)) ggL_pass_X0_pass
set_option maxRecDepth 20000 in
theorem ggL_left_X0_left : GoodIn wsL_left wsX0_left := goodIn_ca (goodIn_r _ [6, 7, 8, 9, 10, 5, 11, 12, 13, 14, 15, 16, 17, 18, 19, 20, 21, 22, 23, 24, 25, 26, 27, 28, 29, 30] (by decide +kernel) (by decide +kernel)) (goodIn_sub (fun _ h => List.mem_cons_of_mem _ (List.mem_append_right _ h)) (by decide +kernel))
set_option maxRecDepth 20000 in
theorem gL_left_X0_left : GoodIn wsL_left (wsV RL 58 RX0 yX0_left wsX0_left) := goodIn_app (goodIn_of _ (by decide +kernel)) ggL_left_X0_left
set_option maxRecDepth 20000 in
theorem ggL_has_X0_has : GoodIn wsL_has wsX0_has := goodIn_ca (goodIn_r _ [6, 7, 8, 9, 10, 11, 5, 12, 13, 14, 15, 16, 17, 18, 19, 20, 21, 22, 23, 24, 25, 26, 27, 28, 29, 30, 31, 32, 33, 34, 35, 36, 37, 38, 39, 40, 41] (by decide +kernel) (by decide +kernel)) (goodIn_sub (fun _ h => List.mem_cons_of_mem _ (List.mem_append_right _ h)) (by decide +kernel))
set_option maxRecDepth 20000 in
theorem gL_has_X0_has : GoodIn wsL_has (wsV RL 61 RX0 yX0_has wsX0_has) := goodIn_app (goodIn_of _ (by decide +kernel)) ggL_has_X0_has
set_option maxRecDepth 20000 in
theorem ggL_colour_X0_colour : GoodIn wsL_colour wsX0_colour := goodIn_ca (goodIn_ca (goodIn_r _ [7, 8, 9, 10, 6, 11, 12, 13, 14, 15, 16, 17, 18, 19, 20, 21, 22, 23, 24, 25, 26, 27, 28, 29, 30, 31, 32, 33, 34, 35, 36, 37, 38, 39, 40, 41, 42, 43, 44, 45, 46, 47, 48, 49, 50, 51, 52, 53] (by decide +kernel) (by decide +kernel)) (goodIn_sub (fun _ h => List.mem_cons_of_mem _ (List.mem_append_left _ (List.mem_append_right _ h))) (by decide +kernel))) (goodIn_sub (fun _ h => List.mem_cons_of_mem _ (List.mem_append_right _ h)) (by decide +kernel))
set_option maxRecDepth 20000 in
theorem gL_colour_X0_colour : GoodIn wsL_colour (wsV RL 64 RX0 yX0_colour wsX0_colour) := goodIn_app (goodIn_of _ (by decide +kernel)) ggL_colour_X0_colour
set_option maxRecDepth 20000 in
theorem ggL_of_X0_of : GoodIn wsL_of wsX0_of := goodIn_ca (goodIn_ca (goodIn_r _ [7, 8, 9, 10, 11, 12, 13, 14, 6, 15, 16, 17, 18, 19, 20, 21, 22, 23, 24, 25, 26, 27, 28, 29, 30, 31, 32, 33, 34, 35, 36, 37, 38, 39, 40, 41, 42, 43, 44, 45, 46, 47, 48, 49, 50, 51, 52, 53, 54, 55, 56, 57, 58, 59, 60, 61, 62, 63, 64, 65, 66, 67, 68, 69, 70, 71, 72, 73, 74, 75, 76, 77, 78, 79, 80, 81, 82, 83, 84, 85, 86, 87, 88, 89, 90, 91] (by decide +kernel) (by decide +kernel)) (goodIn_sub (fun _ h => List.mem_cons_of_mem _ (List.mem_append_left _ (List.mem_append_right _ h))) (by decide +kernel))) (goodIn_sub (fun _ h => List.mem_cons_of_mem _ (List.mem_append_right _ h)) (by decide +kernel))
set_option maxRecDepth 20000 in
theorem gL_of_X0_of : GoodIn wsL_of (wsV RL 67 RX0 yX0_of wsX0_of) := goodIn_app (goodIn_of _ (by decide +kernel)) ggL_of_X0_of
set_option maxRecDepth 20000 in
theorem ggL_layer_X0_layer : GoodIn wsL_layer wsX0_layer := goodIn_ca (goodIn_r _ [6, 7, 8, 9, 10, 11, 12, 5, 13, 14, 15, 16, 17, 18, 19, 20, 21, 22, 23, 24, 25, 26, 27, 28, 29, 30, 31, 32, 33, 34, 35, 36, 37, 38] (by decide +kernel) (by decide +kernel)) (goodIn_sub (fun _ h => List.mem_cons_of_mem _ (List.mem_append_right _ h)) (by decide +kernel))
set_option maxRecDepth 20000 in
theorem gL_layer_X0_layer : GoodIn wsL_layer (wsV RL 70 RX0 yX0_layer wsX0_layer) := goodIn_app (goodIn_of _ (by decide +kernel)) ggL_layer_X0_layer
set_option maxRecDepth 20000 in
theorem ggL_where_X0_where : GoodIn wsL_where wsX0_where := goodIn_ca (goodIn_ca (goodIn_r _ [7, 8, 9, 10, 11, 6, 12, 13, 14, 15, 16, 17, 18, 19, 20, 21, 22, 23, 24, 25, 26, 27, 28, 29, 30, 31, 32, 33, 34, 35, 36, 37, 38, 39, 40, 41, 42, 43, 44] (by decide +kernel) (by decide +kernel)) (goodIn_sub (fun _ h => List.mem_cons_of_mem _ (List.mem_append_left _ (List.mem_append_right _ h))) (by decide +kernel))) (goodIn_sub (fun _ h => List.mem_cons_of_mem _ (List.mem_append_right _ h)) (by decide +kernel))
set_option maxRecDepth 20000 in
theorem gL_where_X0_where : GoodIn wsL_where (wsV RL 73 RX0 yX0_where wsX0_where) := goodIn_app (goodIn_of _ (by decide +kernel)) ggL_where_X0_where
set_option maxRecDepth 20000 in
theorem ggL_recipe_X0_recipe : GoodIn wsL_recipe wsX0_recipe := goodIn_ca (goodIn_r _ [6, 7, 8, 9, 10, 5, 11, 12, 13, 14, 15, 16, 17, 18, 19, 20, 21, 22, 23, 24, 25, 26, 27, 28, 29, 30, 31, 32, 33, 34, 35, 36, 37, 38, 39, 40, 41, 42, 43, 44, 45, 46] (by decide +kernel) (by decide +kernel)) (goodIn_sub (fun _ h => List.mem_cons_of_mem _ (List.mem_append_right _ h)) (by decide +kernel))
set_option maxRecDepth 20000 in
theorem gL_recipe_X0_recipe : GoodIn wsL_recipe (wsV RL 76 RX0 yX0_recipe wsX0_recipe) := goodIn_app (goodIn_of _ (by decide +kernel)) ggL_recipe_X0_recipe
set_option maxRecDepth 20000 in
theorem ggL_paid_X0_paid : GoodIn wsL_paid wsX0_paid := goodIn_ca (goodIn_r _ [6, 7, 8, 9, 5, 10, 11, 12, 13, 14, 15, 16, 17, 18, 19, 20, 21, 22, 23, 24, 25, 26, 27, 28, 29] (by decide +kernel) (by decide +kernel)) (goodIn_sub (fun _ h => List.mem_cons_of_mem _ (List.mem_append_right _ h)) (by decide +kernel))
set_option maxRecDepth 20000 in
theorem gL_paid_X0_paid : GoodIn wsL_paid (wsV RL 79 RX0 yX0_paid wsX0_paid) := goodIn_app (goodIn_of _ (by decide +kernel)) ggL_paid_X0_paid
abbrev vwCl : List vw_C := [(RX0, TX0, 17), (RX1, TX1, 22)]
end
section
theorem dX0_init_0 : decode cX0_init 0 = .ok (.aload_n 0, 1) := by decide +kernel
theorem dX0_init_1 : decode cX0_init 1 = .ok (.invokespecial 3, 3) := by decide +kernel
theorem dX0_init_4 : decode cX0_init 4 = .ok (.aload_n 0, 1) := by decide +kernel
theorem dX0_init_5 : decode cX0_init 5 = .ok (.bipush 18, 2) := by decide +kernel
theorem dX0_init_7 : decode cX0_init 7 = .ok (.newarray .int, 2) := by decide +kernel
theorem dX0_init_9 : decode cX0_init 9 = .ok (.putfield 9, 3) := by decide +kernel
theorem dX0_init_12 : decode cX0_init 12 = .ok (.aload_n 0, 1) := by decide +kernel
theorem dX0_init_13 : decode cX0_init 13 = .ok (.bipush 12, 2) := by decide +kernel
theorem dX0_init_15 : decode cX0_init 15 = .ok (.newarray .int, 2) := by decide +kernel
theorem dX0_init_17 : decode cX0_init 17 = .ok (.putfield 13, 3) := by decide +kernel
theorem dX0_init_20 : decode cX0_init 20 = .ok (.aload_n 0, 1) := by decide +kernel
theorem dX0_init_21 : decode cX0_init 21 = .ok (.bipush 12, 2) := by decide +kernel
theorem dX0_init_23 : decode cX0_init 23 = .ok (.newarray .int, 2) := by decide +kernel
theorem dX0_init_25 : decode cX0_init 25 = .ok (.putfield 16, 3) := by decide +kernel
theorem dX0_init_28 : decode cX0_init 28 = .ok (.aload_n 0, 1) := by decide +kernel
theorem dX0_init_29 : decode cX0_init 29 = .ok (.sipush 1284, 3) := by decide +kernel
theorem dX0_init_32 : decode cX0_init 32 = .ok (.newarray .int, 2) := by decide +kernel
theorem dX0_init_34 : decode cX0_init 34 = .ok (.putfield 19, 3) := by decide +kernel
theorem dX0_init_37 : decode cX0_init 37 = .ok (.aload_n 0, 1) := by decide +kernel
theorem dX0_init_38 : decode cX0_init 38 = .ok (.bipush 8, 2) := by decide +kernel
theorem dX0_init_40 : decode cX0_init 40 = .ok (.newarray .int, 2) := by decide +kernel
theorem dX0_init_42 : decode cX0_init 42 = .ok (.putfield 22, 3) := by decide +kernel
theorem dX0_init_45 : decode cX0_init 45 = .ok (.aload_n 0, 1) := by decide +kernel
theorem dX0_init_46 : decode cX0_init 46 = .ok (.bipush 8, 2) := by decide +kernel
theorem dX0_init_48 : decode cX0_init 48 = .ok (.newarray .int, 2) := by decide +kernel
theorem dX0_init_50 : decode cX0_init 50 = .ok (.putfield 25, 3) := by decide +kernel
theorem dX0_init_53 : decode cX0_init 53 = .ok (.aload_n 0, 1) := by decide +kernel
theorem dX0_init_54 : decode cX0_init 54 = .ok (.bipush 8, 2) := by decide +kernel
theorem dX0_init_56 : decode cX0_init 56 = .ok (.newarray .int, 2) := by decide +kernel
theorem dX0_init_58 : decode cX0_init 58 = .ok (.putfield 28, 3) := by decide +kernel
theorem dX0_init_61 : decode cX0_init 61 = .ok (.aload_n 0, 1) := by decide +kernel
theorem dX0_init_62 : decode cX0_init 62 = .ok (.bipush 8, 2) := by decide +kernel
theorem dX0_init_64 : decode cX0_init 64 = .ok (.newarray .int, 2) := by decide +kernel
theorem dX0_init_66 : decode cX0_init 66 = .ok (.putfield 31, 3) := by decide +kernel
theorem dX0_init_69 : decode cX0_init 69 = .ok (.aload_n 0, 1) := by decide +kernel
theorem dX0_init_70 : decode cX0_init 70 = .ok (.bipush 8, 2) := by decide +kernel
theorem dX0_init_72 : decode cX0_init 72 = .ok (.newarray .int, 2) := by decide +kernel
theorem dX0_init_74 : decode cX0_init 74 = .ok (.putfield 34, 3) := by decide +kernel
theorem dX0_init_77 : decode cX0_init 77 = .ok (.aload_n 0, 1) := by decide +kernel
theorem dX0_init_78 : decode cX0_init 78 = .ok (.bipush 8, 2) := by decide +kernel
theorem dX0_init_80 : decode cX0_init 80 = .ok (.newarray .int, 2) := by decide +kernel
theorem dX0_init_82 : decode cX0_init 82 = .ok (.putfield 37, 3) := by decide +kernel
theorem dX0_init_85 : decode cX0_init 85 = .ok (.aload_n 0, 1) := by decide +kernel
theorem dX0_init_86 : decode cX0_init 86 = .ok (.iconst 4, 1) := by decide +kernel
theorem dX0_init_87 : decode cX0_init 87 = .ok (.newarray .int, 2) := by decide +kernel
theorem dX0_init_89 : decode cX0_init 89 = .ok (.putfield 40, 3) := by decide +kernel
theorem dX0_init_92 : decode cX0_init 92 = .ok (.aload_n 0, 1) := by decide +kernel
theorem dX0_init_93 : decode cX0_init 93 = .ok (.iconst 4, 1) := by decide +kernel
theorem dX0_init_94 : decode cX0_init 94 = .ok (.newarray .int, 2) := by decide +kernel
theorem dX0_init_96 : decode cX0_init 96 = .ok (.putfield 43, 3) := by decide +kernel
theorem dX0_init_99 : decode cX0_init 99 = .ok (.iconst 0, 1) := by decide +kernel
theorem dX0_init_100 : decode cX0_init 100 = .ok (.istore_n 1, 1) := by decide +kernel
theorem dX0_init_101 : decode cX0_init 101 = .ok (.iload_n 1, 1) := by decide +kernel
theorem dX0_init_102 : decode cX0_init 102 = .ok (.iconst 4, 1) := by decide +kernel
theorem dX0_init_103 : decode cX0_init 103 = .ok (.if_icmp .ge 17, 3) := by decide +kernel
theorem dX0_init_106 : decode cX0_init 106 = .ok (.aload_n 0, 1) := by decide +kernel
theorem dX0_init_107 : decode cX0_init 107 = .ok (.getfield 40, 3) := by decide +kernel
theorem dX0_init_110 : decode cX0_init 110 = .ok (.iload_n 1, 1) := by decide +kernel
theorem dX0_init_111 : decode cX0_init 111 = .ok (.bipush 50, 2) := by decide +kernel
theorem dX0_init_113 : decode cX0_init 113 = .ok (.iastore, 1) := by decide +kernel
theorem dX0_init_114 : decode cX0_init 114 = .ok (.iinc 1 1, 3) := by decide +kernel
theorem dX0_init_117 : decode cX0_init 117 = .ok (.goto (-16), 3) := by decide +kernel
theorem dX0_init_120 : decode cX0_init 120 = .ok (.return_, 1) := by decide +kernel
theorem dX0_pigment_0 : decode cX0_pigment 0 = .ok (.iload_n 1, 1) := by decide +kernel
theorem dX0_pigment_1 : decode cX0_pigment 1 = .ok (.iload_n 2, 1) := by decide +kernel
theorem dX0_pigment_2 : decode cX0_pigment 2 = .ok (.iload_n 3, 1) := by decide +kernel
theorem dX0_pigment_3 : decode cX0_pigment 3 = .ok (.invokestatic 46, 3) := by decide +kernel
theorem dX0_pigment_6 : decode cX0_pigment 6 = .ok (.aload_n 0, 1) := by decide +kernel
theorem dX0_pigment_7 : decode cX0_pigment 7 = .ok (.getfield 50, 3) := by decide +kernel
theorem dX0_pigment_10 : decode cX0_pigment 10 = .ok (.bipush 6, 2) := by decide +kernel
theorem dX0_pigment_12 : decode cX0_pigment 12 = .ok (.if_icmp .lt 13, 3) := by decide +kernel
theorem dX0_pigment_15 : decode cX0_pigment 15 = .ok (.new 54, 3) := by decide +kernel
theorem dX0_pigment_18 : decode cX0_pigment 18 = .ok (.dup, 1) := by decide +kernel
theorem dX0_pigment_19 : decode cX0_pigment 19 = .ok (.ldc 56, 2) := by decide +kernel
theorem dX0_pigment_21 : decode cX0_pigment 21 = .ok (.invokespecial 58, 3) := by decide +kernel
theorem dX0_pigment_24 : decode cX0_pigment 24 = .ok (.athrow, 1) := by decide +kernel
theorem dX0_pigment_25 : decode cX0_pigment 25 = .ok (.aload_n 0, 1) := by decide +kernel
theorem dX0_pigment_26 : decode cX0_pigment 26 = .ok (.getfield 50, 3) := by decide +kernel
theorem dX0_pigment_29 : decode cX0_pigment 29 = .ok (.iconst 3, 1) := by decide +kernel
theorem dX0_pigment_30 : decode cX0_pigment 30 = .ok (.imul, 1) := by decide +kernel
theorem dX0_pigment_31 : decode cX0_pigment 31 = .ok (.istore 4, 2) := by decide +kernel
theorem dX0_pigment_33 : decode cX0_pigment 33 = .ok (.aload_n 0, 1) := by decide +kernel
theorem dX0_pigment_34 : decode cX0_pigment 34 = .ok (.getfield 9, 3) := by decide +kernel
theorem dX0_pigment_37 : decode cX0_pigment 37 = .ok (.iload 4, 2) := by decide +kernel
theorem dX0_pigment_39 : decode cX0_pigment 39 = .ok (.iload_n 1, 1) := by decide +kernel
theorem dX0_pigment_40 : decode cX0_pigment 40 = .ok (.iastore, 1) := by decide +kernel
theorem dX0_pigment_41 : decode cX0_pigment 41 = .ok (.aload_n 0, 1) := by decide +kernel
theorem dX0_pigment_42 : decode cX0_pigment 42 = .ok (.getfield 9, 3) := by decide +kernel
theorem dX0_pigment_45 : decode cX0_pigment 45 = .ok (.iload 4, 2) := by decide +kernel
theorem dX0_pigment_47 : decode cX0_pigment 47 = .ok (.iconst 1, 1) := by decide +kernel
theorem dX0_pigment_48 : decode cX0_pigment 48 = .ok (.iadd, 1) := by decide +kernel
theorem dX0_pigment_49 : decode cX0_pigment 49 = .ok (.iload_n 2, 1) := by decide +kernel
theorem dX0_pigment_50 : decode cX0_pigment 50 = .ok (.iastore, 1) := by decide +kernel
theorem dX0_pigment_51 : decode cX0_pigment 51 = .ok (.aload_n 0, 1) := by decide +kernel
theorem dX0_pigment_52 : decode cX0_pigment 52 = .ok (.getfield 9, 3) := by decide +kernel
theorem dX0_pigment_55 : decode cX0_pigment 55 = .ok (.iload 4, 2) := by decide +kernel
theorem dX0_pigment_57 : decode cX0_pigment 57 = .ok (.iconst 2, 1) := by decide +kernel
theorem dX0_pigment_58 : decode cX0_pigment 58 = .ok (.iadd, 1) := by decide +kernel
theorem dX0_pigment_59 : decode cX0_pigment 59 = .ok (.iload_n 3, 1) := by decide +kernel
theorem dX0_pigment_60 : decode cX0_pigment 60 = .ok (.iastore, 1) := by decide +kernel
theorem dX0_pigment_61 : decode cX0_pigment 61 = .ok (.aload_n 0, 1) := by decide +kernel
theorem dX0_pigment_62 : decode cX0_pigment 62 = .ok (.dup, 1) := by decide +kernel
theorem dX0_pigment_63 : decode cX0_pigment 63 = .ok (.getfield 50, 3) := by decide +kernel
theorem dX0_pigment_66 : decode cX0_pigment 66 = .ok (.iconst 1, 1) := by decide +kernel
theorem dX0_pigment_67 : decode cX0_pigment 67 = .ok (.iadd, 1) := by decide +kernel
theorem dX0_pigment_68 : decode cX0_pigment 68 = .ok (.putfield 50, 3) := by decide +kernel
theorem dX0_pigment_71 : decode cX0_pigment 71 = .ok (.aload_n 0, 1) := by decide +kernel
theorem dX0_pigment_72 : decode cX0_pigment 72 = .ok (.getfield 50, 3) := by decide +kernel
theorem dX0_pigment_75 : decode cX0_pigment 75 = .ok (.iconst 1, 1) := by decide +kernel
theorem dX0_pigment_76 : decode cX0_pigment 76 = .ok (.isub, 1) := by decide +kernel
theorem dX0_pigment_77 : decode cX0_pigment 77 = .ok (.ireturn, 1) := by decide +kernel
theorem dX0_tube_0 : decode cX0_tube 0 = .ok (.iload_n 1, 1) := by decide +kernel
theorem dX0_tube_1 : decode cX0_tube 1 = .ok (.aload_n 0, 1) := by decide +kernel
theorem dX0_tube_2 : decode cX0_tube 2 = .ok (.getfield 50, 3) := by decide +kernel
theorem dX0_tube_5 : decode cX0_tube 5 = .ok (.invokestatic 61, 3) := by decide +kernel
theorem dX0_tube_8 : decode cX0_tube 8 = .ok (.iload_n 2, 1) := by decide +kernel
theorem dX0_tube_9 : decode cX0_tube 9 = .ok (.iconst 1, 1) := by decide +kernel
theorem dX0_tube_10 : decode cX0_tube 10 = .ok (.sipush 1000, 3) := by decide +kernel
theorem dX0_tube_13 : decode cX0_tube 13 = .ok (.invokestatic 65, 3) := by decide +kernel
theorem dX0_tube_16 : decode cX0_tube 16 = .ok (.aload_n 0, 1) := by decide +kernel
theorem dX0_tube_17 : decode cX0_tube 17 = .ok (.getfield 68, 3) := by decide +kernel
theorem dX0_tube_20 : decode cX0_tube 20 = .ok (.bipush 12, 2) := by decide +kernel
theorem dX0_tube_22 : decode cX0_tube 22 = .ok (.if_icmp .lt 13, 3) := by decide +kernel
theorem dX0_tube_25 : decode cX0_tube 25 = .ok (.new 54, 3) := by decide +kernel
theorem dX0_tube_28 : decode cX0_tube 28 = .ok (.dup, 1) := by decide +kernel
theorem dX0_tube_29 : decode cX0_tube 29 = .ok (.ldc 71, 2) := by decide +kernel
theorem dX0_tube_31 : decode cX0_tube 31 = .ok (.invokespecial 58, 3) := by decide +kernel
theorem dX0_tube_34 : decode cX0_tube 34 = .ok (.athrow, 1) := by decide +kernel
theorem dX0_tube_35 : decode cX0_tube 35 = .ok (.aload_n 0, 1) := by decide +kernel
theorem dX0_tube_36 : decode cX0_tube 36 = .ok (.getfield 13, 3) := by decide +kernel
theorem dX0_tube_39 : decode cX0_tube 39 = .ok (.aload_n 0, 1) := by decide +kernel
theorem dX0_tube_40 : decode cX0_tube 40 = .ok (.getfield 68, 3) := by decide +kernel
theorem dX0_tube_43 : decode cX0_tube 43 = .ok (.iload_n 1, 1) := by decide +kernel
theorem dX0_tube_44 : decode cX0_tube 44 = .ok (.iastore, 1) := by decide +kernel
theorem dX0_tube_45 : decode cX0_tube 45 = .ok (.aload_n 0, 1) := by decide +kernel
theorem dX0_tube_46 : decode cX0_tube 46 = .ok (.getfield 16, 3) := by decide +kernel
theorem dX0_tube_49 : decode cX0_tube 49 = .ok (.aload_n 0, 1) := by decide +kernel
theorem dX0_tube_50 : decode cX0_tube 50 = .ok (.getfield 68, 3) := by decide +kernel
theorem dX0_tube_53 : decode cX0_tube 53 = .ok (.iload_n 2, 1) := by decide +kernel
theorem dX0_tube_54 : decode cX0_tube 54 = .ok (.iastore, 1) := by decide +kernel
theorem dX0_tube_55 : decode cX0_tube 55 = .ok (.aload_n 0, 1) := by decide +kernel
theorem dX0_tube_56 : decode cX0_tube 56 = .ok (.dup, 1) := by decide +kernel
theorem dX0_tube_57 : decode cX0_tube 57 = .ok (.getfield 68, 3) := by decide +kernel
theorem dX0_tube_60 : decode cX0_tube 60 = .ok (.iconst 1, 1) := by decide +kernel
theorem dX0_tube_61 : decode cX0_tube 61 = .ok (.iadd, 1) := by decide +kernel
theorem dX0_tube_62 : decode cX0_tube 62 = .ok (.putfield 68, 3) := by decide +kernel
theorem dX0_tube_65 : decode cX0_tube 65 = .ok (.aload_n 0, 1) := by decide +kernel
theorem dX0_tube_66 : decode cX0_tube 66 = .ok (.getfield 68, 3) := by decide +kernel
theorem dX0_tube_69 : decode cX0_tube 69 = .ok (.iconst 1, 1) := by decide +kernel
theorem dX0_tube_70 : decode cX0_tube 70 = .ok (.isub, 1) := by decide +kernel
theorem dX0_tube_71 : decode cX0_tube 71 = .ok (.ireturn, 1) := by decide +kernel
theorem dX0_pot_0 : decode cX0_pot 0 = .ok (.aload_n 0, 1) := by decide +kernel
theorem dX0_pot_1 : decode cX0_pot 1 = .ok (.getfield 73, 3) := by decide +kernel
theorem dX0_pot_4 : decode cX0_pot 4 = .ok (.bipush 10, 2) := by decide +kernel
theorem dX0_pot_6 : decode cX0_pot 6 = .ok (.if_icmp .lt 13, 3) := by decide +kernel
theorem dX0_pot_9 : decode cX0_pot 9 = .ok (.new 54, 3) := by decide +kernel
theorem dX0_pot_12 : decode cX0_pot 12 = .ok (.dup, 1) := by decide +kernel
theorem dX0_pot_13 : decode cX0_pot 13 = .ok (.ldc 76, 2) := by decide +kernel
theorem dX0_pot_15 : decode cX0_pot 15 = .ok (.invokespecial 58, 3) := by decide +kernel
theorem dX0_pot_18 : decode cX0_pot 18 = .ok (.athrow, 1) := by decide +kernel
theorem dX0_pot_19 : decode cX0_pot 19 = .ok (.aload_n 0, 1) := by decide +kernel
theorem dX0_pot_20 : decode cX0_pot 20 = .ok (.dup, 1) := by decide +kernel
theorem dX0_pot_21 : decode cX0_pot 21 = .ok (.getfield 73, 3) := by decide +kernel
theorem dX0_pot_24 : decode cX0_pot 24 = .ok (.iconst 1, 1) := by decide +kernel
theorem dX0_pot_25 : decode cX0_pot 25 = .ok (.iadd, 1) := by decide +kernel
theorem dX0_pot_26 : decode cX0_pot 26 = .ok (.putfield 73, 3) := by decide +kernel
theorem dX0_pot_29 : decode cX0_pot 29 = .ok (.aload_n 0, 1) := by decide +kernel
theorem dX0_pot_30 : decode cX0_pot 30 = .ok (.getfield 73, 3) := by decide +kernel
theorem dX0_pot_33 : decode cX0_pot 33 = .ok (.iconst 1, 1) := by decide +kernel
theorem dX0_pot_34 : decode cX0_pot 34 = .ok (.isub, 1) := by decide +kernel
theorem dX0_pot_35 : decode cX0_pot 35 = .ok (.ireturn, 1) := by decide +kernel
theorem dX0_squeeze_0 : decode cX0_squeeze 0 = .ok (.iload_n 1, 1) := by decide +kernel
theorem dX0_squeeze_1 : decode cX0_squeeze 1 = .ok (.aload_n 0, 1) := by decide +kernel
theorem dX0_squeeze_2 : decode cX0_squeeze 2 = .ok (.getfield 73, 3) := by decide +kernel
theorem dX0_squeeze_5 : decode cX0_squeeze 5 = .ok (.invokestatic 61, 3) := by decide +kernel
theorem dX0_squeeze_8 : decode cX0_squeeze 8 = .ok (.iload_n 2, 1) := by decide +kernel
theorem dX0_squeeze_9 : decode cX0_squeeze 9 = .ok (.aload_n 0, 1) := by decide +kernel
theorem dX0_squeeze_10 : decode cX0_squeeze 10 = .ok (.getfield 68, 3) := by decide +kernel
theorem dX0_squeeze_13 : decode cX0_squeeze 13 = .ok (.invokestatic 61, 3) := by decide +kernel
theorem dX0_squeeze_16 : decode cX0_squeeze 16 = .ok (.iload_n 3, 1) := by decide +kernel
theorem dX0_squeeze_17 : decode cX0_squeeze 17 = .ok (.iconst 1, 1) := by decide +kernel
theorem dX0_squeeze_18 : decode cX0_squeeze 18 = .ok (.sipush 1000, 3) := by decide +kernel
theorem dX0_squeeze_21 : decode cX0_squeeze 21 = .ok (.invokestatic 65, 3) := by decide +kernel
theorem dX0_squeeze_24 : decode cX0_squeeze 24 = .ok (.aload_n 0, 1) := by decide +kernel
theorem dX0_squeeze_25 : decode cX0_squeeze 25 = .ok (.getfield 16, 3) := by decide +kernel
theorem dX0_squeeze_28 : decode cX0_squeeze 28 = .ok (.iload_n 2, 1) := by decide +kernel
theorem dX0_squeeze_29 : decode cX0_squeeze 29 = .ok (.iaload, 1) := by decide +kernel
theorem dX0_squeeze_30 : decode cX0_squeeze 30 = .ok (.iload_n 3, 1) := by decide +kernel
theorem dX0_squeeze_31 : decode cX0_squeeze 31 = .ok (.if_icmp .ge 13, 3) := by decide +kernel
theorem dX0_squeeze_34 : decode cX0_squeeze 34 = .ok (.new 54, 3) := by decide +kernel
theorem dX0_squeeze_37 : decode cX0_squeeze 37 = .ok (.dup, 1) := by decide +kernel
theorem dX0_squeeze_38 : decode cX0_squeeze 38 = .ok (.ldc 78, 2) := by decide +kernel
theorem dX0_squeeze_40 : decode cX0_squeeze 40 = .ok (.invokespecial 58, 3) := by decide +kernel
theorem dX0_squeeze_43 : decode cX0_squeeze 43 = .ok (.athrow, 1) := by decide +kernel
theorem dX0_squeeze_44 : decode cX0_squeeze 44 = .ok (.aload_n 0, 1) := by decide +kernel
theorem dX0_squeeze_45 : decode cX0_squeeze 45 = .ok (.getfield 16, 3) := by decide +kernel
theorem dX0_squeeze_48 : decode cX0_squeeze 48 = .ok (.iload_n 2, 1) := by decide +kernel
theorem dX0_squeeze_49 : decode cX0_squeeze 49 = .ok (.dup2, 1) := by decide +kernel
theorem dX0_squeeze_50 : decode cX0_squeeze 50 = .ok (.iaload, 1) := by decide +kernel
theorem dX0_squeeze_51 : decode cX0_squeeze 51 = .ok (.iload_n 3, 1) := by decide +kernel
theorem dX0_squeeze_52 : decode cX0_squeeze 52 = .ok (.isub, 1) := by decide +kernel
theorem dX0_squeeze_53 : decode cX0_squeeze 53 = .ok (.iastore, 1) := by decide +kernel
theorem dX0_squeeze_54 : decode cX0_squeeze 54 = .ok (.aload_n 0, 1) := by decide +kernel
theorem dX0_squeeze_55 : decode cX0_squeeze 55 = .ok (.getfield 19, 3) := by decide +kernel
theorem dX0_squeeze_58 : decode cX0_squeeze 58 = .ok (.iload_n 1, 1) := by decide +kernel
theorem dX0_squeeze_59 : decode cX0_squeeze 59 = .ok (.invokestatic 80, 3) := by decide +kernel
theorem dX0_squeeze_62 : decode cX0_squeeze 62 = .ok (.iload_n 2, 1) := by decide +kernel
theorem dX0_squeeze_63 : decode cX0_squeeze 63 = .ok (.invokestatic 84, 3) := by decide +kernel
theorem dX0_squeeze_66 : decode cX0_squeeze 66 = .ok (.dup2, 1) := by decide +kernel
theorem dX0_squeeze_67 : decode cX0_squeeze 67 = .ok (.iaload, 1) := by decide +kernel
theorem dX0_squeeze_68 : decode cX0_squeeze 68 = .ok (.iload_n 3, 1) := by decide +kernel
theorem dX0_squeeze_69 : decode cX0_squeeze 69 = .ok (.iadd, 1) := by decide +kernel
theorem dX0_squeeze_70 : decode cX0_squeeze 70 = .ok (.iastore, 1) := by decide +kernel
theorem dX0_squeeze_71 : decode cX0_squeeze 71 = .ok (.aload_n 0, 1) := by decide +kernel
theorem dX0_squeeze_72 : decode cX0_squeeze 72 = .ok (.getfield 16, 3) := by decide +kernel
theorem dX0_squeeze_75 : decode cX0_squeeze 75 = .ok (.iload_n 2, 1) := by decide +kernel
theorem dX0_squeeze_76 : decode cX0_squeeze 76 = .ok (.iaload, 1) := by decide +kernel
theorem dX0_squeeze_77 : decode cX0_squeeze 77 = .ok (.ireturn, 1) := by decide +kernel
theorem dX0_pour_0 : decode cX0_pour 0 = .ok (.iload_n 1, 1) := by decide +kernel
theorem dX0_pour_1 : decode cX0_pour 1 = .ok (.aload_n 0, 1) := by decide +kernel
theorem dX0_pour_2 : decode cX0_pour 2 = .ok (.getfield 73, 3) := by decide +kernel
theorem dX0_pour_5 : decode cX0_pour 5 = .ok (.invokestatic 61, 3) := by decide +kernel
theorem dX0_pour_8 : decode cX0_pour 8 = .ok (.iload_n 2, 1) := by decide +kernel
theorem dX0_pour_9 : decode cX0_pour 9 = .ok (.aload_n 0, 1) := by decide +kernel
theorem dX0_pour_10 : decode cX0_pour 10 = .ok (.getfield 73, 3) := by decide +kernel
theorem dX0_pour_13 : decode cX0_pour 13 = .ok (.invokestatic 61, 3) := by decide +kernel
theorem dX0_pour_16 : decode cX0_pour 16 = .ok (.iload_n 1, 1) := by decide +kernel
theorem dX0_pour_17 : decode cX0_pour 17 = .ok (.iload_n 2, 1) := by decide +kernel
theorem dX0_pour_18 : decode cX0_pour 18 = .ok (.if_icmp .ne 13, 3) := by decide +kernel
theorem dX0_pour_21 : decode cX0_pour 21 = .ok (.new 88, 3) := by decide +kernel
theorem dX0_pour_24 : decode cX0_pour 24 = .ok (.dup, 1) := by decide +kernel
theorem dX0_pour_25 : decode cX0_pour 25 = .ok (.ldc 90, 2) := by decide +kernel
theorem dX0_pour_27 : decode cX0_pour 27 = .ok (.invokespecial 92, 3) := by decide +kernel
theorem dX0_pour_30 : decode cX0_pour 30 = .ok (.athrow, 1) := by decide +kernel
theorem dX0_pour_31 : decode cX0_pour 31 = .ok (.iload_n 3, 1) := by decide +kernel
theorem dX0_pour_32 : decode cX0_pour 32 = .ok (.iconst 1, 1) := by decide +kernel
theorem dX0_pour_33 : decode cX0_pour 33 = .ok (.sipush 12000, 3) := by decide +kernel
theorem dX0_pour_36 : decode cX0_pour 36 = .ok (.invokestatic 65, 3) := by decide +kernel
theorem dX0_pour_39 : decode cX0_pour 39 = .ok (.aload_n 0, 1) := by decide +kernel
theorem dX0_pour_40 : decode cX0_pour 40 = .ok (.iload_n 1, 1) := by decide +kernel
theorem dX0_pour_41 : decode cX0_pour 41 = .ok (.invokestatic 80, 3) := by decide +kernel
theorem dX0_pour_44 : decode cX0_pour 44 = .ok (.iload_n 2, 1) := by decide +kernel
theorem dX0_pour_45 : decode cX0_pour 45 = .ok (.invokestatic 80, 3) := by decide +kernel
theorem dX0_pour_48 : decode cX0_pour 48 = .ok (.iload_n 3, 1) := by decide +kernel
theorem dX0_pour_49 : decode cX0_pour 49 = .ok (.invokevirtual 93, 3) := by decide +kernel
theorem dX0_pour_52 : decode cX0_pour 52 = .ok (.ifCond .ne 13, 3) := by decide +kernel
theorem dX0_pour_55 : decode cX0_pour 55 = .ok (.new 54, 3) := by decide +kernel
theorem dX0_pour_58 : decode cX0_pour 58 = .ok (.dup, 1) := by decide +kernel
theorem dX0_pour_59 : decode cX0_pour 59 = .ok (.ldc 97, 2) := by decide +kernel
theorem dX0_pour_61 : decode cX0_pour 61 = .ok (.invokespecial 58, 3) := by decide +kernel
theorem dX0_pour_64 : decode cX0_pour 64 = .ok (.athrow, 1) := by decide +kernel
theorem dX0_pour_65 : decode cX0_pour 65 = .ok (.aload_n 0, 1) := by decide +kernel
theorem dX0_pour_66 : decode cX0_pour 66 = .ok (.iload_n 2, 1) := by decide +kernel
theorem dX0_pour_67 : decode cX0_pour 67 = .ok (.invokestatic 80, 3) := by decide +kernel
theorem dX0_pour_70 : decode cX0_pour 70 = .ok (.invokevirtual 99, 3) := by decide +kernel
theorem dX0_pour_73 : decode cX0_pour 73 = .ok (.ireturn, 1) := by decide +kernel
theorem dX0_scrape_0 : decode cX0_scrape 0 = .ok (.iload_n 1, 1) := by decide +kernel
theorem dX0_scrape_1 : decode cX0_scrape 1 = .ok (.aload_n 0, 1) := by decide +kernel
theorem dX0_scrape_2 : decode cX0_scrape 2 = .ok (.getfield 73, 3) := by decide +kernel
theorem dX0_scrape_5 : decode cX0_scrape 5 = .ok (.invokestatic 61, 3) := by decide +kernel
theorem dX0_scrape_8 : decode cX0_scrape 8 = .ok (.aload_n 0, 1) := by decide +kernel
theorem dX0_scrape_9 : decode cX0_scrape 9 = .ok (.iload_n 1, 1) := by decide +kernel
theorem dX0_scrape_10 : decode cX0_scrape 10 = .ok (.invokestatic 80, 3) := by decide +kernel
theorem dX0_scrape_13 : decode cX0_scrape 13 = .ok (.invokevirtual 102, 3) := by decide +kernel
theorem dX0_scrape_16 : decode cX0_scrape 16 = .ok (.ireturn, 1) := by decide +kernel
theorem dX0_picture_0 : decode cX0_picture 0 = .ok (.aload_n 0, 1) := by decide +kernel
theorem dX0_picture_1 : decode cX0_picture 1 = .ok (.getfield 105, 3) := by decide +kernel
theorem dX0_picture_4 : decode cX0_picture 4 = .ok (.bipush 8, 2) := by decide +kernel
theorem dX0_picture_6 : decode cX0_picture 6 = .ok (.if_icmp .lt 13, 3) := by decide +kernel
theorem dX0_picture_9 : decode cX0_picture 9 = .ok (.new 54, 3) := by decide +kernel
theorem dX0_picture_12 : decode cX0_picture 12 = .ok (.dup, 1) := by decide +kernel
theorem dX0_picture_13 : decode cX0_picture 13 = .ok (.ldc 108, 2) := by decide +kernel
theorem dX0_picture_15 : decode cX0_picture 15 = .ok (.invokespecial 58, 3) := by decide +kernel
theorem dX0_picture_18 : decode cX0_picture 18 = .ok (.athrow, 1) := by decide +kernel
theorem dX0_picture_19 : decode cX0_picture 19 = .ok (.aload_n 0, 1) := by decide +kernel
theorem dX0_picture_20 : decode cX0_picture 20 = .ok (.dup, 1) := by decide +kernel
theorem dX0_picture_21 : decode cX0_picture 21 = .ok (.getfield 105, 3) := by decide +kernel
theorem dX0_picture_24 : decode cX0_picture 24 = .ok (.iconst 1, 1) := by decide +kernel
theorem dX0_picture_25 : decode cX0_picture 25 = .ok (.iadd, 1) := by decide +kernel
theorem dX0_picture_26 : decode cX0_picture 26 = .ok (.putfield 105, 3) := by decide +kernel
theorem dX0_picture_29 : decode cX0_picture 29 = .ok (.aload_n 0, 1) := by decide +kernel
theorem dX0_picture_30 : decode cX0_picture 30 = .ok (.getfield 105, 3) := by decide +kernel
theorem dX0_picture_33 : decode cX0_picture 33 = .ok (.iconst 1, 1) := by decide +kernel
theorem dX0_picture_34 : decode cX0_picture 34 = .ok (.isub, 1) := by decide +kernel
theorem dX0_picture_35 : decode cX0_picture 35 = .ok (.ireturn, 1) := by decide +kernel
theorem dX0_paint_0 : decode cX0_paint 0 = .ok (.iload_n 1, 1) := by decide +kernel
theorem dX0_paint_1 : decode cX0_paint 1 = .ok (.aload_n 0, 1) := by decide +kernel
theorem dX0_paint_2 : decode cX0_paint 2 = .ok (.getfield 105, 3) := by decide +kernel
theorem dX0_paint_5 : decode cX0_paint 5 = .ok (.invokestatic 61, 3) := by decide +kernel
theorem dX0_paint_8 : decode cX0_paint 8 = .ok (.iload_n 2, 1) := by decide +kernel
theorem dX0_paint_9 : decode cX0_paint 9 = .ok (.aload_n 0, 1) := by decide +kernel
theorem dX0_paint_10 : decode cX0_paint 10 = .ok (.getfield 73, 3) := by decide +kernel
theorem dX0_paint_13 : decode cX0_paint 13 = .ok (.invokestatic 61, 3) := by decide +kernel
theorem dX0_paint_16 : decode cX0_paint 16 = .ok (.iload_n 3, 1) := by decide +kernel
theorem dX0_paint_17 : decode cX0_paint 17 = .ok (.iconst 1, 1) := by decide +kernel
theorem dX0_paint_18 : decode cX0_paint 18 = .ok (.sipush 1000, 3) := by decide +kernel
theorem dX0_paint_21 : decode cX0_paint 21 = .ok (.invokestatic 65, 3) := by decide +kernel
theorem dX0_paint_24 : decode cX0_paint 24 = .ok (.aload_n 0, 1) := by decide +kernel
theorem dX0_paint_25 : decode cX0_paint 25 = .ok (.iload_n 1, 1) := by decide +kernel
theorem dX0_paint_26 : decode cX0_paint 26 = .ok (.invokevirtual 110, 3) := by decide +kernel
theorem dX0_paint_29 : decode cX0_paint 29 = .ok (.aload_n 0, 1) := by decide +kernel
theorem dX0_paint_30 : decode cX0_paint 30 = .ok (.getfield 22, 3) := by decide +kernel
theorem dX0_paint_33 : decode cX0_paint 33 = .ok (.iload_n 1, 1) := by decide +kernel
theorem dX0_paint_34 : decode cX0_paint 34 = .ok (.iaload, 1) := by decide +kernel
theorem dX0_paint_35 : decode cX0_paint 35 = .ok (.bipush 12, 2) := by decide +kernel
theorem dX0_paint_37 : decode cX0_paint 37 = .ok (.if_icmp .lt 13, 3) := by decide +kernel
theorem dX0_paint_40 : decode cX0_paint 40 = .ok (.new 54, 3) := by decide +kernel
theorem dX0_paint_43 : decode cX0_paint 43 = .ok (.dup, 1) := by decide +kernel
theorem dX0_paint_44 : decode cX0_paint 44 = .ok (.ldc 114, 2) := by decide +kernel
theorem dX0_paint_46 : decode cX0_paint 46 = .ok (.invokespecial 58, 3) := by decide +kernel
theorem dX0_paint_49 : decode cX0_paint 49 = .ok (.athrow, 1) := by decide +kernel
theorem dX0_paint_50 : decode cX0_paint 50 = .ok (.aload_n 0, 1) := by decide +kernel
theorem dX0_paint_51 : decode cX0_paint 51 = .ok (.iload_n 2, 1) := by decide +kernel
theorem dX0_paint_52 : decode cX0_paint 52 = .ok (.invokestatic 80, 3) := by decide +kernel
theorem dX0_paint_55 : decode cX0_paint 55 = .ok (.iload_n 1, 1) := by decide +kernel
theorem dX0_paint_56 : decode cX0_paint 56 = .ok (.aload_n 0, 1) := by decide +kernel
theorem dX0_paint_57 : decode cX0_paint 57 = .ok (.getfield 22, 3) := by decide +kernel
theorem dX0_paint_60 : decode cX0_paint 60 = .ok (.iload_n 1, 1) := by decide +kernel
theorem dX0_paint_61 : decode cX0_paint 61 = .ok (.iaload, 1) := by decide +kernel
theorem dX0_paint_62 : decode cX0_paint 62 = .ok (.invokestatic 116, 3) := by decide +kernel
theorem dX0_paint_65 : decode cX0_paint 65 = .ok (.iload_n 3, 1) := by decide +kernel
theorem dX0_paint_66 : decode cX0_paint 66 = .ok (.invokevirtual 93, 3) := by decide +kernel
theorem dX0_paint_69 : decode cX0_paint 69 = .ok (.ifCond .ne 13, 3) := by decide +kernel
theorem dX0_paint_72 : decode cX0_paint 72 = .ok (.new 54, 3) := by decide +kernel
theorem dX0_paint_75 : decode cX0_paint 75 = .ok (.dup, 1) := by decide +kernel
theorem dX0_paint_76 : decode cX0_paint 76 = .ok (.ldc 97, 2) := by decide +kernel
theorem dX0_paint_78 : decode cX0_paint 78 = .ok (.invokespecial 58, 3) := by decide +kernel
theorem dX0_paint_81 : decode cX0_paint 81 = .ok (.athrow, 1) := by decide +kernel
theorem dX0_paint_82 : decode cX0_paint 82 = .ok (.aload_n 0, 1) := by decide +kernel
theorem dX0_paint_83 : decode cX0_paint 83 = .ok (.getfield 22, 3) := by decide +kernel
theorem dX0_paint_86 : decode cX0_paint 86 = .ok (.iload_n 1, 1) := by decide +kernel
theorem dX0_paint_87 : decode cX0_paint 87 = .ok (.dup2, 1) := by decide +kernel
theorem dX0_paint_88 : decode cX0_paint 88 = .ok (.iaload, 1) := by decide +kernel
theorem dX0_paint_89 : decode cX0_paint 89 = .ok (.iconst 1, 1) := by decide +kernel
theorem dX0_paint_90 : decode cX0_paint 90 = .ok (.iadd, 1) := by decide +kernel
theorem dX0_paint_91 : decode cX0_paint 91 = .ok (.iastore, 1) := by decide +kernel
theorem dX0_paint_92 : decode cX0_paint 92 = .ok (.aload_n 0, 1) := by decide +kernel
theorem dX0_paint_93 : decode cX0_paint 93 = .ok (.getfield 22, 3) := by decide +kernel
theorem dX0_paint_96 : decode cX0_paint 96 = .ok (.iload_n 1, 1) := by decide +kernel
theorem dX0_paint_97 : decode cX0_paint 97 = .ok (.iaload, 1) := by decide +kernel
theorem dX0_paint_98 : decode cX0_paint 98 = .ok (.ireturn, 1) := by decide +kernel
theorem dX0_clean_0 : decode cX0_clean 0 = .ok (.iload_n 1, 1) := by decide +kernel
theorem dX0_clean_1 : decode cX0_clean 1 = .ok (.aload_n 0, 1) := by decide +kernel
theorem dX0_clean_2 : decode cX0_clean 2 = .ok (.getfield 105, 3) := by decide +kernel
theorem dX0_clean_5 : decode cX0_clean 5 = .ok (.invokestatic 61, 3) := by decide +kernel
theorem dX0_clean_8 : decode cX0_clean 8 = .ok (.iload_n 2, 1) := by decide +kernel
theorem dX0_clean_9 : decode cX0_clean 9 = .ok (.iconst 1, 1) := by decide +kernel
theorem dX0_clean_10 : decode cX0_clean 10 = .ok (.bipush 12, 2) := by decide +kernel
theorem dX0_clean_12 : decode cX0_clean 12 = .ok (.invokestatic 65, 3) := by decide +kernel
theorem dX0_clean_15 : decode cX0_clean 15 = .ok (.aload_n 0, 1) := by decide +kernel
theorem dX0_clean_16 : decode cX0_clean 16 = .ok (.iload_n 1, 1) := by decide +kernel
theorem dX0_clean_17 : decode cX0_clean 17 = .ok (.invokevirtual 110, 3) := by decide +kernel
theorem dX0_clean_20 : decode cX0_clean 20 = .ok (.aload_n 0, 1) := by decide +kernel
theorem dX0_clean_21 : decode cX0_clean 21 = .ok (.getfield 22, 3) := by decide +kernel
theorem dX0_clean_24 : decode cX0_clean 24 = .ok (.iload_n 1, 1) := by decide +kernel
theorem dX0_clean_25 : decode cX0_clean 25 = .ok (.iaload, 1) := by decide +kernel
theorem dX0_clean_26 : decode cX0_clean 26 = .ok (.iload_n 2, 1) := by decide +kernel
theorem dX0_clean_27 : decode cX0_clean 27 = .ok (.if_icmp .ge 13, 3) := by decide +kernel
theorem dX0_clean_30 : decode cX0_clean 30 = .ok (.new 54, 3) := by decide +kernel
theorem dX0_clean_33 : decode cX0_clean 33 = .ok (.dup, 1) := by decide +kernel
theorem dX0_clean_34 : decode cX0_clean 34 = .ok (.ldc 119, 2) := by decide +kernel
theorem dX0_clean_36 : decode cX0_clean 36 = .ok (.invokespecial 58, 3) := by decide +kernel
theorem dX0_clean_39 : decode cX0_clean 39 = .ok (.athrow, 1) := by decide +kernel
theorem dX0_clean_40 : decode cX0_clean 40 = .ok (.iconst 0, 1) := by decide +kernel
theorem dX0_clean_41 : decode cX0_clean 41 = .ok (.istore_n 3, 1) := by decide +kernel
theorem dX0_clean_42 : decode cX0_clean 42 = .ok (.iconst 0, 1) := by decide +kernel
theorem dX0_clean_43 : decode cX0_clean 43 = .ok (.istore 4, 2) := by decide +kernel
theorem dX0_clean_45 : decode cX0_clean 45 = .ok (.iload 4, 2) := by decide +kernel
theorem dX0_clean_47 : decode cX0_clean 47 = .ok (.iload_n 2, 1) := by decide +kernel
theorem dX0_clean_48 : decode cX0_clean 48 = .ok (.if_icmp .ge 36, 3) := by decide +kernel
theorem dX0_clean_51 : decode cX0_clean 51 = .ok (.aload_n 0, 1) := by decide +kernel
theorem dX0_clean_52 : decode cX0_clean 52 = .ok (.getfield 22, 3) := by decide +kernel
theorem dX0_clean_55 : decode cX0_clean 55 = .ok (.iload_n 1, 1) := by decide +kernel
theorem dX0_clean_56 : decode cX0_clean 56 = .ok (.dup2, 1) := by decide +kernel
theorem dX0_clean_57 : decode cX0_clean 57 = .ok (.iaload, 1) := by decide +kernel
theorem dX0_clean_58 : decode cX0_clean 58 = .ok (.iconst 1, 1) := by decide +kernel
theorem dX0_clean_59 : decode cX0_clean 59 = .ok (.isub, 1) := by decide +kernel
theorem dX0_clean_60 : decode cX0_clean 60 = .ok (.iastore, 1) := by decide +kernel
theorem dX0_clean_61 : decode cX0_clean 61 = .ok (.iload_n 3, 1) := by decide +kernel
theorem dX0_clean_62 : decode cX0_clean 62 = .ok (.aload_n 0, 1) := by decide +kernel
theorem dX0_clean_63 : decode cX0_clean 63 = .ok (.iload_n 1, 1) := by decide +kernel
theorem dX0_clean_64 : decode cX0_clean 64 = .ok (.aload_n 0, 1) := by decide +kernel
theorem dX0_clean_65 : decode cX0_clean 65 = .ok (.getfield 22, 3) := by decide +kernel
theorem dX0_clean_68 : decode cX0_clean 68 = .ok (.iload_n 1, 1) := by decide +kernel
theorem dX0_clean_69 : decode cX0_clean 69 = .ok (.iaload, 1) := by decide +kernel
theorem dX0_clean_70 : decode cX0_clean 70 = .ok (.invokestatic 116, 3) := by decide +kernel
theorem dX0_clean_73 : decode cX0_clean 73 = .ok (.invokevirtual 102, 3) := by decide +kernel
theorem dX0_clean_76 : decode cX0_clean 76 = .ok (.iadd, 1) := by decide +kernel
theorem dX0_clean_77 : decode cX0_clean 77 = .ok (.istore_n 3, 1) := by decide +kernel
theorem dX0_clean_78 : decode cX0_clean 78 = .ok (.iinc 4 1, 3) := by decide +kernel
theorem dX0_clean_81 : decode cX0_clean 81 = .ok (.goto (-36), 3) := by decide +kernel
theorem dX0_clean_84 : decode cX0_clean 84 = .ok (.iload_n 3, 1) := by decide +kernel
theorem dX0_clean_85 : decode cX0_clean 85 = .ok (.ireturn, 1) := by decide +kernel
theorem dX0_damp_0 : decode cX0_damp 0 = .ok (.iload_n 1, 1) := by decide +kernel
theorem dX0_damp_1 : decode cX0_damp 1 = .ok (.iconst 4, 1) := by decide +kernel
theorem dX0_damp_2 : decode cX0_damp 2 = .ok (.invokestatic 61, 3) := by decide +kernel
theorem dX0_damp_5 : decode cX0_damp 5 = .ok (.iload_n 2, 1) := by decide +kernel
theorem dX0_damp_6 : decode cX0_damp 6 = .ok (.iconst 0, 1) := by decide +kernel
theorem dX0_damp_7 : decode cX0_damp 7 = .ok (.bipush 100, 2) := by decide +kernel
theorem dX0_damp_9 : decode cX0_damp 9 = .ok (.invokestatic 65, 3) := by decide +kernel
theorem dX0_damp_12 : decode cX0_damp 12 = .ok (.aload_n 0, 1) := by decide +kernel
theorem dX0_damp_13 : decode cX0_damp 13 = .ok (.getfield 40, 3) := by decide +kernel
theorem dX0_damp_16 : decode cX0_damp 16 = .ok (.iload_n 1, 1) := by decide +kernel
theorem dX0_damp_17 : decode cX0_damp 17 = .ok (.iaload, 1) := by decide +kernel
theorem dX0_damp_18 : decode cX0_damp 18 = .ok (.istore_n 3, 1) := by decide +kernel
theorem dX0_damp_19 : decode cX0_damp 19 = .ok (.aload_n 0, 1) := by decide +kernel
theorem dX0_damp_20 : decode cX0_damp 20 = .ok (.getfield 40, 3) := by decide +kernel
theorem dX0_damp_23 : decode cX0_damp 23 = .ok (.iload_n 1, 1) := by decide +kernel
theorem dX0_damp_24 : decode cX0_damp 24 = .ok (.iload_n 2, 1) := by decide +kernel
theorem dX0_damp_25 : decode cX0_damp 25 = .ok (.iastore, 1) := by decide +kernel
theorem dX0_damp_26 : decode cX0_damp 26 = .ok (.iload_n 3, 1) := by decide +kernel
theorem dX0_damp_27 : decode cX0_damp 27 = .ok (.ireturn, 1) := by decide +kernel
theorem dX0_lend_0 : decode cX0_lend 0 = .ok (.iload_n 1, 1) := by decide +kernel
theorem dX0_lend_1 : decode cX0_lend 1 = .ok (.aload_n 0, 1) := by decide +kernel
theorem dX0_lend_2 : decode cX0_lend 2 = .ok (.getfield 105, 3) := by decide +kernel
theorem dX0_lend_5 : decode cX0_lend 5 = .ok (.invokestatic 61, 3) := by decide +kernel
theorem dX0_lend_8 : decode cX0_lend 8 = .ok (.iload_n 2, 1) := by decide +kernel
theorem dX0_lend_9 : decode cX0_lend 9 = .ok (.iconst 4, 1) := by decide +kernel
theorem dX0_lend_10 : decode cX0_lend 10 = .ok (.invokestatic 61, 3) := by decide +kernel
theorem dX0_lend_13 : decode cX0_lend 13 = .ok (.iload_n 3, 1) := by decide +kernel
theorem dX0_lend_14 : decode cX0_lend 14 = .ok (.iconst 1, 1) := by decide +kernel
theorem dX0_lend_15 : decode cX0_lend 15 = .ok (.bipush 100, 2) := by decide +kernel
theorem dX0_lend_17 : decode cX0_lend 17 = .ok (.invokestatic 65, 3) := by decide +kernel
theorem dX0_lend_20 : decode cX0_lend 20 = .ok (.aload_n 0, 1) := by decide +kernel
theorem dX0_lend_21 : decode cX0_lend 21 = .ok (.iload_n 1, 1) := by decide +kernel
theorem dX0_lend_22 : decode cX0_lend 22 = .ok (.invokevirtual 110, 3) := by decide +kernel
theorem dX0_lend_25 : decode cX0_lend 25 = .ok (.aload_n 0, 1) := by decide +kernel
theorem dX0_lend_26 : decode cX0_lend 26 = .ok (.getfield 25, 3) := by decide +kernel
theorem dX0_lend_29 : decode cX0_lend 29 = .ok (.iload_n 1, 1) := by decide +kernel
theorem dX0_lend_30 : decode cX0_lend 30 = .ok (.iaload, 1) := by decide +kernel
theorem dX0_lend_31 : decode cX0_lend 31 = .ok (.bipush 10, 2) := by decide +kernel
theorem dX0_lend_33 : decode cX0_lend 33 = .ok (.if_icmp .lt 13, 3) := by decide +kernel
theorem dX0_lend_36 : decode cX0_lend 36 = .ok (.new 54, 3) := by decide +kernel
theorem dX0_lend_39 : decode cX0_lend 39 = .ok (.dup, 1) := by decide +kernel
theorem dX0_lend_40 : decode cX0_lend 40 = .ok (.ldc 121, 2) := by decide +kernel
theorem dX0_lend_42 : decode cX0_lend 42 = .ok (.invokespecial 58, 3) := by decide +kernel
theorem dX0_lend_45 : decode cX0_lend 45 = .ok (.athrow, 1) := by decide +kernel
theorem dX0_lend_46 : decode cX0_lend 46 = .ok (.aload_n 0, 1) := by decide +kernel
theorem dX0_lend_47 : decode cX0_lend 47 = .ok (.getfield 37, 3) := by decide +kernel
theorem dX0_lend_50 : decode cX0_lend 50 = .ok (.iload_n 1, 1) := by decide +kernel
theorem dX0_lend_51 : decode cX0_lend 51 = .ok (.aload_n 0, 1) := by decide +kernel
theorem dX0_lend_52 : decode cX0_lend 52 = .ok (.iload_n 1, 1) := by decide +kernel
theorem dX0_lend_53 : decode cX0_lend 53 = .ok (.invokevirtual 123, 3) := by decide +kernel
theorem dX0_lend_56 : decode cX0_lend 56 = .ok (.bipush 100, 2) := by decide +kernel
theorem dX0_lend_58 : decode cX0_lend 58 = .ok (.idiv, 1) := by decide +kernel
theorem dX0_lend_59 : decode cX0_lend 59 = .ok (.iconst 1, 1) := by decide +kernel
theorem dX0_lend_60 : decode cX0_lend 60 = .ok (.iadd, 1) := by decide +kernel
theorem dX0_lend_61 : decode cX0_lend 61 = .ok (.iastore, 1) := by decide +kernel
theorem dX0_lend_62 : decode cX0_lend 62 = .ok (.aload_n 0, 1) := by decide +kernel
theorem dX0_lend_63 : decode cX0_lend 63 = .ok (.getfield 34, 3) := by decide +kernel
theorem dX0_lend_66 : decode cX0_lend 66 = .ok (.iload_n 1, 1) := by decide +kernel
theorem dX0_lend_67 : decode cX0_lend 67 = .ok (.iload_n 2, 1) := by decide +kernel
theorem dX0_lend_68 : decode cX0_lend 68 = .ok (.iastore, 1) := by decide +kernel
theorem dX0_lend_69 : decode cX0_lend 69 = .ok (.aload_n 0, 1) := by decide +kernel
theorem dX0_lend_70 : decode cX0_lend 70 = .ok (.getfield 31, 3) := by decide +kernel
theorem dX0_lend_73 : decode cX0_lend 73 = .ok (.iload_n 1, 1) := by decide +kernel
theorem dX0_lend_74 : decode cX0_lend 74 = .ok (.iload_n 3, 1) := by decide +kernel
theorem dX0_lend_75 : decode cX0_lend 75 = .ok (.iastore, 1) := by decide +kernel
theorem dX0_lend_76 : decode cX0_lend 76 = .ok (.aload_n 0, 1) := by decide +kernel
theorem dX0_lend_77 : decode cX0_lend 77 = .ok (.getfield 37, 3) := by decide +kernel
theorem dX0_lend_80 : decode cX0_lend 80 = .ok (.iload_n 1, 1) := by decide +kernel
theorem dX0_lend_81 : decode cX0_lend 81 = .ok (.iaload, 1) := by decide +kernel
theorem dX0_lend_82 : decode cX0_lend 82 = .ok (.ireturn, 1) := by decide +kernel
theorem dX0_sell_0 : decode cX0_sell 0 = .ok (.iload_n 1, 1) := by decide +kernel
theorem dX0_sell_1 : decode cX0_sell 1 = .ok (.aload_n 0, 1) := by decide +kernel
theorem dX0_sell_2 : decode cX0_sell 2 = .ok (.getfield 105, 3) := by decide +kernel
theorem dX0_sell_5 : decode cX0_sell 5 = .ok (.invokestatic 61, 3) := by decide +kernel
theorem dX0_sell_8 : decode cX0_sell 8 = .ok (.iload_n 2, 1) := by decide +kernel
theorem dX0_sell_9 : decode cX0_sell 9 = .ok (.iconst 1, 1) := by decide +kernel
theorem dX0_sell_10 : decode cX0_sell 10 = .ok (.ldc 126, 2) := by decide +kernel
theorem dX0_sell_12 : decode cX0_sell 12 = .ok (.invokestatic 65, 3) := by decide +kernel
theorem dX0_sell_15 : decode cX0_sell 15 = .ok (.aload_n 0, 1) := by decide +kernel
theorem dX0_sell_16 : decode cX0_sell 16 = .ok (.iload_n 1, 1) := by decide +kernel
theorem dX0_sell_17 : decode cX0_sell 17 = .ok (.invokevirtual 110, 3) := by decide +kernel
theorem dX0_sell_20 : decode cX0_sell 20 = .ok (.aload_n 0, 1) := by decide +kernel
theorem dX0_sell_21 : decode cX0_sell 21 = .ok (.getfield 22, 3) := by decide +kernel
theorem dX0_sell_24 : decode cX0_sell 24 = .ok (.iload_n 1, 1) := by decide +kernel
theorem dX0_sell_25 : decode cX0_sell 25 = .ok (.iaload, 1) := by decide +kernel
theorem dX0_sell_26 : decode cX0_sell 26 = .ok (.ifCond .ne 13, 3) := by decide +kernel
theorem dX0_sell_29 : decode cX0_sell 29 = .ok (.new 54, 3) := by decide +kernel
theorem dX0_sell_32 : decode cX0_sell 32 = .ok (.dup, 1) := by decide +kernel
theorem dX0_sell_33 : decode cX0_sell 33 = .ok (.ldc 127, 2) := by decide +kernel
theorem dX0_sell_35 : decode cX0_sell 35 = .ok (.invokespecial 58, 3) := by decide +kernel
theorem dX0_sell_38 : decode cX0_sell 38 = .ok (.athrow, 1) := by decide +kernel
theorem dX0_sell_39 : decode cX0_sell 39 = .ok (.aload_n 0, 1) := by decide +kernel
theorem dX0_sell_40 : decode cX0_sell 40 = .ok (.getfield 28, 3) := by decide +kernel
theorem dX0_sell_43 : decode cX0_sell 43 = .ok (.iload_n 1, 1) := by decide +kernel
theorem dX0_sell_44 : decode cX0_sell 44 = .ok (.iload_n 2, 1) := by decide +kernel
theorem dX0_sell_45 : decode cX0_sell 45 = .ok (.iastore, 1) := by decide +kernel
theorem dX0_sell_46 : decode cX0_sell 46 = .ok (.aload_n 0, 1) := by decide +kernel
theorem dX0_sell_47 : decode cX0_sell 47 = .ok (.iload_n 1, 1) := by decide +kernel
theorem dX0_sell_48 : decode cX0_sell 48 = .ok (.invokevirtual 123, 3) := by decide +kernel
theorem dX0_sell_51 : decode cX0_sell 51 = .ok (.ireturn, 1) := by decide +kernel
theorem dX0_pass_0 : decode cX0_pass 0 = .ok (.iload_n 1, 1) := by decide +kernel
theorem dX0_pass_1 : decode cX0_pass 1 = .ok (.iconst 1, 1) := by decide +kernel
theorem dX0_pass_2 : decode cX0_pass 2 = .ok (.bipush 100, 2) := by decide +kernel
theorem dX0_pass_4 : decode cX0_pass 4 = .ok (.invokestatic 65, 3) := by decide +kernel
theorem dX0_pass_7 : decode cX0_pass 7 = .ok (.aload_n 0, 1) := by decide +kernel
theorem dX0_pass_8 : decode cX0_pass 8 = .ok (.getfield 129, 3) := by decide +kernel
theorem dX0_pass_11 : decode cX0_pass 11 = .ok (.iload_n 1, 1) := by decide +kernel
theorem dX0_pass_12 : decode cX0_pass 12 = .ok (.iadd, 1) := by decide +kernel
theorem dX0_pass_13 : decode cX0_pass 13 = .ok (.sipush 5000, 3) := by decide +kernel
theorem dX0_pass_16 : decode cX0_pass 16 = .ok (.if_icmp .le 13, 3) := by decide +kernel
theorem dX0_pass_19 : decode cX0_pass 19 = .ok (.new 54, 3) := by decide +kernel
theorem dX0_pass_22 : decode cX0_pass 22 = .ok (.dup, 1) := by decide +kernel
theorem dX0_pass_23 : decode cX0_pass 23 = .ok (.ldc 132, 2) := by decide +kernel
theorem dX0_pass_25 : decode cX0_pass 25 = .ok (.invokespecial 58, 3) := by decide +kernel
theorem dX0_pass_28 : decode cX0_pass 28 = .ok (.athrow, 1) := by decide +kernel
theorem dX0_pass_29 : decode cX0_pass 29 = .ok (.iconst 0, 1) := by decide +kernel
theorem dX0_pass_30 : decode cX0_pass 30 = .ok (.istore_n 2, 1) := by decide +kernel
theorem dX0_pass_31 : decode cX0_pass 31 = .ok (.iload_n 2, 1) := by decide +kernel
theorem dX0_pass_32 : decode cX0_pass 32 = .ok (.aload_n 0, 1) := by decide +kernel
theorem dX0_pass_33 : decode cX0_pass 33 = .ok (.getfield 105, 3) := by decide +kernel
theorem dX0_pass_36 : decode cX0_pass 36 = .ok (.if_icmp .ge 15, 3) := by decide +kernel
theorem dX0_pass_39 : decode cX0_pass 39 = .ok (.aload_n 0, 1) := by decide +kernel
theorem dX0_pass_40 : decode cX0_pass 40 = .ok (.iload_n 2, 1) := by decide +kernel
theorem dX0_pass_41 : decode cX0_pass 41 = .ok (.iload_n 1, 1) := by decide +kernel
theorem dX0_pass_42 : decode cX0_pass 42 = .ok (.invokevirtual 134, 3) := by decide +kernel
theorem dX0_pass_45 : decode cX0_pass 45 = .ok (.iinc 2 1, 3) := by decide +kernel
theorem dX0_pass_48 : decode cX0_pass 48 = .ok (.goto (-17), 3) := by decide +kernel
theorem dX0_pass_51 : decode cX0_pass 51 = .ok (.aload_n 0, 1) := by decide +kernel
theorem dX0_pass_52 : decode cX0_pass 52 = .ok (.dup, 1) := by decide +kernel
theorem dX0_pass_53 : decode cX0_pass 53 = .ok (.getfield 129, 3) := by decide +kernel
theorem dX0_pass_56 : decode cX0_pass 56 = .ok (.iload_n 1, 1) := by decide +kernel
theorem dX0_pass_57 : decode cX0_pass 57 = .ok (.iadd, 1) := by decide +kernel
theorem dX0_pass_58 : decode cX0_pass 58 = .ok (.putfield 129, 3) := by decide +kernel
theorem dX0_pass_61 : decode cX0_pass 61 = .ok (.aload_n 0, 1) := by decide +kernel
theorem dX0_pass_62 : decode cX0_pass 62 = .ok (.getfield 129, 3) := by decide +kernel
theorem dX0_pass_65 : decode cX0_pass 65 = .ok (.ireturn, 1) := by decide +kernel
theorem dX0_left_0 : decode cX0_left 0 = .ok (.iload_n 1, 1) := by decide +kernel
theorem dX0_left_1 : decode cX0_left 1 = .ok (.aload_n 0, 1) := by decide +kernel
theorem dX0_left_2 : decode cX0_left 2 = .ok (.getfield 68, 3) := by decide +kernel
theorem dX0_left_5 : decode cX0_left 5 = .ok (.invokestatic 61, 3) := by decide +kernel
theorem dX0_left_8 : decode cX0_left 8 = .ok (.aload_n 0, 1) := by decide +kernel
theorem dX0_left_9 : decode cX0_left 9 = .ok (.getfield 16, 3) := by decide +kernel
theorem dX0_left_12 : decode cX0_left 12 = .ok (.iload_n 1, 1) := by decide +kernel
theorem dX0_left_13 : decode cX0_left 13 = .ok (.iaload, 1) := by decide +kernel
theorem dX0_left_14 : decode cX0_left 14 = .ok (.ireturn, 1) := by decide +kernel
theorem dX0_has_0 : decode cX0_has 0 = .ok (.iload_n 1, 1) := by decide +kernel
theorem dX0_has_1 : decode cX0_has 1 = .ok (.aload_n 0, 1) := by decide +kernel
theorem dX0_has_2 : decode cX0_has 2 = .ok (.getfield 73, 3) := by decide +kernel
theorem dX0_has_5 : decode cX0_has 5 = .ok (.invokestatic 61, 3) := by decide +kernel
theorem dX0_has_8 : decode cX0_has 8 = .ok (.iload_n 2, 1) := by decide +kernel
theorem dX0_has_9 : decode cX0_has 9 = .ok (.iconst (-1), 1) := by decide +kernel
theorem dX0_has_10 : decode cX0_has 10 = .ok (.if_icmp .ne 12, 3) := by decide +kernel
theorem dX0_has_13 : decode cX0_has 13 = .ok (.aload_n 0, 1) := by decide +kernel
theorem dX0_has_14 : decode cX0_has 14 = .ok (.iload_n 1, 1) := by decide +kernel
theorem dX0_has_15 : decode cX0_has 15 = .ok (.invokestatic 80, 3) := by decide +kernel
theorem dX0_has_18 : decode cX0_has 18 = .ok (.invokevirtual 99, 3) := by decide +kernel
theorem dX0_has_21 : decode cX0_has 21 = .ok (.ireturn, 1) := by decide +kernel
theorem dX0_has_22 : decode cX0_has 22 = .ok (.iload_n 2, 1) := by decide +kernel
theorem dX0_has_23 : decode cX0_has 23 = .ok (.aload_n 0, 1) := by decide +kernel
theorem dX0_has_24 : decode cX0_has 24 = .ok (.getfield 68, 3) := by decide +kernel
theorem dX0_has_27 : decode cX0_has 27 = .ok (.invokestatic 61, 3) := by decide +kernel
theorem dX0_has_30 : decode cX0_has 30 = .ok (.aload_n 0, 1) := by decide +kernel
theorem dX0_has_31 : decode cX0_has 31 = .ok (.getfield 19, 3) := by decide +kernel
theorem dX0_has_34 : decode cX0_has 34 = .ok (.iload_n 1, 1) := by decide +kernel
theorem dX0_has_35 : decode cX0_has 35 = .ok (.invokestatic 80, 3) := by decide +kernel
theorem dX0_has_38 : decode cX0_has 38 = .ok (.iload_n 2, 1) := by decide +kernel
theorem dX0_has_39 : decode cX0_has 39 = .ok (.invokestatic 84, 3) := by decide +kernel
theorem dX0_has_42 : decode cX0_has 42 = .ok (.iaload, 1) := by decide +kernel
theorem dX0_has_43 : decode cX0_has 43 = .ok (.ireturn, 1) := by decide +kernel
theorem dX0_colour_0 : decode cX0_colour 0 = .ok (.iload_n 1, 1) := by decide +kernel
theorem dX0_colour_1 : decode cX0_colour 1 = .ok (.aload_n 0, 1) := by decide +kernel
theorem dX0_colour_2 : decode cX0_colour 2 = .ok (.getfield 73, 3) := by decide +kernel
theorem dX0_colour_5 : decode cX0_colour 5 = .ok (.invokestatic 61, 3) := by decide +kernel
theorem dX0_colour_8 : decode cX0_colour 8 = .ok (.iload_n 2, 1) := by decide +kernel
theorem dX0_colour_9 : decode cX0_colour 9 = .ok (.iconst 0, 1) := by decide +kernel
theorem dX0_colour_10 : decode cX0_colour 10 = .ok (.iconst 2, 1) := by decide +kernel
theorem dX0_colour_11 : decode cX0_colour 11 = .ok (.invokestatic 65, 3) := by decide +kernel
theorem dX0_colour_14 : decode cX0_colour 14 = .ok (.aload_n 0, 1) := by decide +kernel
theorem dX0_colour_15 : decode cX0_colour 15 = .ok (.iload_n 1, 1) := by decide +kernel
theorem dX0_colour_16 : decode cX0_colour 16 = .ok (.invokestatic 80, 3) := by decide +kernel
theorem dX0_colour_19 : decode cX0_colour 19 = .ok (.iload_n 2, 1) := by decide +kernel
theorem dX0_colour_20 : decode cX0_colour 20 = .ok (.invokevirtual 137, 3) := by decide +kernel
theorem dX0_colour_23 : decode cX0_colour 23 = .ok (.ireturn, 1) := by decide +kernel
theorem dX0_of_0 : decode cX0_of 0 = .ok (.iload_n 1, 1) := by decide +kernel
theorem dX0_of_1 : decode cX0_of 1 = .ok (.aload_n 0, 1) := by decide +kernel
theorem dX0_of_2 : decode cX0_of 2 = .ok (.getfield 105, 3) := by decide +kernel
theorem dX0_of_5 : decode cX0_of 5 = .ok (.invokestatic 61, 3) := by decide +kernel
theorem dX0_of_8 : decode cX0_of 8 = .ok (.iload_n 2, 1) := by decide +kernel
theorem dX0_of_9 : decode cX0_of 9 = .ok (.iconst 0, 1) := by decide +kernel
theorem dX0_of_10 : decode cX0_of 10 = .ok (.bipush 8, 2) := by decide +kernel
theorem dX0_of_12 : decode cX0_of 12 = .ok (.invokestatic 65, 3) := by decide +kernel
theorem dX0_of_15 : decode cX0_of 15 = .ok (.iload_n 2, 1) := by decide +kernel
theorem dX0_of_16 : decode cX0_of 16 = .ok (.tableswitch 92 0 5 #[40, 47, 54, 60, 66, 85], 40) := by decide +kernel
theorem dX0_of_56 : decode cX0_of 56 = .ok (.aload_n 0, 1) := by decide +kernel
theorem dX0_of_57 : decode cX0_of 57 = .ok (.getfield 22, 3) := by decide +kernel
theorem dX0_of_60 : decode cX0_of 60 = .ok (.iload_n 1, 1) := by decide +kernel
theorem dX0_of_61 : decode cX0_of 61 = .ok (.iaload, 1) := by decide +kernel
theorem dX0_of_62 : decode cX0_of 62 = .ok (.ireturn, 1) := by decide +kernel
theorem dX0_of_63 : decode cX0_of 63 = .ok (.aload_n 0, 1) := by decide +kernel
theorem dX0_of_64 : decode cX0_of 64 = .ok (.getfield 25, 3) := by decide +kernel
theorem dX0_of_67 : decode cX0_of 67 = .ok (.iload_n 1, 1) := by decide +kernel
theorem dX0_of_68 : decode cX0_of 68 = .ok (.iaload, 1) := by decide +kernel
theorem dX0_of_69 : decode cX0_of 69 = .ok (.ireturn, 1) := by decide +kernel
theorem dX0_of_70 : decode cX0_of 70 = .ok (.aload_n 0, 1) := by decide +kernel
theorem dX0_of_71 : decode cX0_of 71 = .ok (.iload_n 1, 1) := by decide +kernel
theorem dX0_of_72 : decode cX0_of 72 = .ok (.invokevirtual 123, 3) := by decide +kernel
theorem dX0_of_75 : decode cX0_of 75 = .ok (.ireturn, 1) := by decide +kernel
theorem dX0_of_76 : decode cX0_of 76 = .ok (.aload_n 0, 1) := by decide +kernel
theorem dX0_of_77 : decode cX0_of 77 = .ok (.iload_n 1, 1) := by decide +kernel
theorem dX0_of_78 : decode cX0_of 78 = .ok (.invokevirtual 140, 3) := by decide +kernel
theorem dX0_of_81 : decode cX0_of 81 = .ok (.ireturn, 1) := by decide +kernel
theorem dX0_of_82 : decode cX0_of 82 = .ok (.aload_n 0, 1) := by decide +kernel
theorem dX0_of_83 : decode cX0_of 83 = .ok (.iload_n 1, 1) := by decide +kernel
theorem dX0_of_84 : decode cX0_of 84 = .ok (.invokevirtual 143, 3) := by decide +kernel
theorem dX0_of_87 : decode cX0_of 87 = .ok (.ifCond .eq 12, 3) := by decide +kernel
theorem dX0_of_90 : decode cX0_of 90 = .ok (.aload_n 0, 1) := by decide +kernel
theorem dX0_of_91 : decode cX0_of 91 = .ok (.getfield 34, 3) := by decide +kernel
theorem dX0_of_94 : decode cX0_of 94 = .ok (.iload_n 1, 1) := by decide +kernel
theorem dX0_of_95 : decode cX0_of 95 = .ok (.iaload, 1) := by decide +kernel
theorem dX0_of_96 : decode cX0_of 96 = .ok (.goto 4, 3) := by decide +kernel
theorem dX0_of_99 : decode cX0_of 99 = .ok (.iconst (-1), 1) := by decide +kernel
theorem dX0_of_100 : decode cX0_of 100 = .ok (.ireturn, 1) := by decide +kernel
theorem dX0_of_101 : decode cX0_of 101 = .ok (.aload_n 0, 1) := by decide +kernel
theorem dX0_of_102 : decode cX0_of 102 = .ok (.getfield 31, 3) := by decide +kernel
theorem dX0_of_105 : decode cX0_of 105 = .ok (.iload_n 1, 1) := by decide +kernel
theorem dX0_of_106 : decode cX0_of 106 = .ok (.iaload, 1) := by decide +kernel
theorem dX0_of_107 : decode cX0_of 107 = .ok (.ireturn, 1) := by decide +kernel
theorem dX0_of_108 : decode cX0_of 108 = .ok (.aload_n 0, 1) := by decide +kernel
theorem dX0_of_109 : decode cX0_of 109 = .ok (.iload_n 1, 1) := by decide +kernel
theorem dX0_of_110 : decode cX0_of 110 = .ok (.iload_n 2, 1) := by decide +kernel
theorem dX0_of_111 : decode cX0_of 111 = .ok (.bipush 6, 2) := by decide +kernel
theorem dX0_of_113 : decode cX0_of 113 = .ok (.isub, 1) := by decide +kernel
theorem dX0_of_114 : decode cX0_of 114 = .ok (.invokevirtual 147, 3) := by decide +kernel
theorem dX0_of_117 : decode cX0_of 117 = .ok (.ireturn, 1) := by decide +kernel
theorem dX0_layer_0 : decode cX0_layer 0 = .ok (.iload_n 1, 1) := by decide +kernel
theorem dX0_layer_1 : decode cX0_layer 1 = .ok (.aload_n 0, 1) := by decide +kernel
theorem dX0_layer_2 : decode cX0_layer 2 = .ok (.getfield 105, 3) := by decide +kernel
theorem dX0_layer_5 : decode cX0_layer 5 = .ok (.invokestatic 61, 3) := by decide +kernel
theorem dX0_layer_8 : decode cX0_layer 8 = .ok (.iload_n 2, 1) := by decide +kernel
theorem dX0_layer_9 : decode cX0_layer 9 = .ok (.aload_n 0, 1) := by decide +kernel
theorem dX0_layer_10 : decode cX0_layer 10 = .ok (.getfield 22, 3) := by decide +kernel
theorem dX0_layer_13 : decode cX0_layer 13 = .ok (.iload_n 1, 1) := by decide +kernel
theorem dX0_layer_14 : decode cX0_layer 14 = .ok (.iaload, 1) := by decide +kernel
theorem dX0_layer_15 : decode cX0_layer 15 = .ok (.invokestatic 61, 3) := by decide +kernel
theorem dX0_layer_18 : decode cX0_layer 18 = .ok (.iload_n 3, 1) := by decide +kernel
theorem dX0_layer_19 : decode cX0_layer 19 = .ok (.aload_n 0, 1) := by decide +kernel
theorem dX0_layer_20 : decode cX0_layer 20 = .ok (.getfield 68, 3) := by decide +kernel
theorem dX0_layer_23 : decode cX0_layer 23 = .ok (.invokestatic 61, 3) := by decide +kernel
theorem dX0_layer_26 : decode cX0_layer 26 = .ok (.aload_n 0, 1) := by decide +kernel
theorem dX0_layer_27 : decode cX0_layer 27 = .ok (.getfield 19, 3) := by decide +kernel
theorem dX0_layer_30 : decode cX0_layer 30 = .ok (.iload_n 1, 1) := by decide +kernel
theorem dX0_layer_31 : decode cX0_layer 31 = .ok (.iload_n 2, 1) := by decide +kernel
theorem dX0_layer_32 : decode cX0_layer 32 = .ok (.invokestatic 116, 3) := by decide +kernel
theorem dX0_layer_35 : decode cX0_layer 35 = .ok (.iload_n 3, 1) := by decide +kernel
theorem dX0_layer_36 : decode cX0_layer 36 = .ok (.invokestatic 84, 3) := by decide +kernel
theorem dX0_layer_39 : decode cX0_layer 39 = .ok (.iaload, 1) := by decide +kernel
theorem dX0_layer_40 : decode cX0_layer 40 = .ok (.ireturn, 1) := by decide +kernel
theorem dX0_where_0 : decode cX0_where 0 = .ok (.iload_n 1, 1) := by decide +kernel
theorem dX0_where_1 : decode cX0_where 1 = .ok (.aload_n 0, 1) := by decide +kernel
theorem dX0_where_2 : decode cX0_where 2 = .ok (.getfield 68, 3) := by decide +kernel
theorem dX0_where_5 : decode cX0_where 5 = .ok (.invokestatic 61, 3) := by decide +kernel
theorem dX0_where_8 : decode cX0_where 8 = .ok (.iload_n 2, 1) := by decide +kernel
theorem dX0_where_9 : decode cX0_where 9 = .ok (.iconst 0, 1) := by decide +kernel
theorem dX0_where_10 : decode cX0_where 10 = .ok (.iconst 3, 1) := by decide +kernel
theorem dX0_where_11 : decode cX0_where 11 = .ok (.invokestatic 65, 3) := by decide +kernel
theorem dX0_where_14 : decode cX0_where 14 = .ok (.iload_n 2, 1) := by decide +kernel
theorem dX0_where_15 : decode cX0_where 15 = .ok (.tableswitch 51 0 2 #[25, 32, 41], 25) := by decide +kernel
theorem dX0_where_40 : decode cX0_where 40 = .ok (.aload_n 0, 1) := by decide +kernel
theorem dX0_where_41 : decode cX0_where 41 = .ok (.getfield 16, 3) := by decide +kernel
theorem dX0_where_44 : decode cX0_where 44 = .ok (.iload_n 1, 1) := by decide +kernel
theorem dX0_where_45 : decode cX0_where 45 = .ok (.iaload, 1) := by decide +kernel
theorem dX0_where_46 : decode cX0_where 46 = .ok (.ireturn, 1) := by decide +kernel
theorem dX0_where_47 : decode cX0_where 47 = .ok (.aload_n 0, 1) := by decide +kernel
theorem dX0_where_48 : decode cX0_where 48 = .ok (.iload_n 1, 1) := by decide +kernel
theorem dX0_where_49 : decode cX0_where 49 = .ok (.iconst 0, 1) := by decide +kernel
theorem dX0_where_50 : decode cX0_where 50 = .ok (.bipush 10, 2) := by decide +kernel
theorem dX0_where_52 : decode cX0_where 52 = .ok (.invokevirtual 150, 3) := by decide +kernel
theorem dX0_where_55 : decode cX0_where 55 = .ok (.ireturn, 1) := by decide +kernel
theorem dX0_where_56 : decode cX0_where 56 = .ok (.aload_n 0, 1) := by decide +kernel
theorem dX0_where_57 : decode cX0_where 57 = .ok (.iload_n 1, 1) := by decide +kernel
theorem dX0_where_58 : decode cX0_where 58 = .ok (.bipush 10, 2) := by decide +kernel
theorem dX0_where_60 : decode cX0_where 60 = .ok (.bipush 106, 2) := by decide +kernel
theorem dX0_where_62 : decode cX0_where 62 = .ok (.invokevirtual 150, 3) := by decide +kernel
theorem dX0_where_65 : decode cX0_where 65 = .ok (.ireturn, 1) := by decide +kernel
theorem dX0_where_66 : decode cX0_where 66 = .ok (.aload_n 0, 1) := by decide +kernel
theorem dX0_where_67 : decode cX0_where 67 = .ok (.iload_n 1, 1) := by decide +kernel
theorem dX0_where_68 : decode cX0_where 68 = .ok (.bipush 106, 2) := by decide +kernel
theorem dX0_where_70 : decode cX0_where 70 = .ok (.bipush 107, 2) := by decide +kernel
theorem dX0_where_72 : decode cX0_where 72 = .ok (.invokevirtual 150, 3) := by decide +kernel
theorem dX0_where_75 : decode cX0_where 75 = .ok (.ireturn, 1) := by decide +kernel
theorem dX0_recipe_0 : decode cX0_recipe 0 = .ok (.iload_n 1, 1) := by decide +kernel
theorem dX0_recipe_1 : decode cX0_recipe 1 = .ok (.iload_n 2, 1) := by decide +kernel
theorem dX0_recipe_2 : decode cX0_recipe 2 = .ok (.iload_n 3, 1) := by decide +kernel
theorem dX0_recipe_3 : decode cX0_recipe 3 = .ok (.invokestatic 46, 3) := by decide +kernel
theorem dX0_recipe_6 : decode cX0_recipe 6 = .ok (.iconst (-1), 1) := by decide +kernel
theorem dX0_recipe_7 : decode cX0_recipe 7 = .ok (.istore 4, 2) := by decide +kernel
theorem dX0_recipe_9 : decode cX0_recipe 9 = .ok (.iconst 0, 1) := by decide +kernel
theorem dX0_recipe_10 : decode cX0_recipe 10 = .ok (.istore 5, 2) := by decide +kernel
theorem dX0_recipe_12 : decode cX0_recipe 12 = .ok (.iconst 0, 1) := by decide +kernel
theorem dX0_recipe_13 : decode cX0_recipe 13 = .ok (.istore 6, 2) := by decide +kernel
theorem dX0_recipe_15 : decode cX0_recipe 15 = .ok (.iload 6, 2) := by decide +kernel
theorem dX0_recipe_17 : decode cX0_recipe 17 = .ok (.aload_n 0, 1) := by decide +kernel
theorem dX0_recipe_18 : decode cX0_recipe 18 = .ok (.getfield 68, 3) := by decide +kernel
theorem dX0_recipe_21 : decode cX0_recipe 21 = .ok (.if_icmp .ge 152, 3) := by decide +kernel
theorem dX0_recipe_24 : decode cX0_recipe 24 = .ok (.iload 6, 2) := by decide +kernel
theorem dX0_recipe_26 : decode cX0_recipe 26 = .ok (.istore 7, 2) := by decide +kernel
theorem dX0_recipe_28 : decode cX0_recipe 28 = .ok (.iload 7, 2) := by decide +kernel
theorem dX0_recipe_30 : decode cX0_recipe 30 = .ok (.aload_n 0, 1) := by decide +kernel
theorem dX0_recipe_31 : decode cX0_recipe 31 = .ok (.getfield 68, 3) := by decide +kernel
theorem dX0_recipe_34 : decode cX0_recipe 34 = .ok (.if_icmp .ge 133, 3) := by decide +kernel
theorem dX0_recipe_37 : decode cX0_recipe 37 = .ok (.aload_n 0, 1) := by decide +kernel
theorem dX0_recipe_38 : decode cX0_recipe 38 = .ok (.getfield 16, 3) := by decide +kernel
theorem dX0_recipe_41 : decode cX0_recipe 41 = .ok (.iload 6, 2) := by decide +kernel
theorem dX0_recipe_43 : decode cX0_recipe 43 = .ok (.iaload, 1) := by decide +kernel
theorem dX0_recipe_44 : decode cX0_recipe 44 = .ok (.ifCond .eq 117, 3) := by decide +kernel
theorem dX0_recipe_47 : decode cX0_recipe 47 = .ok (.aload_n 0, 1) := by decide +kernel
theorem dX0_recipe_48 : decode cX0_recipe 48 = .ok (.getfield 16, 3) := by decide +kernel
theorem dX0_recipe_51 : decode cX0_recipe 51 = .ok (.iload 7, 2) := by decide +kernel
theorem dX0_recipe_53 : decode cX0_recipe 53 = .ok (.iaload, 1) := by decide +kernel
theorem dX0_recipe_54 : decode cX0_recipe 54 = .ok (.ifCond .ne 6, 3) := by decide +kernel
theorem dX0_recipe_57 : decode cX0_recipe 57 = .ok (.goto 104, 3) := by decide +kernel
theorem dX0_recipe_60 : decode cX0_recipe 60 = .ok (.iconst 0, 1) := by decide +kernel
theorem dX0_recipe_61 : decode cX0_recipe 61 = .ok (.istore 8, 2) := by decide +kernel
theorem dX0_recipe_63 : decode cX0_recipe 63 = .ok (.iload 8, 2) := by decide +kernel
theorem dX0_recipe_65 : decode cX0_recipe 65 = .ok (.iconst 4, 1) := by decide +kernel
theorem dX0_recipe_66 : decode cX0_recipe 66 = .ok (.if_icmp .gt 95, 3) := by decide +kernel
theorem dX0_recipe_69 : decode cX0_recipe 69 = .ok (.aload_n 0, 1) := by decide +kernel
theorem dX0_recipe_70 : decode cX0_recipe 70 = .ok (.iload 6, 2) := by decide +kernel
theorem dX0_recipe_72 : decode cX0_recipe 72 = .ok (.iload 7, 2) := by decide +kernel
theorem dX0_recipe_74 : decode cX0_recipe 74 = .ok (.iload 8, 2) := by decide +kernel
theorem dX0_recipe_76 : decode cX0_recipe 76 = .ok (.iconst 0, 1) := by decide +kernel
theorem dX0_recipe_77 : decode cX0_recipe 77 = .ok (.invokevirtual 154, 3) := by decide +kernel
theorem dX0_recipe_80 : decode cX0_recipe 80 = .ok (.iload_n 1, 1) := by decide +kernel
theorem dX0_recipe_81 : decode cX0_recipe 81 = .ok (.isub, 1) := by decide +kernel
theorem dX0_recipe_82 : decode cX0_recipe 82 = .ok (.invokestatic 158, 3) := by decide +kernel
theorem dX0_recipe_85 : decode cX0_recipe 85 = .ok (.aload_n 0, 1) := by decide +kernel
theorem dX0_recipe_86 : decode cX0_recipe 86 = .ok (.iload 6, 2) := by decide +kernel
theorem dX0_recipe_88 : decode cX0_recipe 88 = .ok (.iload 7, 2) := by decide +kernel
theorem dX0_recipe_90 : decode cX0_recipe 90 = .ok (.iload 8, 2) := by decide +kernel
theorem dX0_recipe_92 : decode cX0_recipe 92 = .ok (.iconst 1, 1) := by decide +kernel
theorem dX0_recipe_93 : decode cX0_recipe 93 = .ok (.invokevirtual 154, 3) := by decide +kernel
theorem dX0_recipe_96 : decode cX0_recipe 96 = .ok (.iload_n 2, 1) := by decide +kernel
theorem dX0_recipe_97 : decode cX0_recipe 97 = .ok (.isub, 1) := by decide +kernel
theorem dX0_recipe_98 : decode cX0_recipe 98 = .ok (.invokestatic 158, 3) := by decide +kernel
theorem dX0_recipe_101 : decode cX0_recipe 101 = .ok (.iadd, 1) := by decide +kernel
theorem dX0_recipe_102 : decode cX0_recipe 102 = .ok (.aload_n 0, 1) := by decide +kernel
theorem dX0_recipe_103 : decode cX0_recipe 103 = .ok (.iload 6, 2) := by decide +kernel
theorem dX0_recipe_105 : decode cX0_recipe 105 = .ok (.iload 7, 2) := by decide +kernel
theorem dX0_recipe_107 : decode cX0_recipe 107 = .ok (.iload 8, 2) := by decide +kernel
theorem dX0_recipe_109 : decode cX0_recipe 109 = .ok (.iconst 2, 1) := by decide +kernel
theorem dX0_recipe_110 : decode cX0_recipe 110 = .ok (.invokevirtual 154, 3) := by decide +kernel
theorem dX0_recipe_113 : decode cX0_recipe 113 = .ok (.iload_n 3, 1) := by decide +kernel
theorem dX0_recipe_114 : decode cX0_recipe 114 = .ok (.isub, 1) := by decide +kernel
theorem dX0_recipe_115 : decode cX0_recipe 115 = .ok (.invokestatic 158, 3) := by decide +kernel
theorem dX0_recipe_118 : decode cX0_recipe 118 = .ok (.iadd, 1) := by decide +kernel
theorem dX0_recipe_119 : decode cX0_recipe 119 = .ok (.istore 9, 2) := by decide +kernel
theorem dX0_recipe_121 : decode cX0_recipe 121 = .ok (.iload 4, 2) := by decide +kernel
theorem dX0_recipe_123 : decode cX0_recipe 123 = .ok (.iconst (-1), 1) := by decide +kernel
theorem dX0_recipe_124 : decode cX0_recipe 124 = .ok (.if_icmp .eq 10, 3) := by decide +kernel
theorem dX0_recipe_127 : decode cX0_recipe 127 = .ok (.iload 9, 2) := by decide +kernel
theorem dX0_recipe_129 : decode cX0_recipe 129 = .ok (.iload 5, 2) := by decide +kernel
theorem dX0_recipe_131 : decode cX0_recipe 131 = .ok (.if_icmp .ge 24, 3) := by decide +kernel
theorem dX0_recipe_134 : decode cX0_recipe 134 = .ok (.sipush 1000, 3) := by decide +kernel
theorem dX0_recipe_137 : decode cX0_recipe 137 = .ok (.iload 6, 2) := by decide +kernel
theorem dX0_recipe_139 : decode cX0_recipe 139 = .ok (.imul, 1) := by decide +kernel
theorem dX0_recipe_140 : decode cX0_recipe 140 = .ok (.bipush 10, 2) := by decide +kernel
theorem dX0_recipe_142 : decode cX0_recipe 142 = .ok (.iload 7, 2) := by decide +kernel
theorem dX0_recipe_144 : decode cX0_recipe 144 = .ok (.imul, 1) := by decide +kernel
theorem dX0_recipe_145 : decode cX0_recipe 145 = .ok (.iadd, 1) := by decide +kernel
theorem dX0_recipe_146 : decode cX0_recipe 146 = .ok (.iload 8, 2) := by decide +kernel
theorem dX0_recipe_148 : decode cX0_recipe 148 = .ok (.iadd, 1) := by decide +kernel
theorem dX0_recipe_149 : decode cX0_recipe 149 = .ok (.istore 4, 2) := by decide +kernel
theorem dX0_recipe_151 : decode cX0_recipe 151 = .ok (.iload 9, 2) := by decide +kernel
theorem dX0_recipe_153 : decode cX0_recipe 153 = .ok (.istore 5, 2) := by decide +kernel
theorem dX0_recipe_155 : decode cX0_recipe 155 = .ok (.iinc 8 1, 3) := by decide +kernel
theorem dX0_recipe_158 : decode cX0_recipe 158 = .ok (.goto (-95), 3) := by decide +kernel
theorem dX0_recipe_161 : decode cX0_recipe 161 = .ok (.iinc 7 1, 3) := by decide +kernel
theorem dX0_recipe_164 : decode cX0_recipe 164 = .ok (.goto (-136), 3) := by decide +kernel
theorem dX0_recipe_167 : decode cX0_recipe 167 = .ok (.iinc 6 1, 3) := by decide +kernel
theorem dX0_recipe_170 : decode cX0_recipe 170 = .ok (.goto (-155), 3) := by decide +kernel
theorem dX0_recipe_173 : decode cX0_recipe 173 = .ok (.iload 4, 2) := by decide +kernel
theorem dX0_recipe_175 : decode cX0_recipe 175 = .ok (.ireturn, 1) := by decide +kernel
theorem dX0_paid_0 : decode cX0_paid 0 = .ok (.iload_n 1, 1) := by decide +kernel
theorem dX0_paid_1 : decode cX0_paid 1 = .ok (.iconst 4, 1) := by decide +kernel
theorem dX0_paid_2 : decode cX0_paid 2 = .ok (.invokestatic 61, 3) := by decide +kernel
theorem dX0_paid_5 : decode cX0_paid 5 = .ok (.aload_n 0, 1) := by decide +kernel
theorem dX0_paid_6 : decode cX0_paid 6 = .ok (.getfield 43, 3) := by decide +kernel
theorem dX0_paid_9 : decode cX0_paid 9 = .ok (.iload_n 1, 1) := by decide +kernel
theorem dX0_paid_10 : decode cX0_paid 10 = .ok (.iaload, 1) := by decide +kernel
theorem dX0_paid_11 : decode cX0_paid 11 = .ok (.ireturn, 1) := by decide +kernel
theorem dX0_checkNumber_0 : decode cX0_checkNumber 0 = .ok (.iload_n 0, 1) := by decide +kernel
theorem dX0_checkNumber_1 : decode cX0_checkNumber 1 = .ok (.ifCond .lt 8, 3) := by decide +kernel
theorem dX0_checkNumber_4 : decode cX0_checkNumber 4 = .ok (.iload_n 0, 1) := by decide +kernel
theorem dX0_checkNumber_5 : decode cX0_checkNumber 5 = .ok (.iload_n 1, 1) := by decide +kernel
theorem dX0_checkNumber_6 : decode cX0_checkNumber 6 = .ok (.if_icmp .lt 13, 3) := by decide +kernel
theorem dX0_checkNumber_9 : decode cX0_checkNumber 9 = .ok (.new 161, 3) := by decide +kernel
theorem dX0_checkNumber_12 : decode cX0_checkNumber 12 = .ok (.dup, 1) := by decide +kernel
theorem dX0_checkNumber_13 : decode cX0_checkNumber 13 = .ok (.ldc 163, 2) := by decide +kernel
theorem dX0_checkNumber_15 : decode cX0_checkNumber 15 = .ok (.invokespecial 165, 3) := by decide +kernel
theorem dX0_checkNumber_18 : decode cX0_checkNumber 18 = .ok (.athrow, 1) := by decide +kernel
theorem dX0_checkNumber_19 : decode cX0_checkNumber 19 = .ok (.return_, 1) := by decide +kernel
theorem dX0_checkRange_0 : decode cX0_checkRange 0 = .ok (.iload_n 0, 1) := by decide +kernel
theorem dX0_checkRange_1 : decode cX0_checkRange 1 = .ok (.iload_n 1, 1) := by decide +kernel
theorem dX0_checkRange_2 : decode cX0_checkRange 2 = .ok (.if_icmp .lt 8, 3) := by decide +kernel
theorem dX0_checkRange_5 : decode cX0_checkRange 5 = .ok (.iload_n 0, 1) := by decide +kernel
theorem dX0_checkRange_6 : decode cX0_checkRange 6 = .ok (.iload_n 2, 1) := by decide +kernel
theorem dX0_checkRange_7 : decode cX0_checkRange 7 = .ok (.if_icmp .le 13, 3) := by decide +kernel
theorem dX0_checkRange_10 : decode cX0_checkRange 10 = .ok (.new 88, 3) := by decide +kernel
theorem dX0_checkRange_13 : decode cX0_checkRange 13 = .ok (.dup, 1) := by decide +kernel
theorem dX0_checkRange_14 : decode cX0_checkRange 14 = .ok (.ldc 166, 2) := by decide +kernel
theorem dX0_checkRange_16 : decode cX0_checkRange 16 = .ok (.invokespecial 92, 3) := by decide +kernel
theorem dX0_checkRange_19 : decode cX0_checkRange 19 = .ok (.athrow, 1) := by decide +kernel
theorem dX0_checkRange_20 : decode cX0_checkRange 20 = .ok (.return_, 1) := by decide +kernel
theorem dX0_checkColour_0 : decode cX0_checkColour 0 = .ok (.iload_n 0, 1) := by decide +kernel
theorem dX0_checkColour_1 : decode cX0_checkColour 1 = .ok (.iconst 0, 1) := by decide +kernel
theorem dX0_checkColour_2 : decode cX0_checkColour 2 = .ok (.sipush 255, 3) := by decide +kernel
theorem dX0_checkColour_5 : decode cX0_checkColour 5 = .ok (.invokestatic 65, 3) := by decide +kernel
theorem dX0_checkColour_8 : decode cX0_checkColour 8 = .ok (.iload_n 1, 1) := by decide +kernel
theorem dX0_checkColour_9 : decode cX0_checkColour 9 = .ok (.iconst 0, 1) := by decide +kernel
theorem dX0_checkColour_10 : decode cX0_checkColour 10 = .ok (.sipush 255, 3) := by decide +kernel
theorem dX0_checkColour_13 : decode cX0_checkColour 13 = .ok (.invokestatic 65, 3) := by decide +kernel
theorem dX0_checkColour_16 : decode cX0_checkColour 16 = .ok (.iload_n 2, 1) := by decide +kernel
theorem dX0_checkColour_17 : decode cX0_checkColour 17 = .ok (.iconst 0, 1) := by decide +kernel
theorem dX0_checkColour_18 : decode cX0_checkColour 18 = .ok (.sipush 255, 3) := by decide +kernel
theorem dX0_checkColour_21 : decode cX0_checkColour 21 = .ok (.invokestatic 65, 3) := by decide +kernel
theorem dX0_checkColour_24 : decode cX0_checkColour 24 = .ok (.return_, 1) := by decide +kernel
theorem dX0_checkAtHome_0 : decode cX0_checkAtHome 0 = .ok (.aload_n 0, 1) := by decide +kernel
theorem dX0_checkAtHome_1 : decode cX0_checkAtHome 1 = .ok (.iload_n 1, 1) := by decide +kernel
theorem dX0_checkAtHome_2 : decode cX0_checkAtHome 2 = .ok (.invokevirtual 143, 3) := by decide +kernel
theorem dX0_checkAtHome_5 : decode cX0_checkAtHome 5 = .ok (.ifCond .eq 13, 3) := by decide +kernel
theorem dX0_checkAtHome_8 : decode cX0_checkAtHome 8 = .ok (.new 54, 3) := by decide +kernel
theorem dX0_checkAtHome_11 : decode cX0_checkAtHome 11 = .ok (.dup, 1) := by decide +kernel
theorem dX0_checkAtHome_12 : decode cX0_checkAtHome 12 = .ok (.ldc 168, 2) := by decide +kernel
theorem dX0_checkAtHome_14 : decode cX0_checkAtHome 14 = .ok (.invokespecial 58, 3) := by decide +kernel
theorem dX0_checkAtHome_17 : decode cX0_checkAtHome 17 = .ok (.athrow, 1) := by decide +kernel
theorem dX0_checkAtHome_18 : decode cX0_checkAtHome 18 = .ok (.return_, 1) := by decide +kernel
theorem dX0_potRow_0 : decode cX0_potRow 0 = .ok (.iload_n 0, 1) := by decide +kernel
theorem dX0_potRow_1 : decode cX0_potRow 1 = .ok (.ireturn, 1) := by decide +kernel
theorem dX0_layerRow_0 : decode cX0_layerRow 0 = .ok (.bipush 10, 2) := by decide +kernel
theorem dX0_layerRow_2 : decode cX0_layerRow 2 = .ok (.iload_n 0, 1) := by decide +kernel
theorem dX0_layerRow_3 : decode cX0_layerRow 3 = .ok (.bipush 12, 2) := by decide +kernel
theorem dX0_layerRow_5 : decode cX0_layerRow 5 = .ok (.imul, 1) := by decide +kernel
theorem dX0_layerRow_6 : decode cX0_layerRow 6 = .ok (.iadd, 1) := by decide +kernel
theorem dX0_layerRow_7 : decode cX0_layerRow 7 = .ok (.iload_n 1, 1) := by decide +kernel
theorem dX0_layerRow_8 : decode cX0_layerRow 8 = .ok (.iadd, 1) := by decide +kernel
theorem dX0_layerRow_9 : decode cX0_layerRow 9 = .ok (.ireturn, 1) := by decide +kernel
theorem dX0_place_0 : decode cX0_place 0 = .ok (.iload_n 0, 1) := by decide +kernel
theorem dX0_place_1 : decode cX0_place 1 = .ok (.bipush 12, 2) := by decide +kernel
theorem dX0_place_3 : decode cX0_place 3 = .ok (.imul, 1) := by decide +kernel
theorem dX0_place_4 : decode cX0_place 4 = .ok (.iload_n 1, 1) := by decide +kernel
theorem dX0_place_5 : decode cX0_place 5 = .ok (.iadd, 1) := by decide +kernel
theorem dX0_place_6 : decode cX0_place 6 = .ok (.ireturn, 1) := by decide +kernel
theorem dX0_sumOfRow_0 : decode cX0_sumOfRow 0 = .ok (.iconst 0, 1) := by decide +kernel
theorem dX0_sumOfRow_1 : decode cX0_sumOfRow 1 = .ok (.istore_n 2, 1) := by decide +kernel
theorem dX0_sumOfRow_2 : decode cX0_sumOfRow 2 = .ok (.iconst 0, 1) := by decide +kernel
theorem dX0_sumOfRow_3 : decode cX0_sumOfRow 3 = .ok (.istore_n 3, 1) := by decide +kernel
theorem dX0_sumOfRow_4 : decode cX0_sumOfRow 4 = .ok (.iload_n 3, 1) := by decide +kernel
theorem dX0_sumOfRow_5 : decode cX0_sumOfRow 5 = .ok (.aload_n 0, 1) := by decide +kernel
theorem dX0_sumOfRow_6 : decode cX0_sumOfRow 6 = .ok (.getfield 68, 3) := by decide +kernel
theorem dX0_sumOfRow_9 : decode cX0_sumOfRow 9 = .ok (.if_icmp .ge 22, 3) := by decide +kernel
theorem dX0_sumOfRow_12 : decode cX0_sumOfRow 12 = .ok (.iload_n 2, 1) := by decide +kernel
theorem dX0_sumOfRow_13 : decode cX0_sumOfRow 13 = .ok (.aload_n 0, 1) := by decide +kernel
theorem dX0_sumOfRow_14 : decode cX0_sumOfRow 14 = .ok (.getfield 19, 3) := by decide +kernel
theorem dX0_sumOfRow_17 : decode cX0_sumOfRow 17 = .ok (.iload_n 1, 1) := by decide +kernel
theorem dX0_sumOfRow_18 : decode cX0_sumOfRow 18 = .ok (.iload_n 3, 1) := by decide +kernel
theorem dX0_sumOfRow_19 : decode cX0_sumOfRow 19 = .ok (.invokestatic 84, 3) := by decide +kernel
theorem dX0_sumOfRow_22 : decode cX0_sumOfRow 22 = .ok (.iaload, 1) := by decide +kernel
theorem dX0_sumOfRow_23 : decode cX0_sumOfRow 23 = .ok (.iadd, 1) := by decide +kernel
theorem dX0_sumOfRow_24 : decode cX0_sumOfRow 24 = .ok (.istore_n 2, 1) := by decide +kernel
theorem dX0_sumOfRow_25 : decode cX0_sumOfRow 25 = .ok (.iinc 3 1, 3) := by decide +kernel
theorem dX0_sumOfRow_28 : decode cX0_sumOfRow 28 = .ok (.goto (-24), 3) := by decide +kernel
theorem dX0_sumOfRow_31 : decode cX0_sumOfRow 31 = .ok (.iload_n 2, 1) := by decide +kernel
theorem dX0_sumOfRow_32 : decode cX0_sumOfRow 32 = .ok (.ireturn, 1) := by decide +kernel
theorem dX0_sumOfTube_0 : decode cX0_sumOfTube 0 = .ok (.iconst 0, 1) := by decide +kernel
theorem dX0_sumOfTube_1 : decode cX0_sumOfTube 1 = .ok (.istore 4, 2) := by decide +kernel
theorem dX0_sumOfTube_3 : decode cX0_sumOfTube 3 = .ok (.iload_n 2, 1) := by decide +kernel
theorem dX0_sumOfTube_4 : decode cX0_sumOfTube 4 = .ok (.istore 5, 2) := by decide +kernel
theorem dX0_sumOfTube_6 : decode cX0_sumOfTube 6 = .ok (.iload 5, 2) := by decide +kernel
theorem dX0_sumOfTube_8 : decode cX0_sumOfTube 8 = .ok (.iload_n 3, 1) := by decide +kernel
theorem dX0_sumOfTube_9 : decode cX0_sumOfTube 9 = .ok (.if_icmp .ge 25, 3) := by decide +kernel
theorem dX0_sumOfTube_12 : decode cX0_sumOfTube 12 = .ok (.iload 4, 2) := by decide +kernel
theorem dX0_sumOfTube_14 : decode cX0_sumOfTube 14 = .ok (.aload_n 0, 1) := by decide +kernel
theorem dX0_sumOfTube_15 : decode cX0_sumOfTube 15 = .ok (.getfield 19, 3) := by decide +kernel
theorem dX0_sumOfTube_18 : decode cX0_sumOfTube 18 = .ok (.iload 5, 2) := by decide +kernel
theorem dX0_sumOfTube_20 : decode cX0_sumOfTube 20 = .ok (.iload_n 1, 1) := by decide +kernel
theorem dX0_sumOfTube_21 : decode cX0_sumOfTube 21 = .ok (.invokestatic 84, 3) := by decide +kernel
theorem dX0_sumOfTube_24 : decode cX0_sumOfTube 24 = .ok (.iaload, 1) := by decide +kernel
theorem dX0_sumOfTube_25 : decode cX0_sumOfTube 25 = .ok (.iadd, 1) := by decide +kernel
theorem dX0_sumOfTube_26 : decode cX0_sumOfTube 26 = .ok (.istore 4, 2) := by decide +kernel
theorem dX0_sumOfTube_28 : decode cX0_sumOfTube 28 = .ok (.iinc 5 1, 3) := by decide +kernel
theorem dX0_sumOfTube_31 : decode cX0_sumOfTube 31 = .ok (.goto (-25), 3) := by decide +kernel
theorem dX0_sumOfTube_34 : decode cX0_sumOfTube 34 = .ok (.iload 4, 2) := by decide +kernel
theorem dX0_sumOfTube_36 : decode cX0_sumOfTube 36 = .ok (.ireturn, 1) := by decide +kernel
theorem dX0_move_0 : decode cX0_move 0 = .ok (.aload_n 0, 1) := by decide +kernel
theorem dX0_move_1 : decode cX0_move 1 = .ok (.iload_n 1, 1) := by decide +kernel
theorem dX0_move_2 : decode cX0_move 2 = .ok (.invokevirtual 99, 3) := by decide +kernel
theorem dX0_move_5 : decode cX0_move 5 = .ok (.istore 4, 2) := by decide +kernel
theorem dX0_move_7 : decode cX0_move 7 = .ok (.iload 4, 2) := by decide +kernel
theorem dX0_move_9 : decode cX0_move 9 = .ok (.iconst 1, 1) := by decide +kernel
theorem dX0_move_10 : decode cX0_move 10 = .ok (.if_icmp .lt 9, 3) := by decide +kernel
theorem dX0_move_13 : decode cX0_move 13 = .ok (.iload 4, 2) := by decide +kernel
theorem dX0_move_15 : decode cX0_move 15 = .ok (.iload_n 3, 1) := by decide +kernel
theorem dX0_move_16 : decode cX0_move 16 = .ok (.if_icmp .ge 5, 3) := by decide +kernel
theorem dX0_move_19 : decode cX0_move 19 = .ok (.iconst 0, 1) := by decide +kernel
theorem dX0_move_20 : decode cX0_move 20 = .ok (.ireturn, 1) := by decide +kernel
theorem dX0_move_21 : decode cX0_move 21 = .ok (.iconst 0, 1) := by decide +kernel
theorem dX0_move_22 : decode cX0_move 22 = .ok (.istore 5, 2) := by decide +kernel
theorem dX0_move_24 : decode cX0_move 24 = .ok (.iconst 0, 1) := by decide +kernel
theorem dX0_move_25 : decode cX0_move 25 = .ok (.istore 6, 2) := by decide +kernel
theorem dX0_move_27 : decode cX0_move 27 = .ok (.iload 6, 2) := by decide +kernel
theorem dX0_move_29 : decode cX0_move 29 = .ok (.aload_n 0, 1) := by decide +kernel
theorem dX0_move_30 : decode cX0_move 30 = .ok (.getfield 68, 3) := by decide +kernel
theorem dX0_move_33 : decode cX0_move 33 = .ok (.if_icmp .ge 81, 3) := by decide +kernel
theorem dX0_move_36 : decode cX0_move 36 = .ok (.aload_n 0, 1) := by decide +kernel
theorem dX0_move_37 : decode cX0_move 37 = .ok (.getfield 19, 3) := by decide +kernel
theorem dX0_move_40 : decode cX0_move 40 = .ok (.iload_n 1, 1) := by decide +kernel
theorem dX0_move_41 : decode cX0_move 41 = .ok (.iload 6, 2) := by decide +kernel
theorem dX0_move_43 : decode cX0_move 43 = .ok (.invokestatic 84, 3) := by decide +kernel
theorem dX0_move_46 : decode cX0_move 46 = .ok (.iaload, 1) := by decide +kernel
theorem dX0_move_47 : decode cX0_move 47 = .ok (.istore 7, 2) := by decide +kernel
theorem dX0_move_49 : decode cX0_move 49 = .ok (.iload 5, 2) := by decide +kernel
theorem dX0_move_51 : decode cX0_move 51 = .ok (.iload 7, 2) := by decide +kernel
theorem dX0_move_53 : decode cX0_move 53 = .ok (.iadd, 1) := by decide +kernel
theorem dX0_move_54 : decode cX0_move 54 = .ok (.iload_n 3, 1) := by decide +kernel
theorem dX0_move_55 : decode cX0_move 55 = .ok (.imul, 1) := by decide +kernel
theorem dX0_move_56 : decode cX0_move 56 = .ok (.iload 4, 2) := by decide +kernel
theorem dX0_move_58 : decode cX0_move 58 = .ok (.idiv, 1) := by decide +kernel
theorem dX0_move_59 : decode cX0_move 59 = .ok (.iload 5, 2) := by decide +kernel
theorem dX0_move_61 : decode cX0_move 61 = .ok (.iload_n 3, 1) := by decide +kernel
theorem dX0_move_62 : decode cX0_move 62 = .ok (.imul, 1) := by decide +kernel
theorem dX0_move_63 : decode cX0_move 63 = .ok (.iload 4, 2) := by decide +kernel
theorem dX0_move_65 : decode cX0_move 65 = .ok (.idiv, 1) := by decide +kernel
theorem dX0_move_66 : decode cX0_move 66 = .ok (.isub, 1) := by decide +kernel
theorem dX0_move_67 : decode cX0_move 67 = .ok (.istore 8, 2) := by decide +kernel
theorem dX0_move_69 : decode cX0_move 69 = .ok (.aload_n 0, 1) := by decide +kernel
theorem dX0_move_70 : decode cX0_move 70 = .ok (.getfield 19, 3) := by decide +kernel
theorem dX0_move_73 : decode cX0_move 73 = .ok (.iload_n 1, 1) := by decide +kernel
theorem dX0_move_74 : decode cX0_move 74 = .ok (.iload 6, 2) := by decide +kernel
theorem dX0_move_76 : decode cX0_move 76 = .ok (.invokestatic 84, 3) := by decide +kernel
theorem dX0_move_79 : decode cX0_move 79 = .ok (.dup2, 1) := by decide +kernel
theorem dX0_move_80 : decode cX0_move 80 = .ok (.iaload, 1) := by decide +kernel
theorem dX0_move_81 : decode cX0_move 81 = .ok (.iload 8, 2) := by decide +kernel
theorem dX0_move_83 : decode cX0_move 83 = .ok (.isub, 1) := by decide +kernel
theorem dX0_move_84 : decode cX0_move 84 = .ok (.iastore, 1) := by decide +kernel
theorem dX0_move_85 : decode cX0_move 85 = .ok (.aload_n 0, 1) := by decide +kernel
theorem dX0_move_86 : decode cX0_move 86 = .ok (.getfield 19, 3) := by decide +kernel
theorem dX0_move_89 : decode cX0_move 89 = .ok (.iload_n 2, 1) := by decide +kernel
theorem dX0_move_90 : decode cX0_move 90 = .ok (.iload 6, 2) := by decide +kernel
theorem dX0_move_92 : decode cX0_move 92 = .ok (.invokestatic 84, 3) := by decide +kernel
theorem dX0_move_95 : decode cX0_move 95 = .ok (.dup2, 1) := by decide +kernel
theorem dX0_move_96 : decode cX0_move 96 = .ok (.iaload, 1) := by decide +kernel
theorem dX0_move_97 : decode cX0_move 97 = .ok (.iload 8, 2) := by decide +kernel
theorem dX0_move_99 : decode cX0_move 99 = .ok (.iadd, 1) := by decide +kernel
theorem dX0_move_100 : decode cX0_move 100 = .ok (.iastore, 1) := by decide +kernel
theorem dX0_move_101 : decode cX0_move 101 = .ok (.iload 5, 2) := by decide +kernel
theorem dX0_move_103 : decode cX0_move 103 = .ok (.iload 7, 2) := by decide +kernel
theorem dX0_move_105 : decode cX0_move 105 = .ok (.iadd, 1) := by decide +kernel
theorem dX0_move_106 : decode cX0_move 106 = .ok (.istore 5, 2) := by decide +kernel
theorem dX0_move_108 : decode cX0_move 108 = .ok (.iinc 6 1, 3) := by decide +kernel
theorem dX0_move_111 : decode cX0_move 111 = .ok (.goto (-84), 3) := by decide +kernel
theorem dX0_move_114 : decode cX0_move 114 = .ok (.iconst 1, 1) := by decide +kernel
theorem dX0_move_115 : decode cX0_move 115 = .ok (.ireturn, 1) := by decide +kernel
theorem dX0_waste_0 : decode cX0_waste 0 = .ok (.iconst 0, 1) := by decide +kernel
theorem dX0_waste_1 : decode cX0_waste 1 = .ok (.istore_n 2, 1) := by decide +kernel
theorem dX0_waste_2 : decode cX0_waste 2 = .ok (.iconst 0, 1) := by decide +kernel
theorem dX0_waste_3 : decode cX0_waste 3 = .ok (.istore_n 3, 1) := by decide +kernel
theorem dX0_waste_4 : decode cX0_waste 4 = .ok (.iload_n 3, 1) := by decide +kernel
theorem dX0_waste_5 : decode cX0_waste 5 = .ok (.aload_n 0, 1) := by decide +kernel
theorem dX0_waste_6 : decode cX0_waste 6 = .ok (.getfield 68, 3) := by decide +kernel
theorem dX0_waste_9 : decode cX0_waste 9 = .ok (.if_icmp .ge 53, 3) := by decide +kernel
theorem dX0_waste_12 : decode cX0_waste 12 = .ok (.aload_n 0, 1) := by decide +kernel
theorem dX0_waste_13 : decode cX0_waste 13 = .ok (.getfield 19, 3) := by decide +kernel
theorem dX0_waste_16 : decode cX0_waste 16 = .ok (.iload_n 1, 1) := by decide +kernel
theorem dX0_waste_17 : decode cX0_waste 17 = .ok (.iload_n 3, 1) := by decide +kernel
theorem dX0_waste_18 : decode cX0_waste 18 = .ok (.invokestatic 84, 3) := by decide +kernel
theorem dX0_waste_21 : decode cX0_waste 21 = .ok (.iaload, 1) := by decide +kernel
theorem dX0_waste_22 : decode cX0_waste 22 = .ok (.istore 4, 2) := by decide +kernel
theorem dX0_waste_24 : decode cX0_waste 24 = .ok (.aload_n 0, 1) := by decide +kernel
theorem dX0_waste_25 : decode cX0_waste 25 = .ok (.getfield 19, 3) := by decide +kernel
theorem dX0_waste_28 : decode cX0_waste 28 = .ok (.iload_n 1, 1) := by decide +kernel
theorem dX0_waste_29 : decode cX0_waste 29 = .ok (.iload_n 3, 1) := by decide +kernel
theorem dX0_waste_30 : decode cX0_waste 30 = .ok (.invokestatic 84, 3) := by decide +kernel
theorem dX0_waste_33 : decode cX0_waste 33 = .ok (.iconst 0, 1) := by decide +kernel
theorem dX0_waste_34 : decode cX0_waste 34 = .ok (.iastore, 1) := by decide +kernel
theorem dX0_waste_35 : decode cX0_waste 35 = .ok (.aload_n 0, 1) := by decide +kernel
theorem dX0_waste_36 : decode cX0_waste 36 = .ok (.getfield 19, 3) := by decide +kernel
theorem dX0_waste_39 : decode cX0_waste 39 = .ok (.bipush 106, 2) := by decide +kernel
theorem dX0_waste_41 : decode cX0_waste 41 = .ok (.iload_n 3, 1) := by decide +kernel
theorem dX0_waste_42 : decode cX0_waste 42 = .ok (.invokestatic 84, 3) := by decide +kernel
theorem dX0_waste_45 : decode cX0_waste 45 = .ok (.dup2, 1) := by decide +kernel
theorem dX0_waste_46 : decode cX0_waste 46 = .ok (.iaload, 1) := by decide +kernel
theorem dX0_waste_47 : decode cX0_waste 47 = .ok (.iload 4, 2) := by decide +kernel
theorem dX0_waste_49 : decode cX0_waste 49 = .ok (.iadd, 1) := by decide +kernel
theorem dX0_waste_50 : decode cX0_waste 50 = .ok (.iastore, 1) := by decide +kernel
theorem dX0_waste_51 : decode cX0_waste 51 = .ok (.iload_n 2, 1) := by decide +kernel
theorem dX0_waste_52 : decode cX0_waste 52 = .ok (.iload 4, 2) := by decide +kernel
theorem dX0_waste_54 : decode cX0_waste 54 = .ok (.iadd, 1) := by decide +kernel
theorem dX0_waste_55 : decode cX0_waste 55 = .ok (.istore_n 2, 1) := by decide +kernel
theorem dX0_waste_56 : decode cX0_waste 56 = .ok (.iinc 3 1, 3) := by decide +kernel
theorem dX0_waste_59 : decode cX0_waste 59 = .ok (.goto (-55), 3) := by decide +kernel
theorem dX0_waste_62 : decode cX0_waste 62 = .ok (.iload_n 2, 1) := by decide +kernel
theorem dX0_waste_63 : decode cX0_waste 63 = .ok (.ireturn, 1) := by decide +kernel
theorem dX0_colourOfTube_0 : decode cX0_colourOfTube 0 = .ok (.aload_n 0, 1) := by decide +kernel
theorem dX0_colourOfTube_1 : decode cX0_colourOfTube 1 = .ok (.getfield 9, 3) := by decide +kernel
theorem dX0_colourOfTube_4 : decode cX0_colourOfTube 4 = .ok (.aload_n 0, 1) := by decide +kernel
theorem dX0_colourOfTube_5 : decode cX0_colourOfTube 5 = .ok (.getfield 13, 3) := by decide +kernel
theorem dX0_colourOfTube_8 : decode cX0_colourOfTube 8 = .ok (.iload_n 1, 1) := by decide +kernel
theorem dX0_colourOfTube_9 : decode cX0_colourOfTube 9 = .ok (.iaload, 1) := by decide +kernel
theorem dX0_colourOfTube_10 : decode cX0_colourOfTube 10 = .ok (.iconst 3, 1) := by decide +kernel
theorem dX0_colourOfTube_11 : decode cX0_colourOfTube 11 = .ok (.imul, 1) := by decide +kernel
theorem dX0_colourOfTube_12 : decode cX0_colourOfTube 12 = .ok (.iload_n 2, 1) := by decide +kernel
theorem dX0_colourOfTube_13 : decode cX0_colourOfTube 13 = .ok (.iadd, 1) := by decide +kernel
theorem dX0_colourOfTube_14 : decode cX0_colourOfTube 14 = .ok (.iaload, 1) := by decide +kernel
theorem dX0_colourOfTube_15 : decode cX0_colourOfTube 15 = .ok (.ireturn, 1) := by decide +kernel
theorem dX0_colourOfRow_0 : decode cX0_colourOfRow 0 = .ok (.iconst 0, 1) := by decide +kernel
theorem dX0_colourOfRow_1 : decode cX0_colourOfRow 1 = .ok (.istore_n 3, 1) := by decide +kernel
theorem dX0_colourOfRow_2 : decode cX0_colourOfRow 2 = .ok (.iconst 0, 1) := by decide +kernel
theorem dX0_colourOfRow_3 : decode cX0_colourOfRow 3 = .ok (.istore 4, 2) := by decide +kernel
theorem dX0_colourOfRow_5 : decode cX0_colourOfRow 5 = .ok (.iconst 0, 1) := by decide +kernel
theorem dX0_colourOfRow_6 : decode cX0_colourOfRow 6 = .ok (.istore 5, 2) := by decide +kernel
theorem dX0_colourOfRow_8 : decode cX0_colourOfRow 8 = .ok (.iload 5, 2) := by decide +kernel
theorem dX0_colourOfRow_10 : decode cX0_colourOfRow 10 = .ok (.aload_n 0, 1) := by decide +kernel
theorem dX0_colourOfRow_11 : decode cX0_colourOfRow 11 = .ok (.getfield 68, 3) := by decide +kernel
theorem dX0_colourOfRow_14 : decode cX0_colourOfRow 14 = .ok (.if_icmp .ge 42, 3) := by decide +kernel
theorem dX0_colourOfRow_17 : decode cX0_colourOfRow 17 = .ok (.aload_n 0, 1) := by decide +kernel
theorem dX0_colourOfRow_18 : decode cX0_colourOfRow 18 = .ok (.getfield 19, 3) := by decide +kernel
theorem dX0_colourOfRow_21 : decode cX0_colourOfRow 21 = .ok (.iload_n 1, 1) := by decide +kernel
theorem dX0_colourOfRow_22 : decode cX0_colourOfRow 22 = .ok (.iload 5, 2) := by decide +kernel
theorem dX0_colourOfRow_24 : decode cX0_colourOfRow 24 = .ok (.invokestatic 84, 3) := by decide +kernel
theorem dX0_colourOfRow_27 : decode cX0_colourOfRow 27 = .ok (.iaload, 1) := by decide +kernel
theorem dX0_colourOfRow_28 : decode cX0_colourOfRow 28 = .ok (.istore 6, 2) := by decide +kernel
theorem dX0_colourOfRow_30 : decode cX0_colourOfRow 30 = .ok (.iload_n 3, 1) := by decide +kernel
theorem dX0_colourOfRow_31 : decode cX0_colourOfRow 31 = .ok (.iload 6, 2) := by decide +kernel
theorem dX0_colourOfRow_33 : decode cX0_colourOfRow 33 = .ok (.iadd, 1) := by decide +kernel
theorem dX0_colourOfRow_34 : decode cX0_colourOfRow 34 = .ok (.istore_n 3, 1) := by decide +kernel
theorem dX0_colourOfRow_35 : decode cX0_colourOfRow 35 = .ok (.iload 4, 2) := by decide +kernel
theorem dX0_colourOfRow_37 : decode cX0_colourOfRow 37 = .ok (.iload 6, 2) := by decide +kernel
theorem dX0_colourOfRow_39 : decode cX0_colourOfRow 39 = .ok (.aload_n 0, 1) := by decide +kernel
theorem dX0_colourOfRow_40 : decode cX0_colourOfRow 40 = .ok (.iload 5, 2) := by decide +kernel
theorem dX0_colourOfRow_42 : decode cX0_colourOfRow 42 = .ok (.iload_n 2, 1) := by decide +kernel
theorem dX0_colourOfRow_43 : decode cX0_colourOfRow 43 = .ok (.invokevirtual 170, 3) := by decide +kernel
theorem dX0_colourOfRow_46 : decode cX0_colourOfRow 46 = .ok (.imul, 1) := by decide +kernel
theorem dX0_colourOfRow_47 : decode cX0_colourOfRow 47 = .ok (.iadd, 1) := by decide +kernel
theorem dX0_colourOfRow_48 : decode cX0_colourOfRow 48 = .ok (.istore 4, 2) := by decide +kernel
theorem dX0_colourOfRow_50 : decode cX0_colourOfRow 50 = .ok (.iinc 5 1, 3) := by decide +kernel
theorem dX0_colourOfRow_53 : decode cX0_colourOfRow 53 = .ok (.goto (-45), 3) := by decide +kernel
theorem dX0_colourOfRow_56 : decode cX0_colourOfRow 56 = .ok (.iload_n 3, 1) := by decide +kernel
theorem dX0_colourOfRow_57 : decode cX0_colourOfRow 57 = .ok (.ifCond .ne 7, 3) := by decide +kernel
theorem dX0_colourOfRow_60 : decode cX0_colourOfRow 60 = .ok (.iconst (-1), 1) := by decide +kernel
theorem dX0_colourOfRow_61 : decode cX0_colourOfRow 61 = .ok (.goto 7, 3) := by decide +kernel
theorem dX0_colourOfRow_64 : decode cX0_colourOfRow 64 = .ok (.iload 4, 2) := by decide +kernel
theorem dX0_colourOfRow_66 : decode cX0_colourOfRow 66 = .ok (.iload_n 3, 1) := by decide +kernel
theorem dX0_colourOfRow_67 : decode cX0_colourOfRow 67 = .ok (.idiv, 1) := by decide +kernel
theorem dX0_colourOfRow_68 : decode cX0_colourOfRow 68 = .ok (.ireturn, 1) := by decide +kernel
theorem dX0_gramsOfPigment_0 : decode cX0_gramsOfPigment 0 = .ok (.iconst 0, 1) := by decide +kernel
theorem dX0_gramsOfPigment_1 : decode cX0_gramsOfPigment 1 = .ok (.istore_n 3, 1) := by decide +kernel
theorem dX0_gramsOfPigment_2 : decode cX0_gramsOfPigment 2 = .ok (.iconst 0, 1) := by decide +kernel
theorem dX0_gramsOfPigment_3 : decode cX0_gramsOfPigment 3 = .ok (.istore 4, 2) := by decide +kernel
theorem dX0_gramsOfPigment_5 : decode cX0_gramsOfPigment 5 = .ok (.iload 4, 2) := by decide +kernel
theorem dX0_gramsOfPigment_7 : decode cX0_gramsOfPigment 7 = .ok (.aload_n 0, 1) := by decide +kernel
theorem dX0_gramsOfPigment_8 : decode cX0_gramsOfPigment 8 = .ok (.getfield 68, 3) := by decide +kernel
theorem dX0_gramsOfPigment_11 : decode cX0_gramsOfPigment 11 = .ok (.if_icmp .ge 34, 3) := by decide +kernel
theorem dX0_gramsOfPigment_14 : decode cX0_gramsOfPigment 14 = .ok (.aload_n 0, 1) := by decide +kernel
theorem dX0_gramsOfPigment_15 : decode cX0_gramsOfPigment 15 = .ok (.getfield 13, 3) := by decide +kernel
theorem dX0_gramsOfPigment_18 : decode cX0_gramsOfPigment 18 = .ok (.iload 4, 2) := by decide +kernel
theorem dX0_gramsOfPigment_20 : decode cX0_gramsOfPigment 20 = .ok (.iaload, 1) := by decide +kernel
theorem dX0_gramsOfPigment_21 : decode cX0_gramsOfPigment 21 = .ok (.iload_n 2, 1) := by decide +kernel
theorem dX0_gramsOfPigment_22 : decode cX0_gramsOfPigment 22 = .ok (.if_icmp .ne 17, 3) := by decide +kernel
theorem dX0_gramsOfPigment_25 : decode cX0_gramsOfPigment 25 = .ok (.iload_n 3, 1) := by decide +kernel
theorem dX0_gramsOfPigment_26 : decode cX0_gramsOfPigment 26 = .ok (.aload_n 0, 1) := by decide +kernel
theorem dX0_gramsOfPigment_27 : decode cX0_gramsOfPigment 27 = .ok (.getfield 19, 3) := by decide +kernel
theorem dX0_gramsOfPigment_30 : decode cX0_gramsOfPigment 30 = .ok (.iload_n 1, 1) := by decide +kernel
theorem dX0_gramsOfPigment_31 : decode cX0_gramsOfPigment 31 = .ok (.iload 4, 2) := by decide +kernel
theorem dX0_gramsOfPigment_33 : decode cX0_gramsOfPigment 33 = .ok (.invokestatic 84, 3) := by decide +kernel
theorem dX0_gramsOfPigment_36 : decode cX0_gramsOfPigment 36 = .ok (.iaload, 1) := by decide +kernel
theorem dX0_gramsOfPigment_37 : decode cX0_gramsOfPigment 37 = .ok (.iadd, 1) := by decide +kernel
theorem dX0_gramsOfPigment_38 : decode cX0_gramsOfPigment 38 = .ok (.istore_n 3, 1) := by decide +kernel
theorem dX0_gramsOfPigment_39 : decode cX0_gramsOfPigment 39 = .ok (.iinc 4 1, 3) := by decide +kernel
theorem dX0_gramsOfPigment_42 : decode cX0_gramsOfPigment 42 = .ok (.goto (-37), 3) := by decide +kernel
theorem dX0_gramsOfPigment_45 : decode cX0_gramsOfPigment 45 = .ok (.iload_n 3, 1) := by decide +kernel
theorem dX0_gramsOfPigment_46 : decode cX0_gramsOfPigment 46 = .ok (.ireturn, 1) := by decide +kernel
theorem dX0_mainPigmentOfRow_0 : decode cX0_mainPigmentOfRow 0 = .ok (.iconst (-1), 1) := by decide +kernel
theorem dX0_mainPigmentOfRow_1 : decode cX0_mainPigmentOfRow 1 = .ok (.istore_n 2, 1) := by decide +kernel
theorem dX0_mainPigmentOfRow_2 : decode cX0_mainPigmentOfRow 2 = .ok (.iconst 0, 1) := by decide +kernel
theorem dX0_mainPigmentOfRow_3 : decode cX0_mainPigmentOfRow 3 = .ok (.istore_n 3, 1) := by decide +kernel
theorem dX0_mainPigmentOfRow_4 : decode cX0_mainPigmentOfRow 4 = .ok (.iconst 0, 1) := by decide +kernel
theorem dX0_mainPigmentOfRow_5 : decode cX0_mainPigmentOfRow 5 = .ok (.istore 4, 2) := by decide +kernel
theorem dX0_mainPigmentOfRow_7 : decode cX0_mainPigmentOfRow 7 = .ok (.iload 4, 2) := by decide +kernel
theorem dX0_mainPigmentOfRow_9 : decode cX0_mainPigmentOfRow 9 = .ok (.aload_n 0, 1) := by decide +kernel
theorem dX0_mainPigmentOfRow_10 : decode cX0_mainPigmentOfRow 10 = .ok (.getfield 50, 3) := by decide +kernel
theorem dX0_mainPigmentOfRow_13 : decode cX0_mainPigmentOfRow 13 = .ok (.if_icmp .ge 30, 3) := by decide +kernel
theorem dX0_mainPigmentOfRow_16 : decode cX0_mainPigmentOfRow 16 = .ok (.aload_n 0, 1) := by decide +kernel
theorem dX0_mainPigmentOfRow_17 : decode cX0_mainPigmentOfRow 17 = .ok (.iload_n 1, 1) := by decide +kernel
theorem dX0_mainPigmentOfRow_18 : decode cX0_mainPigmentOfRow 18 = .ok (.iload 4, 2) := by decide +kernel
theorem dX0_mainPigmentOfRow_20 : decode cX0_mainPigmentOfRow 20 = .ok (.invokevirtual 173, 3) := by decide +kernel
theorem dX0_mainPigmentOfRow_23 : decode cX0_mainPigmentOfRow 23 = .ok (.istore 5, 2) := by decide +kernel
theorem dX0_mainPigmentOfRow_25 : decode cX0_mainPigmentOfRow 25 = .ok (.iload 5, 2) := by decide +kernel
theorem dX0_mainPigmentOfRow_27 : decode cX0_mainPigmentOfRow 27 = .ok (.iload_n 3, 1) := by decide +kernel
theorem dX0_mainPigmentOfRow_28 : decode cX0_mainPigmentOfRow 28 = .ok (.if_icmp .le 9, 3) := by decide +kernel
theorem dX0_mainPigmentOfRow_31 : decode cX0_mainPigmentOfRow 31 = .ok (.iload 4, 2) := by decide +kernel
theorem dX0_mainPigmentOfRow_33 : decode cX0_mainPigmentOfRow 33 = .ok (.istore_n 2, 1) := by decide +kernel
theorem dX0_mainPigmentOfRow_34 : decode cX0_mainPigmentOfRow 34 = .ok (.iload 5, 2) := by decide +kernel
theorem dX0_mainPigmentOfRow_36 : decode cX0_mainPigmentOfRow 36 = .ok (.istore_n 3, 1) := by decide +kernel
theorem dX0_mainPigmentOfRow_37 : decode cX0_mainPigmentOfRow 37 = .ok (.iinc 4 1, 3) := by decide +kernel
theorem dX0_mainPigmentOfRow_40 : decode cX0_mainPigmentOfRow 40 = .ok (.goto (-33), 3) := by decide +kernel
theorem dX0_mainPigmentOfRow_43 : decode cX0_mainPigmentOfRow 43 = .ok (.iload_n 2, 1) := by decide +kernel
theorem dX0_mainPigmentOfRow_44 : decode cX0_mainPigmentOfRow 44 = .ok (.ireturn, 1) := by decide +kernel
theorem dX0_mixed_0 : decode cX0_mixed 0 = .ok (.iload_n 3, 1) := by decide +kernel
theorem dX0_mixed_1 : decode cX0_mixed 1 = .ok (.aload_n 0, 1) := by decide +kernel
theorem dX0_mixed_2 : decode cX0_mixed 2 = .ok (.iload_n 1, 1) := by decide +kernel
theorem dX0_mixed_3 : decode cX0_mixed 3 = .ok (.iload 4, 2) := by decide +kernel
theorem dX0_mixed_5 : decode cX0_mixed 5 = .ok (.invokevirtual 170, 3) := by decide +kernel
theorem dX0_mixed_8 : decode cX0_mixed 8 = .ok (.imul, 1) := by decide +kernel
theorem dX0_mixed_9 : decode cX0_mixed 9 = .ok (.iconst 4, 1) := by decide +kernel
theorem dX0_mixed_10 : decode cX0_mixed 10 = .ok (.iload_n 3, 1) := by decide +kernel
theorem dX0_mixed_11 : decode cX0_mixed 11 = .ok (.isub, 1) := by decide +kernel
theorem dX0_mixed_12 : decode cX0_mixed 12 = .ok (.aload_n 0, 1) := by decide +kernel
theorem dX0_mixed_13 : decode cX0_mixed 13 = .ok (.iload_n 2, 1) := by decide +kernel
theorem dX0_mixed_14 : decode cX0_mixed 14 = .ok (.iload 4, 2) := by decide +kernel
theorem dX0_mixed_16 : decode cX0_mixed 16 = .ok (.invokevirtual 170, 3) := by decide +kernel
theorem dX0_mixed_19 : decode cX0_mixed 19 = .ok (.imul, 1) := by decide +kernel
theorem dX0_mixed_20 : decode cX0_mixed 20 = .ok (.iadd, 1) := by decide +kernel
theorem dX0_mixed_21 : decode cX0_mixed 21 = .ok (.iconst 4, 1) := by decide +kernel
theorem dX0_mixed_22 : decode cX0_mixed 22 = .ok (.idiv, 1) := by decide +kernel
theorem dX0_mixed_23 : decode cX0_mixed 23 = .ok (.ireturn, 1) := by decide +kernel
theorem dX0_square_0 : decode cX0_square 0 = .ok (.iload_n 0, 1) := by decide +kernel
theorem dX0_square_1 : decode cX0_square 1 = .ok (.iload_n 0, 1) := by decide +kernel
theorem dX0_square_2 : decode cX0_square 2 = .ok (.imul, 1) := by decide +kernel
theorem dX0_square_3 : decode cX0_square 3 = .ok (.ireturn, 1) := by decide +kernel
theorem dX0_isLent_0 : decode cX0_isLent 0 = .ok (.aload_n 0, 1) := by decide +kernel
theorem dX0_isLent_1 : decode cX0_isLent 1 = .ok (.getfield 31, 3) := by decide +kernel
theorem dX0_isLent_4 : decode cX0_isLent 4 = .ok (.iload_n 1, 1) := by decide +kernel
theorem dX0_isLent_5 : decode cX0_isLent 5 = .ok (.iaload, 1) := by decide +kernel
theorem dX0_isLent_6 : decode cX0_isLent 6 = .ok (.ifCond .le 7, 3) := by decide +kernel
theorem dX0_isLent_9 : decode cX0_isLent 9 = .ok (.iconst 1, 1) := by decide +kernel
theorem dX0_isLent_10 : decode cX0_isLent 10 = .ok (.goto 4, 3) := by decide +kernel
theorem dX0_isLent_13 : decode cX0_isLent 13 = .ok (.iconst 0, 1) := by decide +kernel
theorem dX0_isLent_14 : decode cX0_isLent 14 = .ok (.ireturn, 1) := by decide +kernel
theorem dX0_mainPigmentOf_0 : decode cX0_mainPigmentOf 0 = .ok (.aload_n 0, 1) := by decide +kernel
theorem dX0_mainPigmentOf_1 : decode cX0_mainPigmentOf 1 = .ok (.getfield 22, 3) := by decide +kernel
theorem dX0_mainPigmentOf_4 : decode cX0_mainPigmentOf 4 = .ok (.iload_n 1, 1) := by decide +kernel
theorem dX0_mainPigmentOf_5 : decode cX0_mainPigmentOf 5 = .ok (.iaload, 1) := by decide +kernel
theorem dX0_mainPigmentOf_6 : decode cX0_mainPigmentOf 6 = .ok (.istore_n 2, 1) := by decide +kernel
theorem dX0_mainPigmentOf_7 : decode cX0_mainPigmentOf 7 = .ok (.iload_n 2, 1) := by decide +kernel
theorem dX0_mainPigmentOf_8 : decode cX0_mainPigmentOf 8 = .ok (.ifCond .ne 7, 3) := by decide +kernel
theorem dX0_mainPigmentOf_11 : decode cX0_mainPigmentOf 11 = .ok (.iconst (-1), 1) := by decide +kernel
theorem dX0_mainPigmentOf_12 : decode cX0_mainPigmentOf 12 = .ok (.goto 14, 3) := by decide +kernel
theorem dX0_mainPigmentOf_15 : decode cX0_mainPigmentOf 15 = .ok (.aload_n 0, 1) := by decide +kernel
theorem dX0_mainPigmentOf_16 : decode cX0_mainPigmentOf 16 = .ok (.iload_n 1, 1) := by decide +kernel
theorem dX0_mainPigmentOf_17 : decode cX0_mainPigmentOf 17 = .ok (.iload_n 2, 1) := by decide +kernel
theorem dX0_mainPigmentOf_18 : decode cX0_mainPigmentOf 18 = .ok (.iconst 1, 1) := by decide +kernel
theorem dX0_mainPigmentOf_19 : decode cX0_mainPigmentOf 19 = .ok (.isub, 1) := by decide +kernel
theorem dX0_mainPigmentOf_20 : decode cX0_mainPigmentOf 20 = .ok (.invokestatic 116, 3) := by decide +kernel
theorem dX0_mainPigmentOf_23 : decode cX0_mainPigmentOf 23 = .ok (.invokevirtual 176, 3) := by decide +kernel
theorem dX0_mainPigmentOf_26 : decode cX0_mainPigmentOf 26 = .ok (.ireturn, 1) := by decide +kernel
theorem dX0_lookOf_0 : decode cX0_lookOf 0 = .ok (.aload_n 0, 1) := by decide +kernel
theorem dX0_lookOf_1 : decode cX0_lookOf 1 = .ok (.getfield 22, 3) := by decide +kernel
theorem dX0_lookOf_4 : decode cX0_lookOf 4 = .ok (.iload_n 1, 1) := by decide +kernel
theorem dX0_lookOf_5 : decode cX0_lookOf 5 = .ok (.iaload, 1) := by decide +kernel
theorem dX0_lookOf_6 : decode cX0_lookOf 6 = .ok (.istore_n 3, 1) := by decide +kernel
theorem dX0_lookOf_7 : decode cX0_lookOf 7 = .ok (.iload_n 3, 1) := by decide +kernel
theorem dX0_lookOf_8 : decode cX0_lookOf 8 = .ok (.ifCond .ne 7, 3) := by decide +kernel
theorem dX0_lookOf_11 : decode cX0_lookOf 11 = .ok (.iconst (-1), 1) := by decide +kernel
theorem dX0_lookOf_12 : decode cX0_lookOf 12 = .ok (.goto 15, 3) := by decide +kernel
theorem dX0_lookOf_15 : decode cX0_lookOf 15 = .ok (.aload_n 0, 1) := by decide +kernel
theorem dX0_lookOf_16 : decode cX0_lookOf 16 = .ok (.iload_n 1, 1) := by decide +kernel
theorem dX0_lookOf_17 : decode cX0_lookOf 17 = .ok (.iload_n 3, 1) := by decide +kernel
theorem dX0_lookOf_18 : decode cX0_lookOf 18 = .ok (.iconst 1, 1) := by decide +kernel
theorem dX0_lookOf_19 : decode cX0_lookOf 19 = .ok (.isub, 1) := by decide +kernel
theorem dX0_lookOf_20 : decode cX0_lookOf 20 = .ok (.invokestatic 116, 3) := by decide +kernel
theorem dX0_lookOf_23 : decode cX0_lookOf 23 = .ok (.iload_n 2, 1) := by decide +kernel
theorem dX0_lookOf_24 : decode cX0_lookOf 24 = .ok (.invokevirtual 137, 3) := by decide +kernel
theorem dX0_lookOf_27 : decode cX0_lookOf 27 = .ok (.ireturn, 1) := by decide +kernel
theorem dX0_valueOf_0 : decode cX0_valueOf 0 = .ok (.aload_n 0, 1) := by decide +kernel
theorem dX0_valueOf_1 : decode cX0_valueOf 1 = .ok (.iload_n 1, 1) := by decide +kernel
theorem dX0_valueOf_2 : decode cX0_valueOf 2 = .ok (.invokevirtual 179, 3) := by decide +kernel
theorem dX0_valueOf_5 : decode cX0_valueOf 5 = .ok (.istore_n 2, 1) := by decide +kernel
theorem dX0_valueOf_6 : decode cX0_valueOf 6 = .ok (.iconst 0, 1) := by decide +kernel
theorem dX0_valueOf_7 : decode cX0_valueOf 7 = .ok (.iload_n 2, 1) := by decide +kernel
theorem dX0_valueOf_8 : decode cX0_valueOf 8 = .ok (.aload_n 0, 1) := by decide +kernel
theorem dX0_valueOf_9 : decode cX0_valueOf 9 = .ok (.getfield 25, 3) := by decide +kernel
theorem dX0_valueOf_12 : decode cX0_valueOf 12 = .ok (.iload_n 1, 1) := by decide +kernel
theorem dX0_valueOf_13 : decode cX0_valueOf 13 = .ok (.iaload, 1) := by decide +kernel
theorem dX0_valueOf_14 : decode cX0_valueOf 14 = .ok (.iload_n 2, 1) := by decide +kernel
theorem dX0_valueOf_15 : decode cX0_valueOf 15 = .ok (.bipush 20, 2) := by decide +kernel
theorem dX0_valueOf_17 : decode cX0_valueOf 17 = .ok (.idiv, 1) := by decide +kernel
theorem dX0_valueOf_18 : decode cX0_valueOf 18 = .ok (.imul, 1) := by decide +kernel
theorem dX0_valueOf_19 : decode cX0_valueOf 19 = .ok (.isub, 1) := by decide +kernel
theorem dX0_valueOf_20 : decode cX0_valueOf 20 = .ok (.invokestatic 182, 3) := by decide +kernel
theorem dX0_valueOf_23 : decode cX0_valueOf 23 = .ok (.ireturn, 1) := by decide +kernel
theorem dX0_averagePriceOfAlike_0 : decode cX0_averagePriceOfAlike 0 = .ok (.aload_n 0, 1) := by decide +kernel
theorem dX0_averagePriceOfAlike_1 : decode cX0_averagePriceOfAlike 1 = .ok (.iload_n 1, 1) := by decide +kernel
theorem dX0_averagePriceOfAlike_2 : decode cX0_averagePriceOfAlike 2 = .ok (.invokevirtual 140, 3) := by decide +kernel
theorem dX0_averagePriceOfAlike_5 : decode cX0_averagePriceOfAlike 5 = .ok (.istore_n 2, 1) := by decide +kernel
theorem dX0_averagePriceOfAlike_6 : decode cX0_averagePriceOfAlike 6 = .ok (.iload_n 2, 1) := by decide +kernel
theorem dX0_averagePriceOfAlike_7 : decode cX0_averagePriceOfAlike 7 = .ok (.iconst (-1), 1) := by decide +kernel
theorem dX0_averagePriceOfAlike_8 : decode cX0_averagePriceOfAlike 8 = .ok (.if_icmp .ne 5, 3) := by decide +kernel
theorem dX0_averagePriceOfAlike_11 : decode cX0_averagePriceOfAlike 11 = .ok (.iconst 0, 1) := by decide +kernel
theorem dX0_averagePriceOfAlike_12 : decode cX0_averagePriceOfAlike 12 = .ok (.ireturn, 1) := by decide +kernel
theorem dX0_averagePriceOfAlike_13 : decode cX0_averagePriceOfAlike 13 = .ok (.iconst 0, 1) := by decide +kernel
theorem dX0_averagePriceOfAlike_14 : decode cX0_averagePriceOfAlike 14 = .ok (.istore_n 3, 1) := by decide +kernel
theorem dX0_averagePriceOfAlike_15 : decode cX0_averagePriceOfAlike 15 = .ok (.iconst 0, 1) := by decide +kernel
theorem dX0_averagePriceOfAlike_16 : decode cX0_averagePriceOfAlike 16 = .ok (.istore 4, 2) := by decide +kernel
theorem dX0_averagePriceOfAlike_18 : decode cX0_averagePriceOfAlike 18 = .ok (.iconst 0, 1) := by decide +kernel
theorem dX0_averagePriceOfAlike_19 : decode cX0_averagePriceOfAlike 19 = .ok (.istore 5, 2) := by decide +kernel
theorem dX0_averagePriceOfAlike_21 : decode cX0_averagePriceOfAlike 21 = .ok (.iload 5, 2) := by decide +kernel
theorem dX0_averagePriceOfAlike_23 : decode cX0_averagePriceOfAlike 23 = .ok (.aload_n 0, 1) := by decide +kernel
theorem dX0_averagePriceOfAlike_24 : decode cX0_averagePriceOfAlike 24 = .ok (.getfield 105, 3) := by decide +kernel
theorem dX0_averagePriceOfAlike_27 : decode cX0_averagePriceOfAlike 27 = .ok (.if_icmp .ge 42, 3) := by decide +kernel
theorem dX0_averagePriceOfAlike_30 : decode cX0_averagePriceOfAlike 30 = .ok (.aload_n 0, 1) := by decide +kernel
theorem dX0_averagePriceOfAlike_31 : decode cX0_averagePriceOfAlike 31 = .ok (.getfield 28, 3) := by decide +kernel
theorem dX0_averagePriceOfAlike_34 : decode cX0_averagePriceOfAlike 34 = .ok (.iload 5, 2) := by decide +kernel
theorem dX0_averagePriceOfAlike_36 : decode cX0_averagePriceOfAlike 36 = .ok (.iaload, 1) := by decide +kernel
theorem dX0_averagePriceOfAlike_37 : decode cX0_averagePriceOfAlike 37 = .ok (.ifCond .le 26, 3) := by decide +kernel
theorem dX0_averagePriceOfAlike_40 : decode cX0_averagePriceOfAlike 40 = .ok (.aload_n 0, 1) := by decide +kernel
theorem dX0_averagePriceOfAlike_41 : decode cX0_averagePriceOfAlike 41 = .ok (.iload 5, 2) := by decide +kernel
theorem dX0_averagePriceOfAlike_43 : decode cX0_averagePriceOfAlike 43 = .ok (.invokevirtual 140, 3) := by decide +kernel
theorem dX0_averagePriceOfAlike_46 : decode cX0_averagePriceOfAlike 46 = .ok (.iload_n 2, 1) := by decide +kernel
theorem dX0_averagePriceOfAlike_47 : decode cX0_averagePriceOfAlike 47 = .ok (.if_icmp .ne 16, 3) := by decide +kernel
theorem dX0_averagePriceOfAlike_50 : decode cX0_averagePriceOfAlike 50 = .ok (.iload_n 3, 1) := by decide +kernel
theorem dX0_averagePriceOfAlike_51 : decode cX0_averagePriceOfAlike 51 = .ok (.aload_n 0, 1) := by decide +kernel
theorem dX0_averagePriceOfAlike_52 : decode cX0_averagePriceOfAlike 52 = .ok (.getfield 28, 3) := by decide +kernel
theorem dX0_averagePriceOfAlike_55 : decode cX0_averagePriceOfAlike 55 = .ok (.iload 5, 2) := by decide +kernel
theorem dX0_averagePriceOfAlike_57 : decode cX0_averagePriceOfAlike 57 = .ok (.iaload, 1) := by decide +kernel
theorem dX0_averagePriceOfAlike_58 : decode cX0_averagePriceOfAlike 58 = .ok (.iadd, 1) := by decide +kernel
theorem dX0_averagePriceOfAlike_59 : decode cX0_averagePriceOfAlike 59 = .ok (.istore_n 3, 1) := by decide +kernel
theorem dX0_averagePriceOfAlike_60 : decode cX0_averagePriceOfAlike 60 = .ok (.iinc 4 1, 3) := by decide +kernel
theorem dX0_averagePriceOfAlike_63 : decode cX0_averagePriceOfAlike 63 = .ok (.iinc 5 1, 3) := by decide +kernel
theorem dX0_averagePriceOfAlike_66 : decode cX0_averagePriceOfAlike 66 = .ok (.goto (-45), 3) := by decide +kernel
theorem dX0_averagePriceOfAlike_69 : decode cX0_averagePriceOfAlike 69 = .ok (.iload 4, 2) := by decide +kernel
theorem dX0_averagePriceOfAlike_71 : decode cX0_averagePriceOfAlike 71 = .ok (.ifCond .ne 7, 3) := by decide +kernel
theorem dX0_averagePriceOfAlike_74 : decode cX0_averagePriceOfAlike 74 = .ok (.iconst 0, 1) := by decide +kernel
theorem dX0_averagePriceOfAlike_75 : decode cX0_averagePriceOfAlike 75 = .ok (.goto 7, 3) := by decide +kernel
theorem dX0_averagePriceOfAlike_78 : decode cX0_averagePriceOfAlike 78 = .ok (.iload_n 3, 1) := by decide +kernel
theorem dX0_averagePriceOfAlike_79 : decode cX0_averagePriceOfAlike 79 = .ok (.iload 4, 2) := by decide +kernel
theorem dX0_averagePriceOfAlike_81 : decode cX0_averagePriceOfAlike 81 = .ok (.idiv, 1) := by decide +kernel
theorem dX0_averagePriceOfAlike_82 : decode cX0_averagePriceOfAlike 82 = .ok (.ireturn, 1) := by decide +kernel
theorem dX0_passForLoan_0 : decode cX0_passForLoan 0 = .ok (.iload_n 2, 1) := by decide +kernel
theorem dX0_passForLoan_1 : decode cX0_passForLoan 1 = .ok (.aload_n 0, 1) := by decide +kernel
theorem dX0_passForLoan_2 : decode cX0_passForLoan 2 = .ok (.getfield 31, 3) := by decide +kernel
theorem dX0_passForLoan_5 : decode cX0_passForLoan 5 = .ok (.iload_n 1, 1) := by decide +kernel
theorem dX0_passForLoan_6 : decode cX0_passForLoan 6 = .ok (.iaload, 1) := by decide +kernel
theorem dX0_passForLoan_7 : decode cX0_passForLoan 7 = .ok (.invokestatic 187, 3) := by decide +kernel
theorem dX0_passForLoan_10 : decode cX0_passForLoan 10 = .ok (.istore_n 3, 1) := by decide +kernel
theorem dX0_passForLoan_11 : decode cX0_passForLoan 11 = .ok (.aload_n 0, 1) := by decide +kernel
theorem dX0_passForLoan_12 : decode cX0_passForLoan 12 = .ok (.getfield 34, 3) := by decide +kernel
theorem dX0_passForLoan_15 : decode cX0_passForLoan 15 = .ok (.iload_n 1, 1) := by decide +kernel
theorem dX0_passForLoan_16 : decode cX0_passForLoan 16 = .ok (.iaload, 1) := by decide +kernel
theorem dX0_passForLoan_17 : decode cX0_passForLoan 17 = .ok (.istore 4, 2) := by decide +kernel
theorem dX0_passForLoan_19 : decode cX0_passForLoan 19 = .ok (.aload_n 0, 1) := by decide +kernel
theorem dX0_passForLoan_20 : decode cX0_passForLoan 20 = .ok (.getfield 40, 3) := by decide +kernel
theorem dX0_passForLoan_23 : decode cX0_passForLoan 23 = .ok (.iload 4, 2) := by decide +kernel
theorem dX0_passForLoan_25 : decode cX0_passForLoan 25 = .ok (.iaload, 1) := by decide +kernel
theorem dX0_passForLoan_26 : decode cX0_passForLoan 26 = .ok (.bipush 50, 2) := by decide +kernel
theorem dX0_passForLoan_28 : decode cX0_passForLoan 28 = .ok (.isub, 1) := by decide +kernel
theorem dX0_passForLoan_29 : decode cX0_passForLoan 29 = .ok (.invokestatic 190, 3) := by decide +kernel
theorem dX0_passForLoan_32 : decode cX0_passForLoan 32 = .ok (.bipush 10, 2) := by decide +kernel
theorem dX0_passForLoan_34 : decode cX0_passForLoan 34 = .ok (.if_icmp .le 13, 3) := by decide +kernel
theorem dX0_passForLoan_37 : decode cX0_passForLoan 37 = .ok (.aload_n 0, 1) := by decide +kernel
theorem dX0_passForLoan_38 : decode cX0_passForLoan 38 = .ok (.getfield 25, 3) := by decide +kernel
theorem dX0_passForLoan_41 : decode cX0_passForLoan 41 = .ok (.iload_n 1, 1) := by decide +kernel
theorem dX0_passForLoan_42 : decode cX0_passForLoan 42 = .ok (.dup2, 1) := by decide +kernel
theorem dX0_passForLoan_43 : decode cX0_passForLoan 43 = .ok (.iaload, 1) := by decide +kernel
theorem dX0_passForLoan_44 : decode cX0_passForLoan 44 = .ok (.iload_n 3, 1) := by decide +kernel
theorem dX0_passForLoan_45 : decode cX0_passForLoan 45 = .ok (.iadd, 1) := by decide +kernel
theorem dX0_passForLoan_46 : decode cX0_passForLoan 46 = .ok (.iastore, 1) := by decide +kernel
theorem dX0_passForLoan_47 : decode cX0_passForLoan 47 = .ok (.aload_n 0, 1) := by decide +kernel
theorem dX0_passForLoan_48 : decode cX0_passForLoan 48 = .ok (.getfield 43, 3) := by decide +kernel
theorem dX0_passForLoan_51 : decode cX0_passForLoan 51 = .ok (.iload 4, 2) := by decide +kernel
theorem dX0_passForLoan_53 : decode cX0_passForLoan 53 = .ok (.dup2, 1) := by decide +kernel
theorem dX0_passForLoan_54 : decode cX0_passForLoan 54 = .ok (.iaload, 1) := by decide +kernel
theorem dX0_passForLoan_55 : decode cX0_passForLoan 55 = .ok (.iload_n 3, 1) := by decide +kernel
theorem dX0_passForLoan_56 : decode cX0_passForLoan 56 = .ok (.aload_n 0, 1) := by decide +kernel
theorem dX0_passForLoan_57 : decode cX0_passForLoan 57 = .ok (.getfield 37, 3) := by decide +kernel
theorem dX0_passForLoan_60 : decode cX0_passForLoan 60 = .ok (.iload_n 1, 1) := by decide +kernel
theorem dX0_passForLoan_61 : decode cX0_passForLoan 61 = .ok (.iaload, 1) := by decide +kernel
theorem dX0_passForLoan_62 : decode cX0_passForLoan 62 = .ok (.imul, 1) := by decide +kernel
theorem dX0_passForLoan_63 : decode cX0_passForLoan 63 = .ok (.iadd, 1) := by decide +kernel
theorem dX0_passForLoan_64 : decode cX0_passForLoan 64 = .ok (.iastore, 1) := by decide +kernel
theorem dX0_passForLoan_65 : decode cX0_passForLoan 65 = .ok (.aload_n 0, 1) := by decide +kernel
theorem dX0_passForLoan_66 : decode cX0_passForLoan 66 = .ok (.getfield 31, 3) := by decide +kernel
theorem dX0_passForLoan_69 : decode cX0_passForLoan 69 = .ok (.iload_n 1, 1) := by decide +kernel
theorem dX0_passForLoan_70 : decode cX0_passForLoan 70 = .ok (.dup2, 1) := by decide +kernel
theorem dX0_passForLoan_71 : decode cX0_passForLoan 71 = .ok (.iaload, 1) := by decide +kernel
theorem dX0_passForLoan_72 : decode cX0_passForLoan 72 = .ok (.iload_n 3, 1) := by decide +kernel
theorem dX0_passForLoan_73 : decode cX0_passForLoan 73 = .ok (.isub, 1) := by decide +kernel
theorem dX0_passForLoan_74 : decode cX0_passForLoan 74 = .ok (.iastore, 1) := by decide +kernel
theorem dX0_passForLoan_75 : decode cX0_passForLoan 75 = .ok (.return_, 1) := by decide +kernel
theorem dJ9_abs_0f7a4_0 : decode cJ9_abs_0f7a4 0 = .ok (.iload_n 0, 1) := by decide +kernel
theorem dJ9_abs_0f7a4_1 : decode cJ9_abs_0f7a4 1 = .ok (.ifCond .ge 8, 3) := by decide +kernel
theorem dJ9_abs_0f7a4_4 : decode cJ9_abs_0f7a4 4 = .ok (.iload_n 0, 1) := by decide +kernel
theorem dJ9_abs_0f7a4_5 : decode cJ9_abs_0f7a4 5 = .ok (.ineg, 1) := by decide +kernel
theorem dJ9_abs_0f7a4_6 : decode cJ9_abs_0f7a4 6 = .ok (.goto 4, 3) := by decide +kernel
theorem dJ9_abs_0f7a4_9 : decode cJ9_abs_0f7a4 9 = .ok (.iload_n 0, 1) := by decide +kernel
theorem dJ9_abs_0f7a4_10 : decode cJ9_abs_0f7a4 10 = .ok (.ireturn, 1) := by decide +kernel
theorem dJ9_max_7cf53_0 : decode cJ9_max_7cf53 0 = .ok (.iload_n 0, 1) := by decide +kernel
theorem dJ9_max_7cf53_1 : decode cJ9_max_7cf53 1 = .ok (.iload_n 1, 1) := by decide +kernel
theorem dJ9_max_7cf53_2 : decode cJ9_max_7cf53 2 = .ok (.if_icmp .lt 7, 3) := by decide +kernel
theorem dJ9_max_7cf53_5 : decode cJ9_max_7cf53 5 = .ok (.iload_n 0, 1) := by decide +kernel
theorem dJ9_max_7cf53_6 : decode cJ9_max_7cf53 6 = .ok (.goto 4, 3) := by decide +kernel
theorem dJ9_max_7cf53_9 : decode cJ9_max_7cf53 9 = .ok (.iload_n 1, 1) := by decide +kernel
theorem dJ9_max_7cf53_10 : decode cJ9_max_7cf53 10 = .ok (.ireturn, 1) := by decide +kernel
theorem dJ9_min_7cf53_0 : decode cJ9_min_7cf53 0 = .ok (.iload_n 0, 1) := by decide +kernel
theorem dJ9_min_7cf53_1 : decode cJ9_min_7cf53 1 = .ok (.iload_n 1, 1) := by decide +kernel
theorem dJ9_min_7cf53_2 : decode cJ9_min_7cf53 2 = .ok (.if_icmp .gt 7, 3) := by decide +kernel
theorem dJ9_min_7cf53_5 : decode cJ9_min_7cf53 5 = .ok (.iload_n 0, 1) := by decide +kernel
theorem dJ9_min_7cf53_6 : decode cJ9_min_7cf53 6 = .ok (.goto 4, 3) := by decide +kernel
theorem dJ9_min_7cf53_9 : decode cJ9_min_7cf53 9 = .ok (.iload_n 1, 1) := by decide +kernel
theorem dJ9_min_7cf53_10 : decode cJ9_min_7cf53 10 = .ok (.ireturn, 1) := by decide +kernel
end
section
theorem dX1_init_0 : decode cX1_init 0 = .ok (.aload_n 0, 1) := by decide +kernel
theorem dX1_init_1 : decode cX1_init 1 = .ok (.invokespecial 1, 3) := by decide +kernel
theorem dX1_init_4 : decode cX1_init 4 = .ok (.aload_n 0, 1) := by decide +kernel
theorem dX1_init_5 : decode cX1_init 5 = .ok (.bipush 18, 2) := by decide +kernel
theorem dX1_init_7 : decode cX1_init 7 = .ok (.newarray .int, 2) := by decide +kernel
theorem dX1_init_9 : decode cX1_init 9 = .ok (.putfield 7, 3) := by decide +kernel
theorem dX1_init_12 : decode cX1_init 12 = .ok (.aload_n 0, 1) := by decide +kernel
theorem dX1_init_13 : decode cX1_init 13 = .ok (.bipush 12, 2) := by decide +kernel
theorem dX1_init_15 : decode cX1_init 15 = .ok (.newarray .int, 2) := by decide +kernel
theorem dX1_init_17 : decode cX1_init 17 = .ok (.putfield 13, 3) := by decide +kernel
theorem dX1_init_20 : decode cX1_init 20 = .ok (.aload_n 0, 1) := by decide +kernel
theorem dX1_init_21 : decode cX1_init 21 = .ok (.bipush 12, 2) := by decide +kernel
theorem dX1_init_23 : decode cX1_init 23 = .ok (.newarray .int, 2) := by decide +kernel
theorem dX1_init_25 : decode cX1_init 25 = .ok (.putfield 16, 3) := by decide +kernel
theorem dX1_init_28 : decode cX1_init 28 = .ok (.aload_n 0, 1) := by decide +kernel
theorem dX1_init_29 : decode cX1_init 29 = .ok (.bipush 12, 2) := by decide +kernel
theorem dX1_init_31 : decode cX1_init 31 = .ok (.newarray .int, 2) := by decide +kernel
theorem dX1_init_33 : decode cX1_init 33 = .ok (.putfield 19, 3) := by decide +kernel
theorem dX1_init_36 : decode cX1_init 36 = .ok (.aload_n 0, 1) := by decide +kernel
theorem dX1_init_37 : decode cX1_init 37 = .ok (.bipush 120, 2) := by decide +kernel
theorem dX1_init_39 : decode cX1_init 39 = .ok (.newarray .int, 2) := by decide +kernel
theorem dX1_init_41 : decode cX1_init 41 = .ok (.putfield 22, 3) := by decide +kernel
theorem dX1_init_44 : decode cX1_init 44 = .ok (.aload_n 0, 1) := by decide +kernel
theorem dX1_init_45 : decode cX1_init 45 = .ok (.bipush 8, 2) := by decide +kernel
theorem dX1_init_47 : decode cX1_init 47 = .ok (.newarray .int, 2) := by decide +kernel
theorem dX1_init_49 : decode cX1_init 49 = .ok (.putfield 25, 3) := by decide +kernel
theorem dX1_init_52 : decode cX1_init 52 = .ok (.aload_n 0, 1) := by decide +kernel
theorem dX1_init_53 : decode cX1_init 53 = .ok (.sipush 1152, 3) := by decide +kernel
theorem dX1_init_56 : decode cX1_init 56 = .ok (.newarray .int, 2) := by decide +kernel
theorem dX1_init_58 : decode cX1_init 58 = .ok (.putfield 28, 3) := by decide +kernel
theorem dX1_init_61 : decode cX1_init 61 = .ok (.aload_n 0, 1) := by decide +kernel
theorem dX1_init_62 : decode cX1_init 62 = .ok (.bipush 8, 2) := by decide +kernel
theorem dX1_init_64 : decode cX1_init 64 = .ok (.newarray .int, 2) := by decide +kernel
theorem dX1_init_66 : decode cX1_init 66 = .ok (.putfield 31, 3) := by decide +kernel
theorem dX1_init_69 : decode cX1_init 69 = .ok (.aload_n 0, 1) := by decide +kernel
theorem dX1_init_70 : decode cX1_init 70 = .ok (.bipush 8, 2) := by decide +kernel
theorem dX1_init_72 : decode cX1_init 72 = .ok (.newarray .int, 2) := by decide +kernel
theorem dX1_init_74 : decode cX1_init 74 = .ok (.putfield 34, 3) := by decide +kernel
theorem dX1_init_77 : decode cX1_init 77 = .ok (.aload_n 0, 1) := by decide +kernel
theorem dX1_init_78 : decode cX1_init 78 = .ok (.bipush 8, 2) := by decide +kernel
theorem dX1_init_80 : decode cX1_init 80 = .ok (.newarray .int, 2) := by decide +kernel
theorem dX1_init_82 : decode cX1_init 82 = .ok (.putfield 37, 3) := by decide +kernel
theorem dX1_init_85 : decode cX1_init 85 = .ok (.aload_n 0, 1) := by decide +kernel
theorem dX1_init_86 : decode cX1_init 86 = .ok (.bipush 8, 2) := by decide +kernel
theorem dX1_init_88 : decode cX1_init 88 = .ok (.newarray .int, 2) := by decide +kernel
theorem dX1_init_90 : decode cX1_init 90 = .ok (.putfield 40, 3) := by decide +kernel
theorem dX1_init_93 : decode cX1_init 93 = .ok (.aload_n 0, 1) := by decide +kernel
theorem dX1_init_94 : decode cX1_init 94 = .ok (.bipush 8, 2) := by decide +kernel
theorem dX1_init_96 : decode cX1_init 96 = .ok (.newarray .int, 2) := by decide +kernel
theorem dX1_init_98 : decode cX1_init 98 = .ok (.putfield 43, 3) := by decide +kernel
theorem dX1_init_101 : decode cX1_init 101 = .ok (.aload_n 0, 1) := by decide +kernel
theorem dX1_init_102 : decode cX1_init 102 = .ok (.iconst 4, 1) := by decide +kernel
theorem dX1_init_103 : decode cX1_init 103 = .ok (.newarray .int, 2) := by decide +kernel
theorem dX1_init_105 : decode cX1_init 105 = .ok (.putfield 46, 3) := by decide +kernel
theorem dX1_init_108 : decode cX1_init 108 = .ok (.aload_n 0, 1) := by decide +kernel
theorem dX1_init_109 : decode cX1_init 109 = .ok (.iconst 4, 1) := by decide +kernel
theorem dX1_init_110 : decode cX1_init 110 = .ok (.newarray .int, 2) := by decide +kernel
theorem dX1_init_112 : decode cX1_init 112 = .ok (.putfield 49, 3) := by decide +kernel
theorem dX1_init_115 : decode cX1_init 115 = .ok (.aload_n 0, 1) := by decide +kernel
theorem dX1_init_116 : decode cX1_init 116 = .ok (.bipush 12, 2) := by decide +kernel
theorem dX1_init_118 : decode cX1_init 118 = .ok (.newarray .int, 2) := by decide +kernel
theorem dX1_init_120 : decode cX1_init 120 = .ok (.putfield 52, 3) := by decide +kernel
theorem dX1_init_123 : decode cX1_init 123 = .ok (.aload_n 0, 1) := by decide +kernel
theorem dX1_init_124 : decode cX1_init 124 = .ok (.bipush 6, 2) := by decide +kernel
theorem dX1_init_126 : decode cX1_init 126 = .ok (.newarray .int, 2) := by decide +kernel
theorem dX1_init_128 : decode cX1_init 128 = .ok (.putfield 55, 3) := by decide +kernel
theorem dX1_init_131 : decode cX1_init 131 = .ok (.iconst 0, 1) := by decide +kernel
theorem dX1_init_132 : decode cX1_init 132 = .ok (.istore_n 1, 1) := by decide +kernel
theorem dX1_init_133 : decode cX1_init 133 = .ok (.iload_n 1, 1) := by decide +kernel
theorem dX1_init_134 : decode cX1_init 134 = .ok (.iconst 4, 1) := by decide +kernel
theorem dX1_init_135 : decode cX1_init 135 = .ok (.if_icmp .ge 17, 3) := by decide +kernel
theorem dX1_init_138 : decode cX1_init 138 = .ok (.aload_n 0, 1) := by decide +kernel
theorem dX1_init_139 : decode cX1_init 139 = .ok (.getfield 46, 3) := by decide +kernel
theorem dX1_init_142 : decode cX1_init 142 = .ok (.iload_n 1, 1) := by decide +kernel
theorem dX1_init_143 : decode cX1_init 143 = .ok (.bipush 50, 2) := by decide +kernel
theorem dX1_init_145 : decode cX1_init 145 = .ok (.iastore, 1) := by decide +kernel
theorem dX1_init_146 : decode cX1_init 146 = .ok (.iinc 1 1, 3) := by decide +kernel
theorem dX1_init_149 : decode cX1_init 149 = .ok (.goto (-16), 3) := by decide +kernel
theorem dX1_init_152 : decode cX1_init 152 = .ok (.iconst 0, 1) := by decide +kernel
theorem dX1_init_153 : decode cX1_init 153 = .ok (.istore_n 1, 1) := by decide +kernel
theorem dX1_init_154 : decode cX1_init 154 = .ok (.iload_n 1, 1) := by decide +kernel
theorem dX1_init_155 : decode cX1_init 155 = .ok (.bipush 8, 2) := by decide +kernel
theorem dX1_init_157 : decode cX1_init 157 = .ok (.if_icmp .ge 16, 3) := by decide +kernel
theorem dX1_init_160 : decode cX1_init 160 = .ok (.aload_n 0, 1) := by decide +kernel
theorem dX1_init_161 : decode cX1_init 161 = .ok (.getfield 37, 3) := by decide +kernel
theorem dX1_init_164 : decode cX1_init 164 = .ok (.iload_n 1, 1) := by decide +kernel
theorem dX1_init_165 : decode cX1_init 165 = .ok (.iconst (-1), 1) := by decide +kernel
theorem dX1_init_166 : decode cX1_init 166 = .ok (.iastore, 1) := by decide +kernel
theorem dX1_init_167 : decode cX1_init 167 = .ok (.iinc 1 1, 3) := by decide +kernel
theorem dX1_init_170 : decode cX1_init 170 = .ok (.goto (-16), 3) := by decide +kernel
theorem dX1_init_173 : decode cX1_init 173 = .ok (.return_, 1) := by decide +kernel
theorem dX1_thrown_0 : decode cX1_thrown 0 = .ok (.aload_n 0, 1) := by decide +kernel
theorem dX1_thrown_1 : decode cX1_thrown 1 = .ok (.getfield 58, 3) := by decide +kernel
theorem dX1_thrown_4 : decode cX1_thrown 4 = .ok (.ireturn, 1) := by decide +kernel
theorem dX1_in_0 : decode cX1_in 0 = .ok (.iload_n 0, 1) := by decide +kernel
theorem dX1_in_1 : decode cX1_in 1 = .ok (.iload_n 1, 1) := by decide +kernel
theorem dX1_in_2 : decode cX1_in 2 = .ok (.if_icmp .lt 12, 3) := by decide +kernel
theorem dX1_in_5 : decode cX1_in 5 = .ok (.iload_n 0, 1) := by decide +kernel
theorem dX1_in_6 : decode cX1_in 6 = .ok (.iload_n 2, 1) := by decide +kernel
theorem dX1_in_7 : decode cX1_in 7 = .ok (.if_icmp .gt 7, 3) := by decide +kernel
theorem dX1_in_10 : decode cX1_in 10 = .ok (.iconst 1, 1) := by decide +kernel
theorem dX1_in_11 : decode cX1_in 11 = .ok (.goto 4, 3) := by decide +kernel
theorem dX1_in_14 : decode cX1_in 14 = .ok (.iconst 0, 1) := by decide +kernel
theorem dX1_in_15 : decode cX1_in 15 = .ok (.ireturn, 1) := by decide +kernel
theorem dX1_areShades_0 : decode cX1_areShades 0 = .ok (.iload_n 0, 1) := by decide +kernel
theorem dX1_areShades_1 : decode cX1_areShades 1 = .ok (.iconst 0, 1) := by decide +kernel
theorem dX1_areShades_2 : decode cX1_areShades 2 = .ok (.sipush 255, 3) := by decide +kernel
theorem dX1_areShades_5 : decode cX1_areShades 5 = .ok (.invokestatic 62, 3) := by decide +kernel
theorem dX1_areShades_8 : decode cX1_areShades 8 = .ok (.ifCond .eq 29, 3) := by decide +kernel
theorem dX1_areShades_11 : decode cX1_areShades 11 = .ok (.iload_n 1, 1) := by decide +kernel
theorem dX1_areShades_12 : decode cX1_areShades 12 = .ok (.iconst 0, 1) := by decide +kernel
theorem dX1_areShades_13 : decode cX1_areShades 13 = .ok (.sipush 255, 3) := by decide +kernel
theorem dX1_areShades_16 : decode cX1_areShades 16 = .ok (.invokestatic 62, 3) := by decide +kernel
theorem dX1_areShades_19 : decode cX1_areShades 19 = .ok (.ifCond .eq 18, 3) := by decide +kernel
theorem dX1_areShades_22 : decode cX1_areShades 22 = .ok (.iload_n 2, 1) := by decide +kernel
theorem dX1_areShades_23 : decode cX1_areShades 23 = .ok (.iconst 0, 1) := by decide +kernel
theorem dX1_areShades_24 : decode cX1_areShades 24 = .ok (.sipush 255, 3) := by decide +kernel
theorem dX1_areShades_27 : decode cX1_areShades 27 = .ok (.invokestatic 62, 3) := by decide +kernel
theorem dX1_areShades_30 : decode cX1_areShades 30 = .ok (.ifCond .eq 7, 3) := by decide +kernel
theorem dX1_areShades_33 : decode cX1_areShades 33 = .ok (.iconst 1, 1) := by decide +kernel
theorem dX1_areShades_34 : decode cX1_areShades 34 = .ok (.goto 4, 3) := by decide +kernel
theorem dX1_areShades_37 : decode cX1_areShades 37 = .ok (.iconst 0, 1) := by decide +kernel
theorem dX1_areShades_38 : decode cX1_areShades 38 = .ok (.ireturn, 1) := by decide +kernel
theorem dX1_isTube_0 : decode cX1_isTube 0 = .ok (.iload_n 1, 1) := by decide +kernel
theorem dX1_isTube_1 : decode cX1_isTube 1 = .ok (.iconst 0, 1) := by decide +kernel
theorem dX1_isTube_2 : decode cX1_isTube 2 = .ok (.aload_n 0, 1) := by decide +kernel
theorem dX1_isTube_3 : decode cX1_isTube 3 = .ok (.getfield 66, 3) := by decide +kernel
theorem dX1_isTube_6 : decode cX1_isTube 6 = .ok (.iconst 1, 1) := by decide +kernel
theorem dX1_isTube_7 : decode cX1_isTube 7 = .ok (.isub, 1) := by decide +kernel
theorem dX1_isTube_8 : decode cX1_isTube 8 = .ok (.invokestatic 62, 3) := by decide +kernel
theorem dX1_isTube_11 : decode cX1_isTube 11 = .ok (.ireturn, 1) := by decide +kernel
theorem dX1_isPot_0 : decode cX1_isPot 0 = .ok (.iload_n 1, 1) := by decide +kernel
theorem dX1_isPot_1 : decode cX1_isPot 1 = .ok (.iconst 0, 1) := by decide +kernel
theorem dX1_isPot_2 : decode cX1_isPot 2 = .ok (.aload_n 0, 1) := by decide +kernel
theorem dX1_isPot_3 : decode cX1_isPot 3 = .ok (.getfield 69, 3) := by decide +kernel
theorem dX1_isPot_6 : decode cX1_isPot 6 = .ok (.iconst 1, 1) := by decide +kernel
theorem dX1_isPot_7 : decode cX1_isPot 7 = .ok (.isub, 1) := by decide +kernel
theorem dX1_isPot_8 : decode cX1_isPot 8 = .ok (.invokestatic 62, 3) := by decide +kernel
theorem dX1_isPot_11 : decode cX1_isPot 11 = .ok (.ireturn, 1) := by decide +kernel
theorem dX1_isPicture_0 : decode cX1_isPicture 0 = .ok (.iload_n 1, 1) := by decide +kernel
theorem dX1_isPicture_1 : decode cX1_isPicture 1 = .ok (.iconst 0, 1) := by decide +kernel
theorem dX1_isPicture_2 : decode cX1_isPicture 2 = .ok (.aload_n 0, 1) := by decide +kernel
theorem dX1_isPicture_3 : decode cX1_isPicture 3 = .ok (.getfield 72, 3) := by decide +kernel
theorem dX1_isPicture_6 : decode cX1_isPicture 6 = .ok (.iconst 1, 1) := by decide +kernel
theorem dX1_isPicture_7 : decode cX1_isPicture 7 = .ok (.isub, 1) := by decide +kernel
theorem dX1_isPicture_8 : decode cX1_isPicture 8 = .ok (.invokestatic 62, 3) := by decide +kernel
theorem dX1_isPicture_11 : decode cX1_isPicture 11 = .ok (.ireturn, 1) := by decide +kernel
theorem dX1_isHouse_0 : decode cX1_isHouse 0 = .ok (.iload_n 0, 1) := by decide +kernel
theorem dX1_isHouse_1 : decode cX1_isHouse 1 = .ok (.iconst 0, 1) := by decide +kernel
theorem dX1_isHouse_2 : decode cX1_isHouse 2 = .ok (.iconst 3, 1) := by decide +kernel
theorem dX1_isHouse_3 : decode cX1_isHouse 3 = .ok (.invokestatic 62, 3) := by decide +kernel
theorem dX1_isHouse_6 : decode cX1_isHouse 6 = .ok (.ireturn, 1) := by decide +kernel
theorem dX1_pigment_0 : decode cX1_pigment 0 = .ok (.aload_n 0, 1) := by decide +kernel
theorem dX1_pigment_1 : decode cX1_pigment 1 = .ok (.iload_n 1, 1) := by decide +kernel
theorem dX1_pigment_2 : decode cX1_pigment 2 = .ok (.iload_n 2, 1) := by decide +kernel
theorem dX1_pigment_3 : decode cX1_pigment 3 = .ok (.iload_n 3, 1) := by decide +kernel
theorem dX1_pigment_4 : decode cX1_pigment 4 = .ok (.invokestatic 75, 3) := by decide +kernel
theorem dX1_pigment_7 : decode cX1_pigment 7 = .ok (.ifCond .ne 7, 3) := by decide +kernel
theorem dX1_pigment_10 : decode cX1_pigment 10 = .ok (.iconst 1, 1) := by decide +kernel
theorem dX1_pigment_11 : decode cX1_pigment 11 = .ok (.goto 17, 3) := by decide +kernel
theorem dX1_pigment_14 : decode cX1_pigment 14 = .ok (.aload_n 0, 1) := by decide +kernel
theorem dX1_pigment_15 : decode cX1_pigment 15 = .ok (.getfield 78, 3) := by decide +kernel
theorem dX1_pigment_18 : decode cX1_pigment 18 = .ok (.bipush 6, 2) := by decide +kernel
theorem dX1_pigment_20 : decode cX1_pigment 20 = .ok (.if_icmp .ne 7, 3) := by decide +kernel
theorem dX1_pigment_23 : decode cX1_pigment 23 = .ok (.iconst 2, 1) := by decide +kernel
theorem dX1_pigment_24 : decode cX1_pigment 24 = .ok (.goto 4, 3) := by decide +kernel
theorem dX1_pigment_27 : decode cX1_pigment 27 = .ok (.iconst 0, 1) := by decide +kernel
theorem dX1_pigment_28 : decode cX1_pigment 28 = .ok (.putfield 58, 3) := by decide +kernel
theorem dX1_pigment_31 : decode cX1_pigment 31 = .ok (.aload_n 0, 1) := by decide +kernel
theorem dX1_pigment_32 : decode cX1_pigment 32 = .ok (.getfield 58, 3) := by decide +kernel
theorem dX1_pigment_35 : decode cX1_pigment 35 = .ok (.ifCond .le 5, 3) := by decide +kernel
theorem dX1_pigment_38 : decode cX1_pigment 38 = .ok (.iconst 0, 1) := by decide +kernel
theorem dX1_pigment_39 : decode cX1_pigment 39 = .ok (.ireturn, 1) := by decide +kernel
theorem dX1_pigment_40 : decode cX1_pigment 40 = .ok (.aload_n 0, 1) := by decide +kernel
theorem dX1_pigment_41 : decode cX1_pigment 41 = .ok (.getfield 7, 3) := by decide +kernel
theorem dX1_pigment_44 : decode cX1_pigment 44 = .ok (.iconst 3, 1) := by decide +kernel
theorem dX1_pigment_45 : decode cX1_pigment 45 = .ok (.aload_n 0, 1) := by decide +kernel
theorem dX1_pigment_46 : decode cX1_pigment 46 = .ok (.getfield 78, 3) := by decide +kernel
theorem dX1_pigment_49 : decode cX1_pigment 49 = .ok (.imul, 1) := by decide +kernel
theorem dX1_pigment_50 : decode cX1_pigment 50 = .ok (.iload_n 1, 1) := by decide +kernel
theorem dX1_pigment_51 : decode cX1_pigment 51 = .ok (.iastore, 1) := by decide +kernel
theorem dX1_pigment_52 : decode cX1_pigment 52 = .ok (.aload_n 0, 1) := by decide +kernel
theorem dX1_pigment_53 : decode cX1_pigment 53 = .ok (.getfield 7, 3) := by decide +kernel
theorem dX1_pigment_56 : decode cX1_pigment 56 = .ok (.iconst 3, 1) := by decide +kernel
theorem dX1_pigment_57 : decode cX1_pigment 57 = .ok (.aload_n 0, 1) := by decide +kernel
theorem dX1_pigment_58 : decode cX1_pigment 58 = .ok (.getfield 78, 3) := by decide +kernel
theorem dX1_pigment_61 : decode cX1_pigment 61 = .ok (.imul, 1) := by decide +kernel
theorem dX1_pigment_62 : decode cX1_pigment 62 = .ok (.iconst 1, 1) := by decide +kernel
theorem dX1_pigment_63 : decode cX1_pigment 63 = .ok (.iadd, 1) := by decide +kernel
theorem dX1_pigment_64 : decode cX1_pigment 64 = .ok (.iload_n 2, 1) := by decide +kernel
theorem dX1_pigment_65 : decode cX1_pigment 65 = .ok (.iastore, 1) := by decide +kernel
theorem dX1_pigment_66 : decode cX1_pigment 66 = .ok (.aload_n 0, 1) := by decide +kernel
theorem dX1_pigment_67 : decode cX1_pigment 67 = .ok (.getfield 7, 3) := by decide +kernel
theorem dX1_pigment_70 : decode cX1_pigment 70 = .ok (.iconst 3, 1) := by decide +kernel
theorem dX1_pigment_71 : decode cX1_pigment 71 = .ok (.aload_n 0, 1) := by decide +kernel
theorem dX1_pigment_72 : decode cX1_pigment 72 = .ok (.getfield 78, 3) := by decide +kernel
theorem dX1_pigment_75 : decode cX1_pigment 75 = .ok (.imul, 1) := by decide +kernel
theorem dX1_pigment_76 : decode cX1_pigment 76 = .ok (.iconst 2, 1) := by decide +kernel
theorem dX1_pigment_77 : decode cX1_pigment 77 = .ok (.iadd, 1) := by decide +kernel
theorem dX1_pigment_78 : decode cX1_pigment 78 = .ok (.iload_n 3, 1) := by decide +kernel
theorem dX1_pigment_79 : decode cX1_pigment 79 = .ok (.iastore, 1) := by decide +kernel
theorem dX1_pigment_80 : decode cX1_pigment 80 = .ok (.aload_n 0, 1) := by decide +kernel
theorem dX1_pigment_81 : decode cX1_pigment 81 = .ok (.dup, 1) := by decide +kernel
theorem dX1_pigment_82 : decode cX1_pigment 82 = .ok (.getfield 78, 3) := by decide +kernel
theorem dX1_pigment_85 : decode cX1_pigment 85 = .ok (.iconst 1, 1) := by decide +kernel
theorem dX1_pigment_86 : decode cX1_pigment 86 = .ok (.iadd, 1) := by decide +kernel
theorem dX1_pigment_87 : decode cX1_pigment 87 = .ok (.putfield 78, 3) := by decide +kernel
theorem dX1_pigment_90 : decode cX1_pigment 90 = .ok (.aload_n 0, 1) := by decide +kernel
theorem dX1_pigment_91 : decode cX1_pigment 91 = .ok (.getfield 78, 3) := by decide +kernel
theorem dX1_pigment_94 : decode cX1_pigment 94 = .ok (.iconst 1, 1) := by decide +kernel
theorem dX1_pigment_95 : decode cX1_pigment 95 = .ok (.isub, 1) := by decide +kernel
theorem dX1_pigment_96 : decode cX1_pigment 96 = .ok (.ireturn, 1) := by decide +kernel
theorem dX1_tube_0 : decode cX1_tube 0 = .ok (.aload_n 0, 1) := by decide +kernel
theorem dX1_tube_1 : decode cX1_tube 1 = .ok (.iload_n 1, 1) := by decide +kernel
theorem dX1_tube_2 : decode cX1_tube 2 = .ok (.iconst 0, 1) := by decide +kernel
theorem dX1_tube_3 : decode cX1_tube 3 = .ok (.aload_n 0, 1) := by decide +kernel
theorem dX1_tube_4 : decode cX1_tube 4 = .ok (.getfield 78, 3) := by decide +kernel
theorem dX1_tube_7 : decode cX1_tube 7 = .ok (.iconst 1, 1) := by decide +kernel
theorem dX1_tube_8 : decode cX1_tube 8 = .ok (.isub, 1) := by decide +kernel
theorem dX1_tube_9 : decode cX1_tube 9 = .ok (.invokestatic 62, 3) := by decide +kernel
theorem dX1_tube_12 : decode cX1_tube 12 = .ok (.ifCond .ne 7, 3) := by decide +kernel
theorem dX1_tube_15 : decode cX1_tube 15 = .ok (.iconst 1, 1) := by decide +kernel
theorem dX1_tube_16 : decode cX1_tube 16 = .ok (.goto 32, 3) := by decide +kernel
theorem dX1_tube_19 : decode cX1_tube 19 = .ok (.iload_n 2, 1) := by decide +kernel
theorem dX1_tube_20 : decode cX1_tube 20 = .ok (.iconst 1, 1) := by decide +kernel
theorem dX1_tube_21 : decode cX1_tube 21 = .ok (.sipush 1000, 3) := by decide +kernel
theorem dX1_tube_24 : decode cX1_tube 24 = .ok (.invokestatic 62, 3) := by decide +kernel
theorem dX1_tube_27 : decode cX1_tube 27 = .ok (.ifCond .ne 7, 3) := by decide +kernel
theorem dX1_tube_30 : decode cX1_tube 30 = .ok (.iconst 2, 1) := by decide +kernel
theorem dX1_tube_31 : decode cX1_tube 31 = .ok (.goto 17, 3) := by decide +kernel
theorem dX1_tube_34 : decode cX1_tube 34 = .ok (.aload_n 0, 1) := by decide +kernel
theorem dX1_tube_35 : decode cX1_tube 35 = .ok (.getfield 66, 3) := by decide +kernel
theorem dX1_tube_38 : decode cX1_tube 38 = .ok (.bipush 12, 2) := by decide +kernel
theorem dX1_tube_40 : decode cX1_tube 40 = .ok (.if_icmp .ne 7, 3) := by decide +kernel
theorem dX1_tube_43 : decode cX1_tube 43 = .ok (.iconst 3, 1) := by decide +kernel
theorem dX1_tube_44 : decode cX1_tube 44 = .ok (.goto 4, 3) := by decide +kernel
theorem dX1_tube_47 : decode cX1_tube 47 = .ok (.iconst 0, 1) := by decide +kernel
theorem dX1_tube_48 : decode cX1_tube 48 = .ok (.putfield 58, 3) := by decide +kernel
theorem dX1_tube_51 : decode cX1_tube 51 = .ok (.aload_n 0, 1) := by decide +kernel
theorem dX1_tube_52 : decode cX1_tube 52 = .ok (.getfield 58, 3) := by decide +kernel
theorem dX1_tube_55 : decode cX1_tube 55 = .ok (.ifCond .le 5, 3) := by decide +kernel
theorem dX1_tube_58 : decode cX1_tube 58 = .ok (.iconst 0, 1) := by decide +kernel
theorem dX1_tube_59 : decode cX1_tube 59 = .ok (.ireturn, 1) := by decide +kernel
theorem dX1_tube_60 : decode cX1_tube 60 = .ok (.aload_n 0, 1) := by decide +kernel
theorem dX1_tube_61 : decode cX1_tube 61 = .ok (.getfield 13, 3) := by decide +kernel
theorem dX1_tube_64 : decode cX1_tube 64 = .ok (.aload_n 0, 1) := by decide +kernel
theorem dX1_tube_65 : decode cX1_tube 65 = .ok (.getfield 66, 3) := by decide +kernel
theorem dX1_tube_68 : decode cX1_tube 68 = .ok (.iload_n 1, 1) := by decide +kernel
theorem dX1_tube_69 : decode cX1_tube 69 = .ok (.iastore, 1) := by decide +kernel
theorem dX1_tube_70 : decode cX1_tube 70 = .ok (.aload_n 0, 1) := by decide +kernel
theorem dX1_tube_71 : decode cX1_tube 71 = .ok (.getfield 16, 3) := by decide +kernel
theorem dX1_tube_74 : decode cX1_tube 74 = .ok (.aload_n 0, 1) := by decide +kernel
theorem dX1_tube_75 : decode cX1_tube 75 = .ok (.getfield 66, 3) := by decide +kernel
theorem dX1_tube_78 : decode cX1_tube 78 = .ok (.iload_n 2, 1) := by decide +kernel
theorem dX1_tube_79 : decode cX1_tube 79 = .ok (.iastore, 1) := by decide +kernel
theorem dX1_tube_80 : decode cX1_tube 80 = .ok (.aload_n 0, 1) := by decide +kernel
theorem dX1_tube_81 : decode cX1_tube 81 = .ok (.dup, 1) := by decide +kernel
theorem dX1_tube_82 : decode cX1_tube 82 = .ok (.getfield 66, 3) := by decide +kernel
theorem dX1_tube_85 : decode cX1_tube 85 = .ok (.iconst 1, 1) := by decide +kernel
theorem dX1_tube_86 : decode cX1_tube 86 = .ok (.iadd, 1) := by decide +kernel
theorem dX1_tube_87 : decode cX1_tube 87 = .ok (.putfield 66, 3) := by decide +kernel
theorem dX1_tube_90 : decode cX1_tube 90 = .ok (.aload_n 0, 1) := by decide +kernel
theorem dX1_tube_91 : decode cX1_tube 91 = .ok (.getfield 66, 3) := by decide +kernel
theorem dX1_tube_94 : decode cX1_tube 94 = .ok (.iconst 1, 1) := by decide +kernel
theorem dX1_tube_95 : decode cX1_tube 95 = .ok (.isub, 1) := by decide +kernel
theorem dX1_tube_96 : decode cX1_tube 96 = .ok (.ireturn, 1) := by decide +kernel
theorem dX1_pot_0 : decode cX1_pot 0 = .ok (.aload_n 0, 1) := by decide +kernel
theorem dX1_pot_1 : decode cX1_pot 1 = .ok (.aload_n 0, 1) := by decide +kernel
theorem dX1_pot_2 : decode cX1_pot 2 = .ok (.getfield 69, 3) := by decide +kernel
theorem dX1_pot_5 : decode cX1_pot 5 = .ok (.bipush 10, 2) := by decide +kernel
theorem dX1_pot_7 : decode cX1_pot 7 = .ok (.if_icmp .ne 7, 3) := by decide +kernel
theorem dX1_pot_10 : decode cX1_pot 10 = .ok (.iconst 1, 1) := by decide +kernel
theorem dX1_pot_11 : decode cX1_pot 11 = .ok (.goto 4, 3) := by decide +kernel
theorem dX1_pot_14 : decode cX1_pot 14 = .ok (.iconst 0, 1) := by decide +kernel
theorem dX1_pot_15 : decode cX1_pot 15 = .ok (.putfield 58, 3) := by decide +kernel
theorem dX1_pot_18 : decode cX1_pot 18 = .ok (.aload_n 0, 1) := by decide +kernel
theorem dX1_pot_19 : decode cX1_pot 19 = .ok (.getfield 58, 3) := by decide +kernel
theorem dX1_pot_22 : decode cX1_pot 22 = .ok (.ifCond .le 5, 3) := by decide +kernel
theorem dX1_pot_25 : decode cX1_pot 25 = .ok (.iconst 0, 1) := by decide +kernel
theorem dX1_pot_26 : decode cX1_pot 26 = .ok (.ireturn, 1) := by decide +kernel
theorem dX1_pot_27 : decode cX1_pot 27 = .ok (.aload_n 0, 1) := by decide +kernel
theorem dX1_pot_28 : decode cX1_pot 28 = .ok (.dup, 1) := by decide +kernel
theorem dX1_pot_29 : decode cX1_pot 29 = .ok (.getfield 69, 3) := by decide +kernel
theorem dX1_pot_32 : decode cX1_pot 32 = .ok (.iconst 1, 1) := by decide +kernel
theorem dX1_pot_33 : decode cX1_pot 33 = .ok (.iadd, 1) := by decide +kernel
theorem dX1_pot_34 : decode cX1_pot 34 = .ok (.putfield 69, 3) := by decide +kernel
theorem dX1_pot_37 : decode cX1_pot 37 = .ok (.aload_n 0, 1) := by decide +kernel
theorem dX1_pot_38 : decode cX1_pot 38 = .ok (.getfield 69, 3) := by decide +kernel
theorem dX1_pot_41 : decode cX1_pot 41 = .ok (.iconst 1, 1) := by decide +kernel
theorem dX1_pot_42 : decode cX1_pot 42 = .ok (.isub, 1) := by decide +kernel
theorem dX1_pot_43 : decode cX1_pot 43 = .ok (.ireturn, 1) := by decide +kernel
theorem dX1_gramsOf_0 : decode cX1_gramsOf 0 = .ok (.iconst 0, 1) := by decide +kernel
theorem dX1_gramsOf_1 : decode cX1_gramsOf 1 = .ok (.istore_n 2, 1) := by decide +kernel
theorem dX1_gramsOf_2 : decode cX1_gramsOf 2 = .ok (.iconst 0, 1) := by decide +kernel
theorem dX1_gramsOf_3 : decode cX1_gramsOf 3 = .ok (.istore_n 3, 1) := by decide +kernel
theorem dX1_gramsOf_4 : decode cX1_gramsOf 4 = .ok (.iload_n 3, 1) := by decide +kernel
theorem dX1_gramsOf_5 : decode cX1_gramsOf 5 = .ok (.bipush 12, 2) := by decide +kernel
theorem dX1_gramsOf_7 : decode cX1_gramsOf 7 = .ok (.if_icmp .ge 23, 3) := by decide +kernel
theorem dX1_gramsOf_10 : decode cX1_gramsOf 10 = .ok (.iload_n 2, 1) := by decide +kernel
theorem dX1_gramsOf_11 : decode cX1_gramsOf 11 = .ok (.aload_n 0, 1) := by decide +kernel
theorem dX1_gramsOf_12 : decode cX1_gramsOf 12 = .ok (.getfield 22, 3) := by decide +kernel
theorem dX1_gramsOf_15 : decode cX1_gramsOf 15 = .ok (.bipush 12, 2) := by decide +kernel
theorem dX1_gramsOf_17 : decode cX1_gramsOf 17 = .ok (.iload_n 1, 1) := by decide +kernel
theorem dX1_gramsOf_18 : decode cX1_gramsOf 18 = .ok (.imul, 1) := by decide +kernel
theorem dX1_gramsOf_19 : decode cX1_gramsOf 19 = .ok (.iload_n 3, 1) := by decide +kernel
theorem dX1_gramsOf_20 : decode cX1_gramsOf 20 = .ok (.iadd, 1) := by decide +kernel
theorem dX1_gramsOf_21 : decode cX1_gramsOf 21 = .ok (.iaload, 1) := by decide +kernel
theorem dX1_gramsOf_22 : decode cX1_gramsOf 22 = .ok (.iadd, 1) := by decide +kernel
theorem dX1_gramsOf_23 : decode cX1_gramsOf 23 = .ok (.istore_n 2, 1) := by decide +kernel
theorem dX1_gramsOf_24 : decode cX1_gramsOf 24 = .ok (.iinc 3 1, 3) := by decide +kernel
theorem dX1_gramsOf_27 : decode cX1_gramsOf 27 = .ok (.goto (-23), 3) := by decide +kernel
theorem dX1_gramsOf_30 : decode cX1_gramsOf 30 = .ok (.iload_n 2, 1) := by decide +kernel
theorem dX1_gramsOf_31 : decode cX1_gramsOf 31 = .ok (.ireturn, 1) := by decide +kernel
theorem dX1_squeeze_0 : decode cX1_squeeze 0 = .ok (.aload_n 0, 1) := by decide +kernel
theorem dX1_squeeze_1 : decode cX1_squeeze 1 = .ok (.aload_n 0, 1) := by decide +kernel
theorem dX1_squeeze_2 : decode cX1_squeeze 2 = .ok (.iload_n 1, 1) := by decide +kernel
theorem dX1_squeeze_3 : decode cX1_squeeze 3 = .ok (.invokevirtual 81, 3) := by decide +kernel
theorem dX1_squeeze_6 : decode cX1_squeeze 6 = .ok (.ifCond .eq 11, 3) := by decide +kernel
theorem dX1_squeeze_9 : decode cX1_squeeze 9 = .ok (.aload_n 0, 1) := by decide +kernel
theorem dX1_squeeze_10 : decode cX1_squeeze 10 = .ok (.iload_n 2, 1) := by decide +kernel
theorem dX1_squeeze_11 : decode cX1_squeeze 11 = .ok (.invokevirtual 85, 3) := by decide +kernel
theorem dX1_squeeze_14 : decode cX1_squeeze 14 = .ok (.ifCond .ne 7, 3) := by decide +kernel
theorem dX1_squeeze_17 : decode cX1_squeeze 17 = .ok (.iconst 1, 1) := by decide +kernel
theorem dX1_squeeze_18 : decode cX1_squeeze 18 = .ok (.goto 33, 3) := by decide +kernel
theorem dX1_squeeze_21 : decode cX1_squeeze 21 = .ok (.iload_n 3, 1) := by decide +kernel
theorem dX1_squeeze_22 : decode cX1_squeeze 22 = .ok (.iconst 1, 1) := by decide +kernel
theorem dX1_squeeze_23 : decode cX1_squeeze 23 = .ok (.sipush 1000, 3) := by decide +kernel
theorem dX1_squeeze_26 : decode cX1_squeeze 26 = .ok (.invokestatic 62, 3) := by decide +kernel
theorem dX1_squeeze_29 : decode cX1_squeeze 29 = .ok (.ifCond .ne 7, 3) := by decide +kernel
theorem dX1_squeeze_32 : decode cX1_squeeze 32 = .ok (.iconst 2, 1) := by decide +kernel
theorem dX1_squeeze_33 : decode cX1_squeeze 33 = .ok (.goto 18, 3) := by decide +kernel
theorem dX1_squeeze_36 : decode cX1_squeeze 36 = .ok (.aload_n 0, 1) := by decide +kernel
theorem dX1_squeeze_37 : decode cX1_squeeze 37 = .ok (.getfield 16, 3) := by decide +kernel
theorem dX1_squeeze_40 : decode cX1_squeeze 40 = .ok (.iload_n 2, 1) := by decide +kernel
theorem dX1_squeeze_41 : decode cX1_squeeze 41 = .ok (.iaload, 1) := by decide +kernel
theorem dX1_squeeze_42 : decode cX1_squeeze 42 = .ok (.iload_n 3, 1) := by decide +kernel
theorem dX1_squeeze_43 : decode cX1_squeeze 43 = .ok (.if_icmp .ge 7, 3) := by decide +kernel
theorem dX1_squeeze_46 : decode cX1_squeeze 46 = .ok (.iconst 3, 1) := by decide +kernel
theorem dX1_squeeze_47 : decode cX1_squeeze 47 = .ok (.goto 4, 3) := by decide +kernel
theorem dX1_squeeze_50 : decode cX1_squeeze 50 = .ok (.iconst 0, 1) := by decide +kernel
theorem dX1_squeeze_51 : decode cX1_squeeze 51 = .ok (.putfield 58, 3) := by decide +kernel
theorem dX1_squeeze_54 : decode cX1_squeeze 54 = .ok (.aload_n 0, 1) := by decide +kernel
theorem dX1_squeeze_55 : decode cX1_squeeze 55 = .ok (.getfield 58, 3) := by decide +kernel
theorem dX1_squeeze_58 : decode cX1_squeeze 58 = .ok (.ifCond .le 5, 3) := by decide +kernel
theorem dX1_squeeze_61 : decode cX1_squeeze 61 = .ok (.iconst 0, 1) := by decide +kernel
theorem dX1_squeeze_62 : decode cX1_squeeze 62 = .ok (.ireturn, 1) := by decide +kernel
theorem dX1_squeeze_63 : decode cX1_squeeze 63 = .ok (.aload_n 0, 1) := by decide +kernel
theorem dX1_squeeze_64 : decode cX1_squeeze 64 = .ok (.getfield 16, 3) := by decide +kernel
theorem dX1_squeeze_67 : decode cX1_squeeze 67 = .ok (.iload_n 2, 1) := by decide +kernel
theorem dX1_squeeze_68 : decode cX1_squeeze 68 = .ok (.dup2, 1) := by decide +kernel
theorem dX1_squeeze_69 : decode cX1_squeeze 69 = .ok (.iaload, 1) := by decide +kernel
theorem dX1_squeeze_70 : decode cX1_squeeze 70 = .ok (.iload_n 3, 1) := by decide +kernel
theorem dX1_squeeze_71 : decode cX1_squeeze 71 = .ok (.isub, 1) := by decide +kernel
theorem dX1_squeeze_72 : decode cX1_squeeze 72 = .ok (.iastore, 1) := by decide +kernel
theorem dX1_squeeze_73 : decode cX1_squeeze 73 = .ok (.aload_n 0, 1) := by decide +kernel
theorem dX1_squeeze_74 : decode cX1_squeeze 74 = .ok (.getfield 22, 3) := by decide +kernel
theorem dX1_squeeze_77 : decode cX1_squeeze 77 = .ok (.bipush 12, 2) := by decide +kernel
theorem dX1_squeeze_79 : decode cX1_squeeze 79 = .ok (.iload_n 1, 1) := by decide +kernel
theorem dX1_squeeze_80 : decode cX1_squeeze 80 = .ok (.imul, 1) := by decide +kernel
theorem dX1_squeeze_81 : decode cX1_squeeze 81 = .ok (.iload_n 2, 1) := by decide +kernel
theorem dX1_squeeze_82 : decode cX1_squeeze 82 = .ok (.iadd, 1) := by decide +kernel
theorem dX1_squeeze_83 : decode cX1_squeeze 83 = .ok (.dup2, 1) := by decide +kernel
theorem dX1_squeeze_84 : decode cX1_squeeze 84 = .ok (.iaload, 1) := by decide +kernel
theorem dX1_squeeze_85 : decode cX1_squeeze 85 = .ok (.iload_n 3, 1) := by decide +kernel
theorem dX1_squeeze_86 : decode cX1_squeeze 86 = .ok (.iadd, 1) := by decide +kernel
theorem dX1_squeeze_87 : decode cX1_squeeze 87 = .ok (.iastore, 1) := by decide +kernel
theorem dX1_squeeze_88 : decode cX1_squeeze 88 = .ok (.aload_n 0, 1) := by decide +kernel
theorem dX1_squeeze_89 : decode cX1_squeeze 89 = .ok (.getfield 16, 3) := by decide +kernel
theorem dX1_squeeze_92 : decode cX1_squeeze 92 = .ok (.iload_n 2, 1) := by decide +kernel
theorem dX1_squeeze_93 : decode cX1_squeeze 93 = .ok (.iaload, 1) := by decide +kernel
theorem dX1_squeeze_94 : decode cX1_squeeze 94 = .ok (.ireturn, 1) := by decide +kernel
theorem dX1_flows_0 : decode cX1_flows 0 = .ok (.aload_n 0, 1) := by decide +kernel
theorem dX1_flows_1 : decode cX1_flows 1 = .ok (.iload_n 1, 1) := by decide +kernel
theorem dX1_flows_2 : decode cX1_flows 2 = .ok (.invokevirtual 88, 3) := by decide +kernel
theorem dX1_flows_5 : decode cX1_flows 5 = .ok (.istore_n 3, 1) := by decide +kernel
theorem dX1_flows_6 : decode cX1_flows 6 = .ok (.iconst 0, 1) := by decide +kernel
theorem dX1_flows_7 : decode cX1_flows 7 = .ok (.istore 4, 2) := by decide +kernel
theorem dX1_flows_9 : decode cX1_flows 9 = .ok (.iconst 0, 1) := by decide +kernel
theorem dX1_flows_10 : decode cX1_flows 10 = .ok (.istore 5, 2) := by decide +kernel
theorem dX1_flows_12 : decode cX1_flows 12 = .ok (.iload 5, 2) := by decide +kernel
theorem dX1_flows_14 : decode cX1_flows 14 = .ok (.bipush 12, 2) := by decide +kernel
theorem dX1_flows_16 : decode cX1_flows 16 = .ok (.if_icmp .ge 53, 3) := by decide +kernel
theorem dX1_flows_19 : decode cX1_flows 19 = .ok (.aload_n 0, 1) := by decide +kernel
theorem dX1_flows_20 : decode cX1_flows 20 = .ok (.getfield 22, 3) := by decide +kernel
theorem dX1_flows_23 : decode cX1_flows 23 = .ok (.bipush 12, 2) := by decide +kernel
theorem dX1_flows_25 : decode cX1_flows 25 = .ok (.iload_n 1, 1) := by decide +kernel
theorem dX1_flows_26 : decode cX1_flows 26 = .ok (.imul, 1) := by decide +kernel
theorem dX1_flows_27 : decode cX1_flows 27 = .ok (.iload 5, 2) := by decide +kernel
theorem dX1_flows_29 : decode cX1_flows 29 = .ok (.iadd, 1) := by decide +kernel
theorem dX1_flows_30 : decode cX1_flows 30 = .ok (.iaload, 1) := by decide +kernel
theorem dX1_flows_31 : decode cX1_flows 31 = .ok (.istore 6, 2) := by decide +kernel
theorem dX1_flows_33 : decode cX1_flows 33 = .ok (.aload_n 0, 1) := by decide +kernel
theorem dX1_flows_34 : decode cX1_flows 34 = .ok (.getfield 52, 3) := by decide +kernel
theorem dX1_flows_37 : decode cX1_flows 37 = .ok (.iload 5, 2) := by decide +kernel
theorem dX1_flows_39 : decode cX1_flows 39 = .ok (.iload 4, 2) := by decide +kernel
theorem dX1_flows_41 : decode cX1_flows 41 = .ok (.iload 6, 2) := by decide +kernel
theorem dX1_flows_43 : decode cX1_flows 43 = .ok (.iadd, 1) := by decide +kernel
theorem dX1_flows_44 : decode cX1_flows 44 = .ok (.iload_n 2, 1) := by decide +kernel
theorem dX1_flows_45 : decode cX1_flows 45 = .ok (.imul, 1) := by decide +kernel
theorem dX1_flows_46 : decode cX1_flows 46 = .ok (.iload_n 3, 1) := by decide +kernel
theorem dX1_flows_47 : decode cX1_flows 47 = .ok (.idiv, 1) := by decide +kernel
theorem dX1_flows_48 : decode cX1_flows 48 = .ok (.iload 4, 2) := by decide +kernel
theorem dX1_flows_50 : decode cX1_flows 50 = .ok (.iload_n 2, 1) := by decide +kernel
theorem dX1_flows_51 : decode cX1_flows 51 = .ok (.imul, 1) := by decide +kernel
theorem dX1_flows_52 : decode cX1_flows 52 = .ok (.iload_n 3, 1) := by decide +kernel
theorem dX1_flows_53 : decode cX1_flows 53 = .ok (.idiv, 1) := by decide +kernel
theorem dX1_flows_54 : decode cX1_flows 54 = .ok (.isub, 1) := by decide +kernel
theorem dX1_flows_55 : decode cX1_flows 55 = .ok (.iastore, 1) := by decide +kernel
theorem dX1_flows_56 : decode cX1_flows 56 = .ok (.iload 4, 2) := by decide +kernel
theorem dX1_flows_58 : decode cX1_flows 58 = .ok (.iload 6, 2) := by decide +kernel
theorem dX1_flows_60 : decode cX1_flows 60 = .ok (.iadd, 1) := by decide +kernel
theorem dX1_flows_61 : decode cX1_flows 61 = .ok (.istore 4, 2) := by decide +kernel
theorem dX1_flows_63 : decode cX1_flows 63 = .ok (.iinc 5 1, 3) := by decide +kernel
theorem dX1_flows_66 : decode cX1_flows 66 = .ok (.goto (-54), 3) := by decide +kernel
theorem dX1_flows_69 : decode cX1_flows 69 = .ok (.iconst 0, 1) := by decide +kernel
theorem dX1_flows_70 : decode cX1_flows 70 = .ok (.istore 5, 2) := by decide +kernel
theorem dX1_flows_72 : decode cX1_flows 72 = .ok (.iload 5, 2) := by decide +kernel
theorem dX1_flows_74 : decode cX1_flows 74 = .ok (.bipush 12, 2) := by decide +kernel
theorem dX1_flows_76 : decode cX1_flows 76 = .ok (.if_icmp .ge 31, 3) := by decide +kernel
theorem dX1_flows_79 : decode cX1_flows 79 = .ok (.aload_n 0, 1) := by decide +kernel
theorem dX1_flows_80 : decode cX1_flows 80 = .ok (.getfield 22, 3) := by decide +kernel
theorem dX1_flows_83 : decode cX1_flows 83 = .ok (.bipush 12, 2) := by decide +kernel
theorem dX1_flows_85 : decode cX1_flows 85 = .ok (.iload_n 1, 1) := by decide +kernel
theorem dX1_flows_86 : decode cX1_flows 86 = .ok (.imul, 1) := by decide +kernel
theorem dX1_flows_87 : decode cX1_flows 87 = .ok (.iload 5, 2) := by decide +kernel
theorem dX1_flows_89 : decode cX1_flows 89 = .ok (.iadd, 1) := by decide +kernel
theorem dX1_flows_90 : decode cX1_flows 90 = .ok (.dup2, 1) := by decide +kernel
theorem dX1_flows_91 : decode cX1_flows 91 = .ok (.iaload, 1) := by decide +kernel
theorem dX1_flows_92 : decode cX1_flows 92 = .ok (.aload_n 0, 1) := by decide +kernel
theorem dX1_flows_93 : decode cX1_flows 93 = .ok (.getfield 52, 3) := by decide +kernel
theorem dX1_flows_96 : decode cX1_flows 96 = .ok (.iload 5, 2) := by decide +kernel
theorem dX1_flows_98 : decode cX1_flows 98 = .ok (.iaload, 1) := by decide +kernel
theorem dX1_flows_99 : decode cX1_flows 99 = .ok (.isub, 1) := by decide +kernel
theorem dX1_flows_100 : decode cX1_flows 100 = .ok (.iastore, 1) := by decide +kernel
theorem dX1_flows_101 : decode cX1_flows 101 = .ok (.iinc 5 1, 3) := by decide +kernel
theorem dX1_flows_104 : decode cX1_flows 104 = .ok (.goto (-32), 3) := by decide +kernel
theorem dX1_flows_107 : decode cX1_flows 107 = .ok (.return_, 1) := by decide +kernel
theorem dX1_pour_0 : decode cX1_pour 0 = .ok (.aload_n 0, 1) := by decide +kernel
theorem dX1_pour_1 : decode cX1_pour 1 = .ok (.aload_n 0, 1) := by decide +kernel
theorem dX1_pour_2 : decode cX1_pour 2 = .ok (.iload_n 1, 1) := by decide +kernel
theorem dX1_pour_3 : decode cX1_pour 3 = .ok (.invokevirtual 81, 3) := by decide +kernel
theorem dX1_pour_6 : decode cX1_pour 6 = .ok (.ifCond .eq 11, 3) := by decide +kernel
theorem dX1_pour_9 : decode cX1_pour 9 = .ok (.aload_n 0, 1) := by decide +kernel
theorem dX1_pour_10 : decode cX1_pour 10 = .ok (.iload_n 2, 1) := by decide +kernel
theorem dX1_pour_11 : decode cX1_pour 11 = .ok (.invokevirtual 81, 3) := by decide +kernel
theorem dX1_pour_14 : decode cX1_pour 14 = .ok (.ifCond .ne 7, 3) := by decide +kernel
theorem dX1_pour_17 : decode cX1_pour 17 = .ok (.iconst 1, 1) := by decide +kernel
theorem dX1_pour_18 : decode cX1_pour 18 = .ok (.goto 37, 3) := by decide +kernel
theorem dX1_pour_21 : decode cX1_pour 21 = .ok (.iload_n 1, 1) := by decide +kernel
theorem dX1_pour_22 : decode cX1_pour 22 = .ok (.iload_n 2, 1) := by decide +kernel
theorem dX1_pour_23 : decode cX1_pour 23 = .ok (.if_icmp .eq 14, 3) := by decide +kernel
theorem dX1_pour_26 : decode cX1_pour 26 = .ok (.iload_n 3, 1) := by decide +kernel
theorem dX1_pour_27 : decode cX1_pour 27 = .ok (.iconst 1, 1) := by decide +kernel
theorem dX1_pour_28 : decode cX1_pour 28 = .ok (.sipush 12000, 3) := by decide +kernel
theorem dX1_pour_31 : decode cX1_pour 31 = .ok (.invokestatic 62, 3) := by decide +kernel
theorem dX1_pour_34 : decode cX1_pour 34 = .ok (.ifCond .ne 7, 3) := by decide +kernel
theorem dX1_pour_37 : decode cX1_pour 37 = .ok (.iconst 2, 1) := by decide +kernel
theorem dX1_pour_38 : decode cX1_pour 38 = .ok (.goto 17, 3) := by decide +kernel
theorem dX1_pour_41 : decode cX1_pour 41 = .ok (.aload_n 0, 1) := by decide +kernel
theorem dX1_pour_42 : decode cX1_pour 42 = .ok (.iload_n 1, 1) := by decide +kernel
theorem dX1_pour_43 : decode cX1_pour 43 = .ok (.invokevirtual 88, 3) := by decide +kernel
theorem dX1_pour_46 : decode cX1_pour 46 = .ok (.iload_n 3, 1) := by decide +kernel
theorem dX1_pour_47 : decode cX1_pour 47 = .ok (.if_icmp .ge 7, 3) := by decide +kernel
theorem dX1_pour_50 : decode cX1_pour 50 = .ok (.iconst 3, 1) := by decide +kernel
theorem dX1_pour_51 : decode cX1_pour 51 = .ok (.goto 4, 3) := by decide +kernel
theorem dX1_pour_54 : decode cX1_pour 54 = .ok (.iconst 0, 1) := by decide +kernel
theorem dX1_pour_55 : decode cX1_pour 55 = .ok (.putfield 58, 3) := by decide +kernel
theorem dX1_pour_58 : decode cX1_pour 58 = .ok (.aload_n 0, 1) := by decide +kernel
theorem dX1_pour_59 : decode cX1_pour 59 = .ok (.getfield 58, 3) := by decide +kernel
theorem dX1_pour_62 : decode cX1_pour 62 = .ok (.ifCond .le 5, 3) := by decide +kernel
theorem dX1_pour_65 : decode cX1_pour 65 = .ok (.iconst 0, 1) := by decide +kernel
theorem dX1_pour_66 : decode cX1_pour 66 = .ok (.ireturn, 1) := by decide +kernel
theorem dX1_pour_67 : decode cX1_pour 67 = .ok (.aload_n 0, 1) := by decide +kernel
theorem dX1_pour_68 : decode cX1_pour 68 = .ok (.iload_n 1, 1) := by decide +kernel
theorem dX1_pour_69 : decode cX1_pour 69 = .ok (.iload_n 3, 1) := by decide +kernel
theorem dX1_pour_70 : decode cX1_pour 70 = .ok (.invokevirtual 92, 3) := by decide +kernel
theorem dX1_pour_73 : decode cX1_pour 73 = .ok (.iconst 0, 1) := by decide +kernel
theorem dX1_pour_74 : decode cX1_pour 74 = .ok (.istore 4, 2) := by decide +kernel
theorem dX1_pour_76 : decode cX1_pour 76 = .ok (.iload 4, 2) := by decide +kernel
theorem dX1_pour_78 : decode cX1_pour 78 = .ok (.bipush 12, 2) := by decide +kernel
theorem dX1_pour_80 : decode cX1_pour 80 = .ok (.if_icmp .ge 31, 3) := by decide +kernel
theorem dX1_pour_83 : decode cX1_pour 83 = .ok (.aload_n 0, 1) := by decide +kernel
theorem dX1_pour_84 : decode cX1_pour 84 = .ok (.getfield 22, 3) := by decide +kernel
theorem dX1_pour_87 : decode cX1_pour 87 = .ok (.bipush 12, 2) := by decide +kernel
theorem dX1_pour_89 : decode cX1_pour 89 = .ok (.iload_n 2, 1) := by decide +kernel
theorem dX1_pour_90 : decode cX1_pour 90 = .ok (.imul, 1) := by decide +kernel
theorem dX1_pour_91 : decode cX1_pour 91 = .ok (.iload 4, 2) := by decide +kernel
theorem dX1_pour_93 : decode cX1_pour 93 = .ok (.iadd, 1) := by decide +kernel
theorem dX1_pour_94 : decode cX1_pour 94 = .ok (.dup2, 1) := by decide +kernel
theorem dX1_pour_95 : decode cX1_pour 95 = .ok (.iaload, 1) := by decide +kernel
theorem dX1_pour_96 : decode cX1_pour 96 = .ok (.aload_n 0, 1) := by decide +kernel
theorem dX1_pour_97 : decode cX1_pour 97 = .ok (.getfield 52, 3) := by decide +kernel
theorem dX1_pour_100 : decode cX1_pour 100 = .ok (.iload 4, 2) := by decide +kernel
theorem dX1_pour_102 : decode cX1_pour 102 = .ok (.iaload, 1) := by decide +kernel
theorem dX1_pour_103 : decode cX1_pour 103 = .ok (.iadd, 1) := by decide +kernel
theorem dX1_pour_104 : decode cX1_pour 104 = .ok (.iastore, 1) := by decide +kernel
theorem dX1_pour_105 : decode cX1_pour 105 = .ok (.iinc 4 1, 3) := by decide +kernel
theorem dX1_pour_108 : decode cX1_pour 108 = .ok (.goto (-32), 3) := by decide +kernel
theorem dX1_pour_111 : decode cX1_pour 111 = .ok (.aload_n 0, 1) := by decide +kernel
theorem dX1_pour_112 : decode cX1_pour 112 = .ok (.iload_n 2, 1) := by decide +kernel
theorem dX1_pour_113 : decode cX1_pour 113 = .ok (.invokevirtual 88, 3) := by decide +kernel
theorem dX1_pour_116 : decode cX1_pour 116 = .ok (.ireturn, 1) := by decide +kernel
theorem dX1_scrape_0 : decode cX1_scrape 0 = .ok (.aload_n 0, 1) := by decide +kernel
theorem dX1_scrape_1 : decode cX1_scrape 1 = .ok (.aload_n 0, 1) := by decide +kernel
theorem dX1_scrape_2 : decode cX1_scrape 2 = .ok (.iload_n 1, 1) := by decide +kernel
theorem dX1_scrape_3 : decode cX1_scrape 3 = .ok (.invokevirtual 81, 3) := by decide +kernel
theorem dX1_scrape_6 : decode cX1_scrape 6 = .ok (.ifCond .eq 7, 3) := by decide +kernel
theorem dX1_scrape_9 : decode cX1_scrape 9 = .ok (.iconst 0, 1) := by decide +kernel
theorem dX1_scrape_10 : decode cX1_scrape 10 = .ok (.goto 4, 3) := by decide +kernel
theorem dX1_scrape_13 : decode cX1_scrape 13 = .ok (.iconst 1, 1) := by decide +kernel
theorem dX1_scrape_14 : decode cX1_scrape 14 = .ok (.putfield 58, 3) := by decide +kernel
theorem dX1_scrape_17 : decode cX1_scrape 17 = .ok (.aload_n 0, 1) := by decide +kernel
theorem dX1_scrape_18 : decode cX1_scrape 18 = .ok (.getfield 58, 3) := by decide +kernel
theorem dX1_scrape_21 : decode cX1_scrape 21 = .ok (.ifCond .le 5, 3) := by decide +kernel
theorem dX1_scrape_24 : decode cX1_scrape 24 = .ok (.iconst 0, 1) := by decide +kernel
theorem dX1_scrape_25 : decode cX1_scrape 25 = .ok (.ireturn, 1) := by decide +kernel
theorem dX1_scrape_26 : decode cX1_scrape 26 = .ok (.aload_n 0, 1) := by decide +kernel
theorem dX1_scrape_27 : decode cX1_scrape 27 = .ok (.iload_n 1, 1) := by decide +kernel
theorem dX1_scrape_28 : decode cX1_scrape 28 = .ok (.invokevirtual 88, 3) := by decide +kernel
theorem dX1_scrape_31 : decode cX1_scrape 31 = .ok (.istore_n 2, 1) := by decide +kernel
theorem dX1_scrape_32 : decode cX1_scrape 32 = .ok (.iconst 0, 1) := by decide +kernel
theorem dX1_scrape_33 : decode cX1_scrape 33 = .ok (.istore_n 3, 1) := by decide +kernel
theorem dX1_scrape_34 : decode cX1_scrape 34 = .ok (.iload_n 3, 1) := by decide +kernel
theorem dX1_scrape_35 : decode cX1_scrape 35 = .ok (.bipush 12, 2) := by decide +kernel
theorem dX1_scrape_37 : decode cX1_scrape 37 = .ok (.if_icmp .ge 41, 3) := by decide +kernel
theorem dX1_scrape_40 : decode cX1_scrape 40 = .ok (.aload_n 0, 1) := by decide +kernel
theorem dX1_scrape_41 : decode cX1_scrape 41 = .ok (.getfield 19, 3) := by decide +kernel
theorem dX1_scrape_44 : decode cX1_scrape 44 = .ok (.iload_n 3, 1) := by decide +kernel
theorem dX1_scrape_45 : decode cX1_scrape 45 = .ok (.dup2, 1) := by decide +kernel
theorem dX1_scrape_46 : decode cX1_scrape 46 = .ok (.iaload, 1) := by decide +kernel
theorem dX1_scrape_47 : decode cX1_scrape 47 = .ok (.aload_n 0, 1) := by decide +kernel
theorem dX1_scrape_48 : decode cX1_scrape 48 = .ok (.getfield 22, 3) := by decide +kernel
theorem dX1_scrape_51 : decode cX1_scrape 51 = .ok (.bipush 12, 2) := by decide +kernel
theorem dX1_scrape_53 : decode cX1_scrape 53 = .ok (.iload_n 1, 1) := by decide +kernel
theorem dX1_scrape_54 : decode cX1_scrape 54 = .ok (.imul, 1) := by decide +kernel
theorem dX1_scrape_55 : decode cX1_scrape 55 = .ok (.iload_n 3, 1) := by decide +kernel
theorem dX1_scrape_56 : decode cX1_scrape 56 = .ok (.iadd, 1) := by decide +kernel
theorem dX1_scrape_57 : decode cX1_scrape 57 = .ok (.iaload, 1) := by decide +kernel
theorem dX1_scrape_58 : decode cX1_scrape 58 = .ok (.iadd, 1) := by decide +kernel
theorem dX1_scrape_59 : decode cX1_scrape 59 = .ok (.iastore, 1) := by decide +kernel
theorem dX1_scrape_60 : decode cX1_scrape 60 = .ok (.aload_n 0, 1) := by decide +kernel
theorem dX1_scrape_61 : decode cX1_scrape 61 = .ok (.getfield 22, 3) := by decide +kernel
theorem dX1_scrape_64 : decode cX1_scrape 64 = .ok (.bipush 12, 2) := by decide +kernel
theorem dX1_scrape_66 : decode cX1_scrape 66 = .ok (.iload_n 1, 1) := by decide +kernel
theorem dX1_scrape_67 : decode cX1_scrape 67 = .ok (.imul, 1) := by decide +kernel
theorem dX1_scrape_68 : decode cX1_scrape 68 = .ok (.iload_n 3, 1) := by decide +kernel
theorem dX1_scrape_69 : decode cX1_scrape 69 = .ok (.iadd, 1) := by decide +kernel
theorem dX1_scrape_70 : decode cX1_scrape 70 = .ok (.iconst 0, 1) := by decide +kernel
theorem dX1_scrape_71 : decode cX1_scrape 71 = .ok (.iastore, 1) := by decide +kernel
theorem dX1_scrape_72 : decode cX1_scrape 72 = .ok (.iinc 3 1, 3) := by decide +kernel
theorem dX1_scrape_75 : decode cX1_scrape 75 = .ok (.goto (-41), 3) := by decide +kernel
theorem dX1_scrape_78 : decode cX1_scrape 78 = .ok (.iload_n 2, 1) := by decide +kernel
theorem dX1_scrape_79 : decode cX1_scrape 79 = .ok (.ireturn, 1) := by decide +kernel
theorem dX1_picture_0 : decode cX1_picture 0 = .ok (.aload_n 0, 1) := by decide +kernel
theorem dX1_picture_1 : decode cX1_picture 1 = .ok (.aload_n 0, 1) := by decide +kernel
theorem dX1_picture_2 : decode cX1_picture 2 = .ok (.getfield 72, 3) := by decide +kernel
theorem dX1_picture_5 : decode cX1_picture 5 = .ok (.bipush 8, 2) := by decide +kernel
theorem dX1_picture_7 : decode cX1_picture 7 = .ok (.if_icmp .ne 7, 3) := by decide +kernel
theorem dX1_picture_10 : decode cX1_picture 10 = .ok (.iconst 1, 1) := by decide +kernel
theorem dX1_picture_11 : decode cX1_picture 11 = .ok (.goto 4, 3) := by decide +kernel
theorem dX1_picture_14 : decode cX1_picture 14 = .ok (.iconst 0, 1) := by decide +kernel
theorem dX1_picture_15 : decode cX1_picture 15 = .ok (.putfield 58, 3) := by decide +kernel
theorem dX1_picture_18 : decode cX1_picture 18 = .ok (.aload_n 0, 1) := by decide +kernel
theorem dX1_picture_19 : decode cX1_picture 19 = .ok (.getfield 58, 3) := by decide +kernel
theorem dX1_picture_22 : decode cX1_picture 22 = .ok (.ifCond .le 5, 3) := by decide +kernel
theorem dX1_picture_25 : decode cX1_picture 25 = .ok (.iconst 0, 1) := by decide +kernel
theorem dX1_picture_26 : decode cX1_picture 26 = .ok (.ireturn, 1) := by decide +kernel
theorem dX1_picture_27 : decode cX1_picture 27 = .ok (.aload_n 0, 1) := by decide +kernel
theorem dX1_picture_28 : decode cX1_picture 28 = .ok (.dup, 1) := by decide +kernel
theorem dX1_picture_29 : decode cX1_picture 29 = .ok (.getfield 72, 3) := by decide +kernel
theorem dX1_picture_32 : decode cX1_picture 32 = .ok (.iconst 1, 1) := by decide +kernel
theorem dX1_picture_33 : decode cX1_picture 33 = .ok (.iadd, 1) := by decide +kernel
theorem dX1_picture_34 : decode cX1_picture 34 = .ok (.putfield 72, 3) := by decide +kernel
theorem dX1_picture_37 : decode cX1_picture 37 = .ok (.aload_n 0, 1) := by decide +kernel
theorem dX1_picture_38 : decode cX1_picture 38 = .ok (.getfield 72, 3) := by decide +kernel
theorem dX1_picture_41 : decode cX1_picture 41 = .ok (.iconst 1, 1) := by decide +kernel
theorem dX1_picture_42 : decode cX1_picture 42 = .ok (.isub, 1) := by decide +kernel
theorem dX1_picture_43 : decode cX1_picture 43 = .ok (.ireturn, 1) := by decide +kernel
theorem dX1_layerAt_0 : decode cX1_layerAt 0 = .ok (.bipush 12, 2) := by decide +kernel
theorem dX1_layerAt_2 : decode cX1_layerAt 2 = .ok (.bipush 12, 2) := by decide +kernel
theorem dX1_layerAt_4 : decode cX1_layerAt 4 = .ok (.iload_n 0, 1) := by decide +kernel
theorem dX1_layerAt_5 : decode cX1_layerAt 5 = .ok (.imul, 1) := by decide +kernel
theorem dX1_layerAt_6 : decode cX1_layerAt 6 = .ok (.iload_n 1, 1) := by decide +kernel
theorem dX1_layerAt_7 : decode cX1_layerAt 7 = .ok (.iadd, 1) := by decide +kernel
theorem dX1_layerAt_8 : decode cX1_layerAt 8 = .ok (.imul, 1) := by decide +kernel
theorem dX1_layerAt_9 : decode cX1_layerAt 9 = .ok (.ireturn, 1) := by decide +kernel
theorem dX1_paint_0 : decode cX1_paint 0 = .ok (.aload_n 0, 1) := by decide +kernel
theorem dX1_paint_1 : decode cX1_paint 1 = .ok (.aload_n 0, 1) := by decide +kernel
theorem dX1_paint_2 : decode cX1_paint 2 = .ok (.iload_n 1, 1) := by decide +kernel
theorem dX1_paint_3 : decode cX1_paint 3 = .ok (.invokevirtual 96, 3) := by decide +kernel
theorem dX1_paint_6 : decode cX1_paint 6 = .ok (.ifCond .eq 11, 3) := by decide +kernel
theorem dX1_paint_9 : decode cX1_paint 9 = .ok (.aload_n 0, 1) := by decide +kernel
theorem dX1_paint_10 : decode cX1_paint 10 = .ok (.iload_n 2, 1) := by decide +kernel
theorem dX1_paint_11 : decode cX1_paint 11 = .ok (.invokevirtual 81, 3) := by decide +kernel
theorem dX1_paint_14 : decode cX1_paint 14 = .ok (.ifCond .ne 7, 3) := by decide +kernel
theorem dX1_paint_17 : decode cX1_paint 17 = .ok (.iconst 1, 1) := by decide +kernel
theorem dX1_paint_18 : decode cX1_paint 18 = .ok (.goto 53, 3) := by decide +kernel
theorem dX1_paint_21 : decode cX1_paint 21 = .ok (.iload_n 3, 1) := by decide +kernel
theorem dX1_paint_22 : decode cX1_paint 22 = .ok (.iconst 1, 1) := by decide +kernel
theorem dX1_paint_23 : decode cX1_paint 23 = .ok (.sipush 1000, 3) := by decide +kernel
theorem dX1_paint_26 : decode cX1_paint 26 = .ok (.invokestatic 62, 3) := by decide +kernel
theorem dX1_paint_29 : decode cX1_paint 29 = .ok (.ifCond .ne 7, 3) := by decide +kernel
theorem dX1_paint_32 : decode cX1_paint 32 = .ok (.iconst 2, 1) := by decide +kernel
theorem dX1_paint_33 : decode cX1_paint 33 = .ok (.goto 38, 3) := by decide +kernel
theorem dX1_paint_36 : decode cX1_paint 36 = .ok (.aload_n 0, 1) := by decide +kernel
theorem dX1_paint_37 : decode cX1_paint 37 = .ok (.getfield 37, 3) := by decide +kernel
theorem dX1_paint_40 : decode cX1_paint 40 = .ok (.iload_n 1, 1) := by decide +kernel
theorem dX1_paint_41 : decode cX1_paint 41 = .ok (.iaload, 1) := by decide +kernel
theorem dX1_paint_42 : decode cX1_paint 42 = .ok (.iconst (-1), 1) := by decide +kernel
theorem dX1_paint_43 : decode cX1_paint 43 = .ok (.if_icmp .ne 23, 3) := by decide +kernel
theorem dX1_paint_46 : decode cX1_paint 46 = .ok (.aload_n 0, 1) := by decide +kernel
theorem dX1_paint_47 : decode cX1_paint 47 = .ok (.getfield 25, 3) := by decide +kernel
theorem dX1_paint_50 : decode cX1_paint 50 = .ok (.iload_n 1, 1) := by decide +kernel
theorem dX1_paint_51 : decode cX1_paint 51 = .ok (.iaload, 1) := by decide +kernel
theorem dX1_paint_52 : decode cX1_paint 52 = .ok (.bipush 12, 2) := by decide +kernel
theorem dX1_paint_54 : decode cX1_paint 54 = .ok (.if_icmp .eq 12, 3) := by decide +kernel
theorem dX1_paint_57 : decode cX1_paint 57 = .ok (.aload_n 0, 1) := by decide +kernel
theorem dX1_paint_58 : decode cX1_paint 58 = .ok (.iload_n 2, 1) := by decide +kernel
theorem dX1_paint_59 : decode cX1_paint 59 = .ok (.invokevirtual 88, 3) := by decide +kernel
theorem dX1_paint_62 : decode cX1_paint 62 = .ok (.iload_n 3, 1) := by decide +kernel
theorem dX1_paint_63 : decode cX1_paint 63 = .ok (.if_icmp .ge 7, 3) := by decide +kernel
theorem dX1_paint_66 : decode cX1_paint 66 = .ok (.iconst 3, 1) := by decide +kernel
theorem dX1_paint_67 : decode cX1_paint 67 = .ok (.goto 4, 3) := by decide +kernel
theorem dX1_paint_70 : decode cX1_paint 70 = .ok (.iconst 0, 1) := by decide +kernel
theorem dX1_paint_71 : decode cX1_paint 71 = .ok (.putfield 58, 3) := by decide +kernel
theorem dX1_paint_74 : decode cX1_paint 74 = .ok (.aload_n 0, 1) := by decide +kernel
theorem dX1_paint_75 : decode cX1_paint 75 = .ok (.getfield 58, 3) := by decide +kernel
theorem dX1_paint_78 : decode cX1_paint 78 = .ok (.ifCond .le 5, 3) := by decide +kernel
theorem dX1_paint_81 : decode cX1_paint 81 = .ok (.iconst 0, 1) := by decide +kernel
theorem dX1_paint_82 : decode cX1_paint 82 = .ok (.ireturn, 1) := by decide +kernel
theorem dX1_paint_83 : decode cX1_paint 83 = .ok (.aload_n 0, 1) := by decide +kernel
theorem dX1_paint_84 : decode cX1_paint 84 = .ok (.iload_n 2, 1) := by decide +kernel
theorem dX1_paint_85 : decode cX1_paint 85 = .ok (.iload_n 3, 1) := by decide +kernel
theorem dX1_paint_86 : decode cX1_paint 86 = .ok (.invokevirtual 92, 3) := by decide +kernel
theorem dX1_paint_89 : decode cX1_paint 89 = .ok (.iconst 0, 1) := by decide +kernel
theorem dX1_paint_90 : decode cX1_paint 90 = .ok (.istore 4, 2) := by decide +kernel
theorem dX1_paint_92 : decode cX1_paint 92 = .ok (.iload 4, 2) := by decide +kernel
theorem dX1_paint_94 : decode cX1_paint 94 = .ok (.bipush 12, 2) := by decide +kernel
theorem dX1_paint_96 : decode cX1_paint 96 = .ok (.if_icmp .ge 34, 3) := by decide +kernel
theorem dX1_paint_99 : decode cX1_paint 99 = .ok (.aload_n 0, 1) := by decide +kernel
theorem dX1_paint_100 : decode cX1_paint 100 = .ok (.getfield 28, 3) := by decide +kernel
theorem dX1_paint_103 : decode cX1_paint 103 = .ok (.iload_n 1, 1) := by decide +kernel
theorem dX1_paint_104 : decode cX1_paint 104 = .ok (.aload_n 0, 1) := by decide +kernel
theorem dX1_paint_105 : decode cX1_paint 105 = .ok (.getfield 25, 3) := by decide +kernel
theorem dX1_paint_108 : decode cX1_paint 108 = .ok (.iload_n 1, 1) := by decide +kernel
theorem dX1_paint_109 : decode cX1_paint 109 = .ok (.iaload, 1) := by decide +kernel
theorem dX1_paint_110 : decode cX1_paint 110 = .ok (.invokestatic 99, 3) := by decide +kernel
theorem dX1_paint_113 : decode cX1_paint 113 = .ok (.iload 4, 2) := by decide +kernel
theorem dX1_paint_115 : decode cX1_paint 115 = .ok (.iadd, 1) := by decide +kernel
theorem dX1_paint_116 : decode cX1_paint 116 = .ok (.aload_n 0, 1) := by decide +kernel
theorem dX1_paint_117 : decode cX1_paint 117 = .ok (.getfield 52, 3) := by decide +kernel
theorem dX1_paint_120 : decode cX1_paint 120 = .ok (.iload 4, 2) := by decide +kernel
theorem dX1_paint_122 : decode cX1_paint 122 = .ok (.iaload, 1) := by decide +kernel
theorem dX1_paint_123 : decode cX1_paint 123 = .ok (.iastore, 1) := by decide +kernel
theorem dX1_paint_124 : decode cX1_paint 124 = .ok (.iinc 4 1, 3) := by decide +kernel
theorem dX1_paint_127 : decode cX1_paint 127 = .ok (.goto (-35), 3) := by decide +kernel
theorem dX1_paint_130 : decode cX1_paint 130 = .ok (.aload_n 0, 1) := by decide +kernel
theorem dX1_paint_131 : decode cX1_paint 131 = .ok (.getfield 25, 3) := by decide +kernel
theorem dX1_paint_134 : decode cX1_paint 134 = .ok (.iload_n 1, 1) := by decide +kernel
theorem dX1_paint_135 : decode cX1_paint 135 = .ok (.dup2, 1) := by decide +kernel
theorem dX1_paint_136 : decode cX1_paint 136 = .ok (.iaload, 1) := by decide +kernel
theorem dX1_paint_137 : decode cX1_paint 137 = .ok (.iconst 1, 1) := by decide +kernel
theorem dX1_paint_138 : decode cX1_paint 138 = .ok (.iadd, 1) := by decide +kernel
theorem dX1_paint_139 : decode cX1_paint 139 = .ok (.iastore, 1) := by decide +kernel
theorem dX1_paint_140 : decode cX1_paint 140 = .ok (.aload_n 0, 1) := by decide +kernel
theorem dX1_paint_141 : decode cX1_paint 141 = .ok (.getfield 25, 3) := by decide +kernel
theorem dX1_paint_144 : decode cX1_paint 144 = .ok (.iload_n 1, 1) := by decide +kernel
theorem dX1_paint_145 : decode cX1_paint 145 = .ok (.iaload, 1) := by decide +kernel
theorem dX1_paint_146 : decode cX1_paint 146 = .ok (.ireturn, 1) := by decide +kernel
theorem dX1_clean_0 : decode cX1_clean 0 = .ok (.aload_n 0, 1) := by decide +kernel
theorem dX1_clean_1 : decode cX1_clean 1 = .ok (.aload_n 0, 1) := by decide +kernel
theorem dX1_clean_2 : decode cX1_clean 2 = .ok (.iload_n 1, 1) := by decide +kernel
theorem dX1_clean_3 : decode cX1_clean 3 = .ok (.invokevirtual 96, 3) := by decide +kernel
theorem dX1_clean_6 : decode cX1_clean 6 = .ok (.ifCond .ne 7, 3) := by decide +kernel
theorem dX1_clean_9 : decode cX1_clean 9 = .ok (.iconst 1, 1) := by decide +kernel
theorem dX1_clean_10 : decode cX1_clean 10 = .ok (.goto 42, 3) := by decide +kernel
theorem dX1_clean_13 : decode cX1_clean 13 = .ok (.iload_n 2, 1) := by decide +kernel
theorem dX1_clean_14 : decode cX1_clean 14 = .ok (.iconst 1, 1) := by decide +kernel
theorem dX1_clean_15 : decode cX1_clean 15 = .ok (.bipush 12, 2) := by decide +kernel
theorem dX1_clean_17 : decode cX1_clean 17 = .ok (.invokestatic 62, 3) := by decide +kernel
theorem dX1_clean_20 : decode cX1_clean 20 = .ok (.ifCond .ne 7, 3) := by decide +kernel
theorem dX1_clean_23 : decode cX1_clean 23 = .ok (.iconst 2, 1) := by decide +kernel
theorem dX1_clean_24 : decode cX1_clean 24 = .ok (.goto 28, 3) := by decide +kernel
theorem dX1_clean_27 : decode cX1_clean 27 = .ok (.aload_n 0, 1) := by decide +kernel
theorem dX1_clean_28 : decode cX1_clean 28 = .ok (.getfield 37, 3) := by decide +kernel
theorem dX1_clean_31 : decode cX1_clean 31 = .ok (.iload_n 1, 1) := by decide +kernel
theorem dX1_clean_32 : decode cX1_clean 32 = .ok (.iaload, 1) := by decide +kernel
theorem dX1_clean_33 : decode cX1_clean 33 = .ok (.iconst (-1), 1) := by decide +kernel
theorem dX1_clean_34 : decode cX1_clean 34 = .ok (.if_icmp .ne 13, 3) := by decide +kernel
theorem dX1_clean_37 : decode cX1_clean 37 = .ok (.aload_n 0, 1) := by decide +kernel
theorem dX1_clean_38 : decode cX1_clean 38 = .ok (.getfield 25, 3) := by decide +kernel
theorem dX1_clean_41 : decode cX1_clean 41 = .ok (.iload_n 1, 1) := by decide +kernel
theorem dX1_clean_42 : decode cX1_clean 42 = .ok (.iaload, 1) := by decide +kernel
theorem dX1_clean_43 : decode cX1_clean 43 = .ok (.iload_n 2, 1) := by decide +kernel
theorem dX1_clean_44 : decode cX1_clean 44 = .ok (.if_icmp .ge 7, 3) := by decide +kernel
theorem dX1_clean_47 : decode cX1_clean 47 = .ok (.iconst 3, 1) := by decide +kernel
theorem dX1_clean_48 : decode cX1_clean 48 = .ok (.goto 4, 3) := by decide +kernel
theorem dX1_clean_51 : decode cX1_clean 51 = .ok (.iconst 0, 1) := by decide +kernel
theorem dX1_clean_52 : decode cX1_clean 52 = .ok (.putfield 58, 3) := by decide +kernel
theorem dX1_clean_55 : decode cX1_clean 55 = .ok (.aload_n 0, 1) := by decide +kernel
theorem dX1_clean_56 : decode cX1_clean 56 = .ok (.getfield 58, 3) := by decide +kernel
theorem dX1_clean_59 : decode cX1_clean 59 = .ok (.ifCond .le 5, 3) := by decide +kernel
theorem dX1_clean_62 : decode cX1_clean 62 = .ok (.iconst 0, 1) := by decide +kernel
theorem dX1_clean_63 : decode cX1_clean 63 = .ok (.ireturn, 1) := by decide +kernel
theorem dX1_clean_64 : decode cX1_clean 64 = .ok (.iconst 0, 1) := by decide +kernel
theorem dX1_clean_65 : decode cX1_clean 65 = .ok (.istore_n 3, 1) := by decide +kernel
theorem dX1_clean_66 : decode cX1_clean 66 = .ok (.iconst 0, 1) := by decide +kernel
theorem dX1_clean_67 : decode cX1_clean 67 = .ok (.istore 4, 2) := by decide +kernel
theorem dX1_clean_69 : decode cX1_clean 69 = .ok (.iload 4, 2) := by decide +kernel
theorem dX1_clean_71 : decode cX1_clean 71 = .ok (.iload_n 2, 1) := by decide +kernel
theorem dX1_clean_72 : decode cX1_clean 72 = .ok (.if_icmp .ge 91, 3) := by decide +kernel
theorem dX1_clean_75 : decode cX1_clean 75 = .ok (.aload_n 0, 1) := by decide +kernel
theorem dX1_clean_76 : decode cX1_clean 76 = .ok (.getfield 25, 3) := by decide +kernel
theorem dX1_clean_79 : decode cX1_clean 79 = .ok (.iload_n 1, 1) := by decide +kernel
theorem dX1_clean_80 : decode cX1_clean 80 = .ok (.dup2, 1) := by decide +kernel
theorem dX1_clean_81 : decode cX1_clean 81 = .ok (.iaload, 1) := by decide +kernel
theorem dX1_clean_82 : decode cX1_clean 82 = .ok (.iconst 1, 1) := by decide +kernel
theorem dX1_clean_83 : decode cX1_clean 83 = .ok (.isub, 1) := by decide +kernel
theorem dX1_clean_84 : decode cX1_clean 84 = .ok (.iastore, 1) := by decide +kernel
theorem dX1_clean_85 : decode cX1_clean 85 = .ok (.iconst 0, 1) := by decide +kernel
theorem dX1_clean_86 : decode cX1_clean 86 = .ok (.istore 5, 2) := by decide +kernel
theorem dX1_clean_88 : decode cX1_clean 88 = .ok (.iload 5, 2) := by decide +kernel
theorem dX1_clean_90 : decode cX1_clean 90 = .ok (.bipush 12, 2) := by decide +kernel
theorem dX1_clean_92 : decode cX1_clean 92 = .ok (.if_icmp .ge 65, 3) := by decide +kernel
theorem dX1_clean_95 : decode cX1_clean 95 = .ok (.aload_n 0, 1) := by decide +kernel
theorem dX1_clean_96 : decode cX1_clean 96 = .ok (.getfield 28, 3) := by decide +kernel
theorem dX1_clean_99 : decode cX1_clean 99 = .ok (.iload_n 1, 1) := by decide +kernel
theorem dX1_clean_100 : decode cX1_clean 100 = .ok (.aload_n 0, 1) := by decide +kernel
theorem dX1_clean_101 : decode cX1_clean 101 = .ok (.getfield 25, 3) := by decide +kernel
theorem dX1_clean_104 : decode cX1_clean 104 = .ok (.iload_n 1, 1) := by decide +kernel
theorem dX1_clean_105 : decode cX1_clean 105 = .ok (.iaload, 1) := by decide +kernel
theorem dX1_clean_106 : decode cX1_clean 106 = .ok (.invokestatic 99, 3) := by decide +kernel
theorem dX1_clean_109 : decode cX1_clean 109 = .ok (.iload 5, 2) := by decide +kernel
theorem dX1_clean_111 : decode cX1_clean 111 = .ok (.iadd, 1) := by decide +kernel
theorem dX1_clean_112 : decode cX1_clean 112 = .ok (.iaload, 1) := by decide +kernel
theorem dX1_clean_113 : decode cX1_clean 113 = .ok (.istore 6, 2) := by decide +kernel
theorem dX1_clean_115 : decode cX1_clean 115 = .ok (.aload_n 0, 1) := by decide +kernel
theorem dX1_clean_116 : decode cX1_clean 116 = .ok (.getfield 19, 3) := by decide +kernel
theorem dX1_clean_119 : decode cX1_clean 119 = .ok (.iload 5, 2) := by decide +kernel
theorem dX1_clean_121 : decode cX1_clean 121 = .ok (.dup2, 1) := by decide +kernel
theorem dX1_clean_122 : decode cX1_clean 122 = .ok (.iaload, 1) := by decide +kernel
theorem dX1_clean_123 : decode cX1_clean 123 = .ok (.iload 6, 2) := by decide +kernel
theorem dX1_clean_125 : decode cX1_clean 125 = .ok (.iadd, 1) := by decide +kernel
theorem dX1_clean_126 : decode cX1_clean 126 = .ok (.iastore, 1) := by decide +kernel
theorem dX1_clean_127 : decode cX1_clean 127 = .ok (.iload_n 3, 1) := by decide +kernel
theorem dX1_clean_128 : decode cX1_clean 128 = .ok (.iload 6, 2) := by decide +kernel
theorem dX1_clean_130 : decode cX1_clean 130 = .ok (.iadd, 1) := by decide +kernel
theorem dX1_clean_131 : decode cX1_clean 131 = .ok (.istore_n 3, 1) := by decide +kernel
theorem dX1_clean_132 : decode cX1_clean 132 = .ok (.aload_n 0, 1) := by decide +kernel
theorem dX1_clean_133 : decode cX1_clean 133 = .ok (.getfield 28, 3) := by decide +kernel
theorem dX1_clean_136 : decode cX1_clean 136 = .ok (.iload_n 1, 1) := by decide +kernel
theorem dX1_clean_137 : decode cX1_clean 137 = .ok (.aload_n 0, 1) := by decide +kernel
theorem dX1_clean_138 : decode cX1_clean 138 = .ok (.getfield 25, 3) := by decide +kernel
theorem dX1_clean_141 : decode cX1_clean 141 = .ok (.iload_n 1, 1) := by decide +kernel
theorem dX1_clean_142 : decode cX1_clean 142 = .ok (.iaload, 1) := by decide +kernel
theorem dX1_clean_143 : decode cX1_clean 143 = .ok (.invokestatic 99, 3) := by decide +kernel
theorem dX1_clean_146 : decode cX1_clean 146 = .ok (.iload 5, 2) := by decide +kernel
theorem dX1_clean_148 : decode cX1_clean 148 = .ok (.iadd, 1) := by decide +kernel
theorem dX1_clean_149 : decode cX1_clean 149 = .ok (.iconst 0, 1) := by decide +kernel
theorem dX1_clean_150 : decode cX1_clean 150 = .ok (.iastore, 1) := by decide +kernel
theorem dX1_clean_151 : decode cX1_clean 151 = .ok (.iinc 5 1, 3) := by decide +kernel
theorem dX1_clean_154 : decode cX1_clean 154 = .ok (.goto (-66), 3) := by decide +kernel
theorem dX1_clean_157 : decode cX1_clean 157 = .ok (.iinc 4 1, 3) := by decide +kernel
theorem dX1_clean_160 : decode cX1_clean 160 = .ok (.goto (-91), 3) := by decide +kernel
theorem dX1_clean_163 : decode cX1_clean 163 = .ok (.iload_n 3, 1) := by decide +kernel
theorem dX1_clean_164 : decode cX1_clean 164 = .ok (.ireturn, 1) := by decide +kernel
theorem dX1_main_0 : decode cX1_main 0 = .ok (.aload_n 0, 1) := by decide +kernel
theorem dX1_main_1 : decode cX1_main 1 = .ok (.getfield 25, 3) := by decide +kernel
theorem dX1_main_4 : decode cX1_main 4 = .ok (.iload_n 1, 1) := by decide +kernel
theorem dX1_main_5 : decode cX1_main 5 = .ok (.iaload, 1) := by decide +kernel
theorem dX1_main_6 : decode cX1_main 6 = .ok (.ifCond .ne 5, 3) := by decide +kernel
theorem dX1_main_9 : decode cX1_main 9 = .ok (.iconst (-1), 1) := by decide +kernel
theorem dX1_main_10 : decode cX1_main 10 = .ok (.ireturn, 1) := by decide +kernel
theorem dX1_main_11 : decode cX1_main 11 = .ok (.iconst 0, 1) := by decide +kernel
theorem dX1_main_12 : decode cX1_main 12 = .ok (.istore_n 2, 1) := by decide +kernel
theorem dX1_main_13 : decode cX1_main 13 = .ok (.iload_n 2, 1) := by decide +kernel
theorem dX1_main_14 : decode cX1_main 14 = .ok (.bipush 6, 2) := by decide +kernel
theorem dX1_main_16 : decode cX1_main 16 = .ok (.if_icmp .ge 16, 3) := by decide +kernel
theorem dX1_main_19 : decode cX1_main 19 = .ok (.aload_n 0, 1) := by decide +kernel
theorem dX1_main_20 : decode cX1_main 20 = .ok (.getfield 55, 3) := by decide +kernel
theorem dX1_main_23 : decode cX1_main 23 = .ok (.iload_n 2, 1) := by decide +kernel
theorem dX1_main_24 : decode cX1_main 24 = .ok (.iconst 0, 1) := by decide +kernel
theorem dX1_main_25 : decode cX1_main 25 = .ok (.iastore, 1) := by decide +kernel
theorem dX1_main_26 : decode cX1_main 26 = .ok (.iinc 2 1, 3) := by decide +kernel
theorem dX1_main_29 : decode cX1_main 29 = .ok (.goto (-16), 3) := by decide +kernel
theorem dX1_main_32 : decode cX1_main 32 = .ok (.iconst 0, 1) := by decide +kernel
theorem dX1_main_33 : decode cX1_main 33 = .ok (.istore_n 2, 1) := by decide +kernel
theorem dX1_main_34 : decode cX1_main 34 = .ok (.iload_n 2, 1) := by decide +kernel
theorem dX1_main_35 : decode cX1_main 35 = .ok (.aload_n 0, 1) := by decide +kernel
theorem dX1_main_36 : decode cX1_main 36 = .ok (.getfield 66, 3) := by decide +kernel
theorem dX1_main_39 : decode cX1_main 39 = .ok (.if_icmp .ge 42, 3) := by decide +kernel
theorem dX1_main_42 : decode cX1_main 42 = .ok (.aload_n 0, 1) := by decide +kernel
theorem dX1_main_43 : decode cX1_main 43 = .ok (.getfield 55, 3) := by decide +kernel
theorem dX1_main_46 : decode cX1_main 46 = .ok (.aload_n 0, 1) := by decide +kernel
theorem dX1_main_47 : decode cX1_main 47 = .ok (.getfield 13, 3) := by decide +kernel
theorem dX1_main_50 : decode cX1_main 50 = .ok (.iload_n 2, 1) := by decide +kernel
theorem dX1_main_51 : decode cX1_main 51 = .ok (.iaload, 1) := by decide +kernel
theorem dX1_main_52 : decode cX1_main 52 = .ok (.dup2, 1) := by decide +kernel
theorem dX1_main_53 : decode cX1_main 53 = .ok (.iaload, 1) := by decide +kernel
theorem dX1_main_54 : decode cX1_main 54 = .ok (.aload_n 0, 1) := by decide +kernel
theorem dX1_main_55 : decode cX1_main 55 = .ok (.getfield 28, 3) := by decide +kernel
theorem dX1_main_58 : decode cX1_main 58 = .ok (.iload_n 1, 1) := by decide +kernel
theorem dX1_main_59 : decode cX1_main 59 = .ok (.aload_n 0, 1) := by decide +kernel
theorem dX1_main_60 : decode cX1_main 60 = .ok (.getfield 25, 3) := by decide +kernel
theorem dX1_main_63 : decode cX1_main 63 = .ok (.iload_n 1, 1) := by decide +kernel
theorem dX1_main_64 : decode cX1_main 64 = .ok (.iaload, 1) := by decide +kernel
theorem dX1_main_65 : decode cX1_main 65 = .ok (.iconst 1, 1) := by decide +kernel
theorem dX1_main_66 : decode cX1_main 66 = .ok (.isub, 1) := by decide +kernel
theorem dX1_main_67 : decode cX1_main 67 = .ok (.invokestatic 99, 3) := by decide +kernel
theorem dX1_main_70 : decode cX1_main 70 = .ok (.iload_n 2, 1) := by decide +kernel
theorem dX1_main_71 : decode cX1_main 71 = .ok (.iadd, 1) := by decide +kernel
theorem dX1_main_72 : decode cX1_main 72 = .ok (.iaload, 1) := by decide +kernel
theorem dX1_main_73 : decode cX1_main 73 = .ok (.iadd, 1) := by decide +kernel
theorem dX1_main_74 : decode cX1_main 74 = .ok (.iastore, 1) := by decide +kernel
theorem dX1_main_75 : decode cX1_main 75 = .ok (.iinc 2 1, 3) := by decide +kernel
theorem dX1_main_78 : decode cX1_main 78 = .ok (.goto (-44), 3) := by decide +kernel
theorem dX1_main_81 : decode cX1_main 81 = .ok (.iconst 0, 1) := by decide +kernel
theorem dX1_main_82 : decode cX1_main 82 = .ok (.istore_n 2, 1) := by decide +kernel
theorem dX1_main_83 : decode cX1_main 83 = .ok (.iconst 1, 1) := by decide +kernel
theorem dX1_main_84 : decode cX1_main 84 = .ok (.istore_n 3, 1) := by decide +kernel
theorem dX1_main_85 : decode cX1_main 85 = .ok (.iload_n 3, 1) := by decide +kernel
theorem dX1_main_86 : decode cX1_main 86 = .ok (.bipush 6, 2) := by decide +kernel
theorem dX1_main_88 : decode cX1_main 88 = .ok (.if_icmp .ge 30, 3) := by decide +kernel
theorem dX1_main_91 : decode cX1_main 91 = .ok (.aload_n 0, 1) := by decide +kernel
theorem dX1_main_92 : decode cX1_main 92 = .ok (.getfield 55, 3) := by decide +kernel
theorem dX1_main_95 : decode cX1_main 95 = .ok (.iload_n 3, 1) := by decide +kernel
theorem dX1_main_96 : decode cX1_main 96 = .ok (.iaload, 1) := by decide +kernel
theorem dX1_main_97 : decode cX1_main 97 = .ok (.aload_n 0, 1) := by decide +kernel
theorem dX1_main_98 : decode cX1_main 98 = .ok (.getfield 55, 3) := by decide +kernel
theorem dX1_main_101 : decode cX1_main 101 = .ok (.iload_n 2, 1) := by decide +kernel
theorem dX1_main_102 : decode cX1_main 102 = .ok (.iaload, 1) := by decide +kernel
theorem dX1_main_103 : decode cX1_main 103 = .ok (.if_icmp .le 7, 3) := by decide +kernel
theorem dX1_main_106 : decode cX1_main 106 = .ok (.iload_n 3, 1) := by decide +kernel
theorem dX1_main_107 : decode cX1_main 107 = .ok (.goto 4, 3) := by decide +kernel
theorem dX1_main_110 : decode cX1_main 110 = .ok (.iload_n 2, 1) := by decide +kernel
theorem dX1_main_111 : decode cX1_main 111 = .ok (.istore_n 2, 1) := by decide +kernel
theorem dX1_main_112 : decode cX1_main 112 = .ok (.iinc 3 1, 3) := by decide +kernel
theorem dX1_main_115 : decode cX1_main 115 = .ok (.goto (-30), 3) := by decide +kernel
theorem dX1_main_118 : decode cX1_main 118 = .ok (.iload_n 2, 1) := by decide +kernel
theorem dX1_main_119 : decode cX1_main 119 = .ok (.ireturn, 1) := by decide +kernel
theorem dX1_look_0 : decode cX1_look 0 = .ok (.aload_n 0, 1) := by decide +kernel
theorem dX1_look_1 : decode cX1_look 1 = .ok (.getfield 25, 3) := by decide +kernel
theorem dX1_look_4 : decode cX1_look 4 = .ok (.iload_n 1, 1) := by decide +kernel
theorem dX1_look_5 : decode cX1_look 5 = .ok (.iaload, 1) := by decide +kernel
theorem dX1_look_6 : decode cX1_look 6 = .ok (.ifCond .ne 5, 3) := by decide +kernel
theorem dX1_look_9 : decode cX1_look 9 = .ok (.iconst (-1), 1) := by decide +kernel
theorem dX1_look_10 : decode cX1_look 10 = .ok (.ireturn, 1) := by decide +kernel
theorem dX1_look_11 : decode cX1_look 11 = .ok (.iconst 0, 1) := by decide +kernel
theorem dX1_look_12 : decode cX1_look 12 = .ok (.istore_n 3, 1) := by decide +kernel
theorem dX1_look_13 : decode cX1_look 13 = .ok (.iconst 0, 1) := by decide +kernel
theorem dX1_look_14 : decode cX1_look 14 = .ok (.istore 4, 2) := by decide +kernel
theorem dX1_look_16 : decode cX1_look 16 = .ok (.iconst 0, 1) := by decide +kernel
theorem dX1_look_17 : decode cX1_look 17 = .ok (.istore 5, 2) := by decide +kernel
theorem dX1_look_19 : decode cX1_look 19 = .ok (.iload 5, 2) := by decide +kernel
theorem dX1_look_21 : decode cX1_look 21 = .ok (.aload_n 0, 1) := by decide +kernel
theorem dX1_look_22 : decode cX1_look 22 = .ok (.getfield 66, 3) := by decide +kernel
theorem dX1_look_25 : decode cX1_look 25 = .ok (.if_icmp .ge 60, 3) := by decide +kernel
theorem dX1_look_28 : decode cX1_look 28 = .ok (.aload_n 0, 1) := by decide +kernel
theorem dX1_look_29 : decode cX1_look 29 = .ok (.getfield 28, 3) := by decide +kernel
theorem dX1_look_32 : decode cX1_look 32 = .ok (.iload_n 1, 1) := by decide +kernel
theorem dX1_look_33 : decode cX1_look 33 = .ok (.aload_n 0, 1) := by decide +kernel
theorem dX1_look_34 : decode cX1_look 34 = .ok (.getfield 25, 3) := by decide +kernel
theorem dX1_look_37 : decode cX1_look 37 = .ok (.iload_n 1, 1) := by decide +kernel
theorem dX1_look_38 : decode cX1_look 38 = .ok (.iaload, 1) := by decide +kernel
theorem dX1_look_39 : decode cX1_look 39 = .ok (.iconst 1, 1) := by decide +kernel
theorem dX1_look_40 : decode cX1_look 40 = .ok (.isub, 1) := by decide +kernel
theorem dX1_look_41 : decode cX1_look 41 = .ok (.invokestatic 99, 3) := by decide +kernel
theorem dX1_look_44 : decode cX1_look 44 = .ok (.iload 5, 2) := by decide +kernel
theorem dX1_look_46 : decode cX1_look 46 = .ok (.iadd, 1) := by decide +kernel
theorem dX1_look_47 : decode cX1_look 47 = .ok (.iaload, 1) := by decide +kernel
theorem dX1_look_48 : decode cX1_look 48 = .ok (.istore 6, 2) := by decide +kernel
theorem dX1_look_50 : decode cX1_look 50 = .ok (.iload_n 3, 1) := by decide +kernel
theorem dX1_look_51 : decode cX1_look 51 = .ok (.iload 6, 2) := by decide +kernel
theorem dX1_look_53 : decode cX1_look 53 = .ok (.iadd, 1) := by decide +kernel
theorem dX1_look_54 : decode cX1_look 54 = .ok (.istore_n 3, 1) := by decide +kernel
theorem dX1_look_55 : decode cX1_look 55 = .ok (.iload 4, 2) := by decide +kernel
theorem dX1_look_57 : decode cX1_look 57 = .ok (.iload 6, 2) := by decide +kernel
theorem dX1_look_59 : decode cX1_look 59 = .ok (.aload_n 0, 1) := by decide +kernel
theorem dX1_look_60 : decode cX1_look 60 = .ok (.getfield 7, 3) := by decide +kernel
theorem dX1_look_63 : decode cX1_look 63 = .ok (.iconst 3, 1) := by decide +kernel
theorem dX1_look_64 : decode cX1_look 64 = .ok (.aload_n 0, 1) := by decide +kernel
theorem dX1_look_65 : decode cX1_look 65 = .ok (.getfield 13, 3) := by decide +kernel
theorem dX1_look_68 : decode cX1_look 68 = .ok (.iload 5, 2) := by decide +kernel
theorem dX1_look_70 : decode cX1_look 70 = .ok (.iaload, 1) := by decide +kernel
theorem dX1_look_71 : decode cX1_look 71 = .ok (.imul, 1) := by decide +kernel
theorem dX1_look_72 : decode cX1_look 72 = .ok (.iload_n 2, 1) := by decide +kernel
theorem dX1_look_73 : decode cX1_look 73 = .ok (.iadd, 1) := by decide +kernel
theorem dX1_look_74 : decode cX1_look 74 = .ok (.iaload, 1) := by decide +kernel
theorem dX1_look_75 : decode cX1_look 75 = .ok (.imul, 1) := by decide +kernel
theorem dX1_look_76 : decode cX1_look 76 = .ok (.iadd, 1) := by decide +kernel
theorem dX1_look_77 : decode cX1_look 77 = .ok (.istore 4, 2) := by decide +kernel
theorem dX1_look_79 : decode cX1_look 79 = .ok (.iinc 5 1, 3) := by decide +kernel
theorem dX1_look_82 : decode cX1_look 82 = .ok (.goto (-63), 3) := by decide +kernel
theorem dX1_look_85 : decode cX1_look 85 = .ok (.iload 4, 2) := by decide +kernel
theorem dX1_look_87 : decode cX1_look 87 = .ok (.iload_n 3, 1) := by decide +kernel
theorem dX1_look_88 : decode cX1_look 88 = .ok (.idiv, 1) := by decide +kernel
theorem dX1_look_89 : decode cX1_look 89 = .ok (.ireturn, 1) := by decide +kernel
theorem dX1_value_0 : decode cX1_value 0 = .ok (.aload_n 0, 1) := by decide +kernel
theorem dX1_value_1 : decode cX1_value 1 = .ok (.iload_n 1, 1) := by decide +kernel
theorem dX1_value_2 : decode cX1_value 2 = .ok (.invokevirtual 103, 3) := by decide +kernel
theorem dX1_value_5 : decode cX1_value 5 = .ok (.istore_n 2, 1) := by decide +kernel
theorem dX1_value_6 : decode cX1_value 6 = .ok (.iconst 0, 1) := by decide +kernel
theorem dX1_value_7 : decode cX1_value 7 = .ok (.istore_n 3, 1) := by decide +kernel
theorem dX1_value_8 : decode cX1_value 8 = .ok (.iconst 0, 1) := by decide +kernel
theorem dX1_value_9 : decode cX1_value 9 = .ok (.istore 4, 2) := by decide +kernel
theorem dX1_value_11 : decode cX1_value 11 = .ok (.iconst 0, 1) := by decide +kernel
theorem dX1_value_12 : decode cX1_value 12 = .ok (.istore 5, 2) := by decide +kernel
theorem dX1_value_14 : decode cX1_value 14 = .ok (.iload 5, 2) := by decide +kernel
theorem dX1_value_16 : decode cX1_value 16 = .ok (.aload_n 0, 1) := by decide +kernel
theorem dX1_value_17 : decode cX1_value 17 = .ok (.getfield 72, 3) := by decide +kernel
theorem dX1_value_20 : decode cX1_value 20 = .ok (.if_icmp .ge 47, 3) := by decide +kernel
theorem dX1_value_23 : decode cX1_value 23 = .ok (.iload_n 2, 1) := by decide +kernel
theorem dX1_value_24 : decode cX1_value 24 = .ok (.iconst (-1), 1) := by decide +kernel
theorem dX1_value_25 : decode cX1_value 25 = .ok (.if_icmp .eq 36, 3) := by decide +kernel
theorem dX1_value_28 : decode cX1_value 28 = .ok (.aload_n 0, 1) := by decide +kernel
theorem dX1_value_29 : decode cX1_value 29 = .ok (.getfield 34, 3) := by decide +kernel
theorem dX1_value_32 : decode cX1_value 32 = .ok (.iload 5, 2) := by decide +kernel
theorem dX1_value_34 : decode cX1_value 34 = .ok (.iaload, 1) := by decide +kernel
theorem dX1_value_35 : decode cX1_value 35 = .ok (.ifCond .le 26, 3) := by decide +kernel
theorem dX1_value_38 : decode cX1_value 38 = .ok (.aload_n 0, 1) := by decide +kernel
theorem dX1_value_39 : decode cX1_value 39 = .ok (.iload 5, 2) := by decide +kernel
theorem dX1_value_41 : decode cX1_value 41 = .ok (.invokevirtual 103, 3) := by decide +kernel
theorem dX1_value_44 : decode cX1_value 44 = .ok (.iload_n 2, 1) := by decide +kernel
theorem dX1_value_45 : decode cX1_value 45 = .ok (.if_icmp .ne 16, 3) := by decide +kernel
theorem dX1_value_48 : decode cX1_value 48 = .ok (.iload_n 3, 1) := by decide +kernel
theorem dX1_value_49 : decode cX1_value 49 = .ok (.aload_n 0, 1) := by decide +kernel
theorem dX1_value_50 : decode cX1_value 50 = .ok (.getfield 34, 3) := by decide +kernel
theorem dX1_value_53 : decode cX1_value 53 = .ok (.iload 5, 2) := by decide +kernel
theorem dX1_value_55 : decode cX1_value 55 = .ok (.iaload, 1) := by decide +kernel
theorem dX1_value_56 : decode cX1_value 56 = .ok (.iadd, 1) := by decide +kernel
theorem dX1_value_57 : decode cX1_value 57 = .ok (.istore_n 3, 1) := by decide +kernel
theorem dX1_value_58 : decode cX1_value 58 = .ok (.iinc 4 1, 3) := by decide +kernel
theorem dX1_value_61 : decode cX1_value 61 = .ok (.iinc 5 1, 3) := by decide +kernel
theorem dX1_value_64 : decode cX1_value 64 = .ok (.goto (-50), 3) := by decide +kernel
theorem dX1_value_67 : decode cX1_value 67 = .ok (.iload 4, 2) := by decide +kernel
theorem dX1_value_69 : decode cX1_value 69 = .ok (.ifCond .ne 7, 3) := by decide +kernel
theorem dX1_value_72 : decode cX1_value 72 = .ok (.iconst 0, 1) := by decide +kernel
theorem dX1_value_73 : decode cX1_value 73 = .ok (.goto 7, 3) := by decide +kernel
theorem dX1_value_76 : decode cX1_value 76 = .ok (.iload_n 3, 1) := by decide +kernel
theorem dX1_value_77 : decode cX1_value 77 = .ok (.iload 4, 2) := by decide +kernel
theorem dX1_value_79 : decode cX1_value 79 = .ok (.idiv, 1) := by decide +kernel
theorem dX1_value_80 : decode cX1_value 80 = .ok (.istore 5, 2) := by decide +kernel
theorem dX1_value_82 : decode cX1_value 82 = .ok (.iload 5, 2) := by decide +kernel
theorem dX1_value_84 : decode cX1_value 84 = .ok (.aload_n 0, 1) := by decide +kernel
theorem dX1_value_85 : decode cX1_value 85 = .ok (.getfield 31, 3) := by decide +kernel
theorem dX1_value_88 : decode cX1_value 88 = .ok (.iload_n 1, 1) := by decide +kernel
theorem dX1_value_89 : decode cX1_value 89 = .ok (.iaload, 1) := by decide +kernel
theorem dX1_value_90 : decode cX1_value 90 = .ok (.iload 5, 2) := by decide +kernel
theorem dX1_value_92 : decode cX1_value 92 = .ok (.bipush 20, 2) := by decide +kernel
theorem dX1_value_94 : decode cX1_value 94 = .ok (.idiv, 1) := by decide +kernel
theorem dX1_value_95 : decode cX1_value 95 = .ok (.imul, 1) := by decide +kernel
theorem dX1_value_96 : decode cX1_value 96 = .ok (.isub, 1) := by decide +kernel
theorem dX1_value_97 : decode cX1_value 97 = .ok (.istore 6, 2) := by decide +kernel
theorem dX1_value_99 : decode cX1_value 99 = .ok (.iload 6, 2) := by decide +kernel
theorem dX1_value_101 : decode cX1_value 101 = .ok (.ifCond .ge 7, 3) := by decide +kernel
theorem dX1_value_104 : decode cX1_value 104 = .ok (.iconst 0, 1) := by decide +kernel
theorem dX1_value_105 : decode cX1_value 105 = .ok (.goto 5, 3) := by decide +kernel
theorem dX1_value_108 : decode cX1_value 108 = .ok (.iload 6, 2) := by decide +kernel
theorem dX1_value_110 : decode cX1_value 110 = .ok (.ireturn, 1) := by decide +kernel
theorem dX1_damp_0 : decode cX1_damp 0 = .ok (.aload_n 0, 1) := by decide +kernel
theorem dX1_damp_1 : decode cX1_damp 1 = .ok (.iload_n 1, 1) := by decide +kernel
theorem dX1_damp_2 : decode cX1_damp 2 = .ok (.invokestatic 106, 3) := by decide +kernel
theorem dX1_damp_5 : decode cX1_damp 5 = .ok (.ifCond .ne 7, 3) := by decide +kernel
theorem dX1_damp_8 : decode cX1_damp 8 = .ok (.iconst 1, 1) := by decide +kernel
theorem dX1_damp_9 : decode cX1_damp 9 = .ok (.goto 18, 3) := by decide +kernel
theorem dX1_damp_12 : decode cX1_damp 12 = .ok (.iload_n 2, 1) := by decide +kernel
theorem dX1_damp_13 : decode cX1_damp 13 = .ok (.iconst 0, 1) := by decide +kernel
theorem dX1_damp_14 : decode cX1_damp 14 = .ok (.bipush 100, 2) := by decide +kernel
theorem dX1_damp_16 : decode cX1_damp 16 = .ok (.invokestatic 62, 3) := by decide +kernel
theorem dX1_damp_19 : decode cX1_damp 19 = .ok (.ifCond .ne 7, 3) := by decide +kernel
theorem dX1_damp_22 : decode cX1_damp 22 = .ok (.iconst 2, 1) := by decide +kernel
theorem dX1_damp_23 : decode cX1_damp 23 = .ok (.goto 4, 3) := by decide +kernel
theorem dX1_damp_26 : decode cX1_damp 26 = .ok (.iconst 0, 1) := by decide +kernel
theorem dX1_damp_27 : decode cX1_damp 27 = .ok (.putfield 58, 3) := by decide +kernel
theorem dX1_damp_30 : decode cX1_damp 30 = .ok (.aload_n 0, 1) := by decide +kernel
theorem dX1_damp_31 : decode cX1_damp 31 = .ok (.getfield 58, 3) := by decide +kernel
theorem dX1_damp_34 : decode cX1_damp 34 = .ok (.ifCond .le 5, 3) := by decide +kernel
theorem dX1_damp_37 : decode cX1_damp 37 = .ok (.iconst 0, 1) := by decide +kernel
theorem dX1_damp_38 : decode cX1_damp 38 = .ok (.ireturn, 1) := by decide +kernel
theorem dX1_damp_39 : decode cX1_damp 39 = .ok (.aload_n 0, 1) := by decide +kernel
theorem dX1_damp_40 : decode cX1_damp 40 = .ok (.getfield 46, 3) := by decide +kernel
theorem dX1_damp_43 : decode cX1_damp 43 = .ok (.iload_n 1, 1) := by decide +kernel
theorem dX1_damp_44 : decode cX1_damp 44 = .ok (.iaload, 1) := by decide +kernel
theorem dX1_damp_45 : decode cX1_damp 45 = .ok (.istore_n 3, 1) := by decide +kernel
theorem dX1_damp_46 : decode cX1_damp 46 = .ok (.aload_n 0, 1) := by decide +kernel
theorem dX1_damp_47 : decode cX1_damp 47 = .ok (.getfield 46, 3) := by decide +kernel
theorem dX1_damp_50 : decode cX1_damp 50 = .ok (.iload_n 1, 1) := by decide +kernel
theorem dX1_damp_51 : decode cX1_damp 51 = .ok (.iload_n 2, 1) := by decide +kernel
theorem dX1_damp_52 : decode cX1_damp 52 = .ok (.iastore, 1) := by decide +kernel
theorem dX1_damp_53 : decode cX1_damp 53 = .ok (.iload_n 3, 1) := by decide +kernel
theorem dX1_damp_54 : decode cX1_damp 54 = .ok (.ireturn, 1) := by decide +kernel
theorem dX1_lend_0 : decode cX1_lend 0 = .ok (.aload_n 0, 1) := by decide +kernel
theorem dX1_lend_1 : decode cX1_lend 1 = .ok (.aload_n 0, 1) := by decide +kernel
theorem dX1_lend_2 : decode cX1_lend 2 = .ok (.iload_n 1, 1) := by decide +kernel
theorem dX1_lend_3 : decode cX1_lend 3 = .ok (.invokevirtual 96, 3) := by decide +kernel
theorem dX1_lend_6 : decode cX1_lend 6 = .ok (.ifCond .eq 10, 3) := by decide +kernel
theorem dX1_lend_9 : decode cX1_lend 9 = .ok (.iload_n 2, 1) := by decide +kernel
theorem dX1_lend_10 : decode cX1_lend 10 = .ok (.invokestatic 106, 3) := by decide +kernel
theorem dX1_lend_13 : decode cX1_lend 13 = .ok (.ifCond .ne 7, 3) := by decide +kernel
theorem dX1_lend_16 : decode cX1_lend 16 = .ok (.iconst 1, 1) := by decide +kernel
theorem dX1_lend_17 : decode cX1_lend 17 = .ok (.goto 43, 3) := by decide +kernel
theorem dX1_lend_20 : decode cX1_lend 20 = .ok (.iload_n 3, 1) := by decide +kernel
theorem dX1_lend_21 : decode cX1_lend 21 = .ok (.iconst 1, 1) := by decide +kernel
theorem dX1_lend_22 : decode cX1_lend 22 = .ok (.bipush 100, 2) := by decide +kernel
theorem dX1_lend_24 : decode cX1_lend 24 = .ok (.invokestatic 62, 3) := by decide +kernel
theorem dX1_lend_27 : decode cX1_lend 27 = .ok (.ifCond .ne 7, 3) := by decide +kernel
theorem dX1_lend_30 : decode cX1_lend 30 = .ok (.iconst 2, 1) := by decide +kernel
theorem dX1_lend_31 : decode cX1_lend 31 = .ok (.goto 29, 3) := by decide +kernel
theorem dX1_lend_34 : decode cX1_lend 34 = .ok (.aload_n 0, 1) := by decide +kernel
theorem dX1_lend_35 : decode cX1_lend 35 = .ok (.getfield 37, 3) := by decide +kernel
theorem dX1_lend_38 : decode cX1_lend 38 = .ok (.iload_n 1, 1) := by decide +kernel
theorem dX1_lend_39 : decode cX1_lend 39 = .ok (.iaload, 1) := by decide +kernel
theorem dX1_lend_40 : decode cX1_lend 40 = .ok (.iconst (-1), 1) := by decide +kernel
theorem dX1_lend_41 : decode cX1_lend 41 = .ok (.if_icmp .ne 14, 3) := by decide +kernel
theorem dX1_lend_44 : decode cX1_lend 44 = .ok (.aload_n 0, 1) := by decide +kernel
theorem dX1_lend_45 : decode cX1_lend 45 = .ok (.getfield 31, 3) := by decide +kernel
theorem dX1_lend_48 : decode cX1_lend 48 = .ok (.iload_n 1, 1) := by decide +kernel
theorem dX1_lend_49 : decode cX1_lend 49 = .ok (.iaload, 1) := by decide +kernel
theorem dX1_lend_50 : decode cX1_lend 50 = .ok (.bipush 10, 2) := by decide +kernel
theorem dX1_lend_52 : decode cX1_lend 52 = .ok (.if_icmp .lt 7, 3) := by decide +kernel
theorem dX1_lend_55 : decode cX1_lend 55 = .ok (.iconst 3, 1) := by decide +kernel
theorem dX1_lend_56 : decode cX1_lend 56 = .ok (.goto 4, 3) := by decide +kernel
theorem dX1_lend_59 : decode cX1_lend 59 = .ok (.iconst 0, 1) := by decide +kernel
theorem dX1_lend_60 : decode cX1_lend 60 = .ok (.putfield 58, 3) := by decide +kernel
theorem dX1_lend_63 : decode cX1_lend 63 = .ok (.aload_n 0, 1) := by decide +kernel
theorem dX1_lend_64 : decode cX1_lend 64 = .ok (.getfield 58, 3) := by decide +kernel
theorem dX1_lend_67 : decode cX1_lend 67 = .ok (.ifCond .le 5, 3) := by decide +kernel
theorem dX1_lend_70 : decode cX1_lend 70 = .ok (.iconst 0, 1) := by decide +kernel
theorem dX1_lend_71 : decode cX1_lend 71 = .ok (.ireturn, 1) := by decide +kernel
theorem dX1_lend_72 : decode cX1_lend 72 = .ok (.aload_n 0, 1) := by decide +kernel
theorem dX1_lend_73 : decode cX1_lend 73 = .ok (.getfield 37, 3) := by decide +kernel
theorem dX1_lend_76 : decode cX1_lend 76 = .ok (.iload_n 1, 1) := by decide +kernel
theorem dX1_lend_77 : decode cX1_lend 77 = .ok (.iload_n 2, 1) := by decide +kernel
theorem dX1_lend_78 : decode cX1_lend 78 = .ok (.iastore, 1) := by decide +kernel
theorem dX1_lend_79 : decode cX1_lend 79 = .ok (.aload_n 0, 1) := by decide +kernel
theorem dX1_lend_80 : decode cX1_lend 80 = .ok (.getfield 40, 3) := by decide +kernel
theorem dX1_lend_83 : decode cX1_lend 83 = .ok (.iload_n 1, 1) := by decide +kernel
theorem dX1_lend_84 : decode cX1_lend 84 = .ok (.iload_n 3, 1) := by decide +kernel
theorem dX1_lend_85 : decode cX1_lend 85 = .ok (.iastore, 1) := by decide +kernel
theorem dX1_lend_86 : decode cX1_lend 86 = .ok (.aload_n 0, 1) := by decide +kernel
theorem dX1_lend_87 : decode cX1_lend 87 = .ok (.getfield 43, 3) := by decide +kernel
theorem dX1_lend_90 : decode cX1_lend 90 = .ok (.iload_n 1, 1) := by decide +kernel
theorem dX1_lend_91 : decode cX1_lend 91 = .ok (.aload_n 0, 1) := by decide +kernel
theorem dX1_lend_92 : decode cX1_lend 92 = .ok (.iload_n 1, 1) := by decide +kernel
theorem dX1_lend_93 : decode cX1_lend 93 = .ok (.invokevirtual 109, 3) := by decide +kernel
theorem dX1_lend_96 : decode cX1_lend 96 = .ok (.bipush 100, 2) := by decide +kernel
theorem dX1_lend_98 : decode cX1_lend 98 = .ok (.idiv, 1) := by decide +kernel
theorem dX1_lend_99 : decode cX1_lend 99 = .ok (.iconst 1, 1) := by decide +kernel
theorem dX1_lend_100 : decode cX1_lend 100 = .ok (.iadd, 1) := by decide +kernel
theorem dX1_lend_101 : decode cX1_lend 101 = .ok (.iastore, 1) := by decide +kernel
theorem dX1_lend_102 : decode cX1_lend 102 = .ok (.aload_n 0, 1) := by decide +kernel
theorem dX1_lend_103 : decode cX1_lend 103 = .ok (.getfield 43, 3) := by decide +kernel
theorem dX1_lend_106 : decode cX1_lend 106 = .ok (.iload_n 1, 1) := by decide +kernel
theorem dX1_lend_107 : decode cX1_lend 107 = .ok (.iaload, 1) := by decide +kernel
theorem dX1_lend_108 : decode cX1_lend 108 = .ok (.ireturn, 1) := by decide +kernel
theorem dX1_sell_0 : decode cX1_sell 0 = .ok (.aload_n 0, 1) := by decide +kernel
theorem dX1_sell_1 : decode cX1_sell 1 = .ok (.aload_n 0, 1) := by decide +kernel
theorem dX1_sell_2 : decode cX1_sell 2 = .ok (.iload_n 1, 1) := by decide +kernel
theorem dX1_sell_3 : decode cX1_sell 3 = .ok (.invokevirtual 96, 3) := by decide +kernel
theorem dX1_sell_6 : decode cX1_sell 6 = .ok (.ifCond .ne 7, 3) := by decide +kernel
theorem dX1_sell_9 : decode cX1_sell 9 = .ok (.iconst 1, 1) := by decide +kernel
theorem dX1_sell_10 : decode cX1_sell 10 = .ok (.goto 41, 3) := by decide +kernel
theorem dX1_sell_13 : decode cX1_sell 13 = .ok (.iload_n 2, 1) := by decide +kernel
theorem dX1_sell_14 : decode cX1_sell 14 = .ok (.iconst 1, 1) := by decide +kernel
theorem dX1_sell_15 : decode cX1_sell 15 = .ok (.ldc 112, 2) := by decide +kernel
theorem dX1_sell_17 : decode cX1_sell 17 = .ok (.invokestatic 62, 3) := by decide +kernel
theorem dX1_sell_20 : decode cX1_sell 20 = .ok (.ifCond .ne 7, 3) := by decide +kernel
theorem dX1_sell_23 : decode cX1_sell 23 = .ok (.iconst 2, 1) := by decide +kernel
theorem dX1_sell_24 : decode cX1_sell 24 = .ok (.goto 27, 3) := by decide +kernel
theorem dX1_sell_27 : decode cX1_sell 27 = .ok (.aload_n 0, 1) := by decide +kernel
theorem dX1_sell_28 : decode cX1_sell 28 = .ok (.getfield 37, 3) := by decide +kernel
theorem dX1_sell_31 : decode cX1_sell 31 = .ok (.iload_n 1, 1) := by decide +kernel
theorem dX1_sell_32 : decode cX1_sell 32 = .ok (.iaload, 1) := by decide +kernel
theorem dX1_sell_33 : decode cX1_sell 33 = .ok (.iconst (-1), 1) := by decide +kernel
theorem dX1_sell_34 : decode cX1_sell 34 = .ok (.if_icmp .ne 12, 3) := by decide +kernel
theorem dX1_sell_37 : decode cX1_sell 37 = .ok (.aload_n 0, 1) := by decide +kernel
theorem dX1_sell_38 : decode cX1_sell 38 = .ok (.getfield 25, 3) := by decide +kernel
theorem dX1_sell_41 : decode cX1_sell 41 = .ok (.iload_n 1, 1) := by decide +kernel
theorem dX1_sell_42 : decode cX1_sell 42 = .ok (.iaload, 1) := by decide +kernel
theorem dX1_sell_43 : decode cX1_sell 43 = .ok (.ifCond .ne 7, 3) := by decide +kernel
theorem dX1_sell_46 : decode cX1_sell 46 = .ok (.iconst 3, 1) := by decide +kernel
theorem dX1_sell_47 : decode cX1_sell 47 = .ok (.goto 4, 3) := by decide +kernel
theorem dX1_sell_50 : decode cX1_sell 50 = .ok (.iconst 0, 1) := by decide +kernel
theorem dX1_sell_51 : decode cX1_sell 51 = .ok (.putfield 58, 3) := by decide +kernel
theorem dX1_sell_54 : decode cX1_sell 54 = .ok (.aload_n 0, 1) := by decide +kernel
theorem dX1_sell_55 : decode cX1_sell 55 = .ok (.getfield 58, 3) := by decide +kernel
theorem dX1_sell_58 : decode cX1_sell 58 = .ok (.ifCond .le 5, 3) := by decide +kernel
theorem dX1_sell_61 : decode cX1_sell 61 = .ok (.iconst 0, 1) := by decide +kernel
theorem dX1_sell_62 : decode cX1_sell 62 = .ok (.ireturn, 1) := by decide +kernel
theorem dX1_sell_63 : decode cX1_sell 63 = .ok (.aload_n 0, 1) := by decide +kernel
theorem dX1_sell_64 : decode cX1_sell 64 = .ok (.getfield 34, 3) := by decide +kernel
theorem dX1_sell_67 : decode cX1_sell 67 = .ok (.iload_n 1, 1) := by decide +kernel
theorem dX1_sell_68 : decode cX1_sell 68 = .ok (.iload_n 2, 1) := by decide +kernel
theorem dX1_sell_69 : decode cX1_sell 69 = .ok (.iastore, 1) := by decide +kernel
theorem dX1_sell_70 : decode cX1_sell 70 = .ok (.aload_n 0, 1) := by decide +kernel
theorem dX1_sell_71 : decode cX1_sell 71 = .ok (.iload_n 1, 1) := by decide +kernel
theorem dX1_sell_72 : decode cX1_sell 72 = .ok (.invokevirtual 109, 3) := by decide +kernel
theorem dX1_sell_75 : decode cX1_sell 75 = .ok (.ireturn, 1) := by decide +kernel
theorem dX1_passOne_0 : decode cX1_passOne 0 = .ok (.aload_n 0, 1) := by decide +kernel
theorem dX1_passOne_1 : decode cX1_passOne 1 = .ok (.dup, 1) := by decide +kernel
theorem dX1_passOne_2 : decode cX1_passOne 2 = .ok (.getfield 113, 3) := by decide +kernel
theorem dX1_passOne_5 : decode cX1_passOne 5 = .ok (.iconst 1, 1) := by decide +kernel
theorem dX1_passOne_6 : decode cX1_passOne 6 = .ok (.iadd, 1) := by decide +kernel
theorem dX1_passOne_7 : decode cX1_passOne 7 = .ok (.putfield 113, 3) := by decide +kernel
theorem dX1_passOne_10 : decode cX1_passOne 10 = .ok (.iconst 0, 1) := by decide +kernel
theorem dX1_passOne_11 : decode cX1_passOne 11 = .ok (.istore_n 1, 1) := by decide +kernel
theorem dX1_passOne_12 : decode cX1_passOne 12 = .ok (.iload_n 1, 1) := by decide +kernel
theorem dX1_passOne_13 : decode cX1_passOne 13 = .ok (.aload_n 0, 1) := by decide +kernel
theorem dX1_passOne_14 : decode cX1_passOne 14 = .ok (.getfield 72, 3) := by decide +kernel
theorem dX1_passOne_17 : decode cX1_passOne 17 = .ok (.if_icmp .ge 96, 3) := by decide +kernel
theorem dX1_passOne_20 : decode cX1_passOne 20 = .ok (.aload_n 0, 1) := by decide +kernel
theorem dX1_passOne_21 : decode cX1_passOne 21 = .ok (.getfield 37, 3) := by decide +kernel
theorem dX1_passOne_24 : decode cX1_passOne 24 = .ok (.iload_n 1, 1) := by decide +kernel
theorem dX1_passOne_25 : decode cX1_passOne 25 = .ok (.iaload, 1) := by decide +kernel
theorem dX1_passOne_26 : decode cX1_passOne 26 = .ok (.istore_n 2, 1) := by decide +kernel
theorem dX1_passOne_27 : decode cX1_passOne 27 = .ok (.iload_n 2, 1) := by decide +kernel
theorem dX1_passOne_28 : decode cX1_passOne 28 = .ok (.iconst (-1), 1) := by decide +kernel
theorem dX1_passOne_29 : decode cX1_passOne 29 = .ok (.if_icmp .eq 78, 3) := by decide +kernel
theorem dX1_passOne_32 : decode cX1_passOne 32 = .ok (.aload_n 0, 1) := by decide +kernel
theorem dX1_passOne_33 : decode cX1_passOne 33 = .ok (.getfield 49, 3) := by decide +kernel
theorem dX1_passOne_36 : decode cX1_passOne 36 = .ok (.iload_n 2, 1) := by decide +kernel
theorem dX1_passOne_37 : decode cX1_passOne 37 = .ok (.dup2, 1) := by decide +kernel
theorem dX1_passOne_38 : decode cX1_passOne 38 = .ok (.iaload, 1) := by decide +kernel
theorem dX1_passOne_39 : decode cX1_passOne 39 = .ok (.aload_n 0, 1) := by decide +kernel
theorem dX1_passOne_40 : decode cX1_passOne 40 = .ok (.getfield 43, 3) := by decide +kernel
theorem dX1_passOne_43 : decode cX1_passOne 43 = .ok (.iload_n 1, 1) := by decide +kernel
theorem dX1_passOne_44 : decode cX1_passOne 44 = .ok (.iaload, 1) := by decide +kernel
theorem dX1_passOne_45 : decode cX1_passOne 45 = .ok (.iadd, 1) := by decide +kernel
theorem dX1_passOne_46 : decode cX1_passOne 46 = .ok (.iastore, 1) := by decide +kernel
theorem dX1_passOne_47 : decode cX1_passOne 47 = .ok (.aload_n 0, 1) := by decide +kernel
theorem dX1_passOne_48 : decode cX1_passOne 48 = .ok (.getfield 31, 3) := by decide +kernel
theorem dX1_passOne_51 : decode cX1_passOne 51 = .ok (.iload_n 1, 1) := by decide +kernel
theorem dX1_passOne_52 : decode cX1_passOne 52 = .ok (.dup2, 1) := by decide +kernel
theorem dX1_passOne_53 : decode cX1_passOne 53 = .ok (.iaload, 1) := by decide +kernel
theorem dX1_passOne_54 : decode cX1_passOne 54 = .ok (.aload_n 0, 1) := by decide +kernel
theorem dX1_passOne_55 : decode cX1_passOne 55 = .ok (.getfield 46, 3) := by decide +kernel
theorem dX1_passOne_58 : decode cX1_passOne 58 = .ok (.iload_n 2, 1) := by decide +kernel
theorem dX1_passOne_59 : decode cX1_passOne 59 = .ok (.iaload, 1) := by decide +kernel
theorem dX1_passOne_60 : decode cX1_passOne 60 = .ok (.bipush 40, 2) := by decide +kernel
theorem dX1_passOne_62 : decode cX1_passOne 62 = .ok (.bipush 60, 2) := by decide +kernel
theorem dX1_passOne_64 : decode cX1_passOne 64 = .ok (.invokestatic 62, 3) := by decide +kernel
theorem dX1_passOne_67 : decode cX1_passOne 67 = .ok (.ifCond .eq 7, 3) := by decide +kernel
theorem dX1_passOne_70 : decode cX1_passOne 70 = .ok (.iconst 0, 1) := by decide +kernel
theorem dX1_passOne_71 : decode cX1_passOne 71 = .ok (.goto 4, 3) := by decide +kernel
theorem dX1_passOne_74 : decode cX1_passOne 74 = .ok (.iconst 1, 1) := by decide +kernel
theorem dX1_passOne_75 : decode cX1_passOne 75 = .ok (.iadd, 1) := by decide +kernel
theorem dX1_passOne_76 : decode cX1_passOne 76 = .ok (.iastore, 1) := by decide +kernel
theorem dX1_passOne_77 : decode cX1_passOne 77 = .ok (.aload_n 0, 1) := by decide +kernel
theorem dX1_passOne_78 : decode cX1_passOne 78 = .ok (.getfield 40, 3) := by decide +kernel
theorem dX1_passOne_81 : decode cX1_passOne 81 = .ok (.iload_n 1, 1) := by decide +kernel
theorem dX1_passOne_82 : decode cX1_passOne 82 = .ok (.dup2, 1) := by decide +kernel
theorem dX1_passOne_83 : decode cX1_passOne 83 = .ok (.iaload, 1) := by decide +kernel
theorem dX1_passOne_84 : decode cX1_passOne 84 = .ok (.iconst 1, 1) := by decide +kernel
theorem dX1_passOne_85 : decode cX1_passOne 85 = .ok (.isub, 1) := by decide +kernel
theorem dX1_passOne_86 : decode cX1_passOne 86 = .ok (.iastore, 1) := by decide +kernel
theorem dX1_passOne_87 : decode cX1_passOne 87 = .ok (.aload_n 0, 1) := by decide +kernel
theorem dX1_passOne_88 : decode cX1_passOne 88 = .ok (.getfield 37, 3) := by decide +kernel
theorem dX1_passOne_91 : decode cX1_passOne 91 = .ok (.iload_n 1, 1) := by decide +kernel
theorem dX1_passOne_92 : decode cX1_passOne 92 = .ok (.aload_n 0, 1) := by decide +kernel
theorem dX1_passOne_93 : decode cX1_passOne 93 = .ok (.getfield 40, 3) := by decide +kernel
theorem dX1_passOne_96 : decode cX1_passOne 96 = .ok (.iload_n 1, 1) := by decide +kernel
theorem dX1_passOne_97 : decode cX1_passOne 97 = .ok (.iaload, 1) := by decide +kernel
theorem dX1_passOne_98 : decode cX1_passOne 98 = .ok (.ifCond .ne 7, 3) := by decide +kernel
theorem dX1_passOne_101 : decode cX1_passOne 101 = .ok (.iconst (-1), 1) := by decide +kernel
theorem dX1_passOne_102 : decode cX1_passOne 102 = .ok (.goto 4, 3) := by decide +kernel
theorem dX1_passOne_105 : decode cX1_passOne 105 = .ok (.iload_n 2, 1) := by decide +kernel
theorem dX1_passOne_106 : decode cX1_passOne 106 = .ok (.iastore, 1) := by decide +kernel
theorem dX1_passOne_107 : decode cX1_passOne 107 = .ok (.iinc 1 1, 3) := by decide +kernel
theorem dX1_passOne_110 : decode cX1_passOne 110 = .ok (.goto (-98), 3) := by decide +kernel
theorem dX1_passOne_113 : decode cX1_passOne 113 = .ok (.return_, 1) := by decide +kernel
theorem dX1_pass_0 : decode cX1_pass 0 = .ok (.aload_n 0, 1) := by decide +kernel
theorem dX1_pass_1 : decode cX1_pass 1 = .ok (.iload_n 1, 1) := by decide +kernel
theorem dX1_pass_2 : decode cX1_pass 2 = .ok (.iconst 1, 1) := by decide +kernel
theorem dX1_pass_3 : decode cX1_pass 3 = .ok (.bipush 100, 2) := by decide +kernel
theorem dX1_pass_5 : decode cX1_pass 5 = .ok (.invokestatic 62, 3) := by decide +kernel
theorem dX1_pass_8 : decode cX1_pass 8 = .ok (.ifCond .ne 7, 3) := by decide +kernel
theorem dX1_pass_11 : decode cX1_pass 11 = .ok (.iconst 1, 1) := by decide +kernel
theorem dX1_pass_12 : decode cX1_pass 12 = .ok (.goto 20, 3) := by decide +kernel
theorem dX1_pass_15 : decode cX1_pass 15 = .ok (.aload_n 0, 1) := by decide +kernel
theorem dX1_pass_16 : decode cX1_pass 16 = .ok (.getfield 113, 3) := by decide +kernel
theorem dX1_pass_19 : decode cX1_pass 19 = .ok (.iload_n 1, 1) := by decide +kernel
theorem dX1_pass_20 : decode cX1_pass 20 = .ok (.iadd, 1) := by decide +kernel
theorem dX1_pass_21 : decode cX1_pass 21 = .ok (.sipush 5000, 3) := by decide +kernel
theorem dX1_pass_24 : decode cX1_pass 24 = .ok (.if_icmp .le 7, 3) := by decide +kernel
theorem dX1_pass_27 : decode cX1_pass 27 = .ok (.iconst 2, 1) := by decide +kernel
theorem dX1_pass_28 : decode cX1_pass 28 = .ok (.goto 4, 3) := by decide +kernel
theorem dX1_pass_31 : decode cX1_pass 31 = .ok (.iconst 0, 1) := by decide +kernel
theorem dX1_pass_32 : decode cX1_pass 32 = .ok (.putfield 58, 3) := by decide +kernel
theorem dX1_pass_35 : decode cX1_pass 35 = .ok (.aload_n 0, 1) := by decide +kernel
theorem dX1_pass_36 : decode cX1_pass 36 = .ok (.getfield 58, 3) := by decide +kernel
theorem dX1_pass_39 : decode cX1_pass 39 = .ok (.ifCond .le 5, 3) := by decide +kernel
theorem dX1_pass_42 : decode cX1_pass 42 = .ok (.iconst 0, 1) := by decide +kernel
theorem dX1_pass_43 : decode cX1_pass 43 = .ok (.ireturn, 1) := by decide +kernel
theorem dX1_pass_44 : decode cX1_pass 44 = .ok (.iconst 0, 1) := by decide +kernel
theorem dX1_pass_45 : decode cX1_pass 45 = .ok (.istore_n 2, 1) := by decide +kernel
theorem dX1_pass_46 : decode cX1_pass 46 = .ok (.iload_n 2, 1) := by decide +kernel
theorem dX1_pass_47 : decode cX1_pass 47 = .ok (.iload_n 1, 1) := by decide +kernel
theorem dX1_pass_48 : decode cX1_pass 48 = .ok (.if_icmp .ge 13, 3) := by decide +kernel
theorem dX1_pass_51 : decode cX1_pass 51 = .ok (.aload_n 0, 1) := by decide +kernel
theorem dX1_pass_52 : decode cX1_pass 52 = .ok (.invokevirtual 116, 3) := by decide +kernel
theorem dX1_pass_55 : decode cX1_pass 55 = .ok (.iinc 2 1, 3) := by decide +kernel
theorem dX1_pass_58 : decode cX1_pass 58 = .ok (.goto (-12), 3) := by decide +kernel
theorem dX1_pass_61 : decode cX1_pass 61 = .ok (.aload_n 0, 1) := by decide +kernel
theorem dX1_pass_62 : decode cX1_pass 62 = .ok (.getfield 113, 3) := by decide +kernel
theorem dX1_pass_65 : decode cX1_pass 65 = .ok (.ireturn, 1) := by decide +kernel
theorem dX1_left_0 : decode cX1_left 0 = .ok (.aload_n 0, 1) := by decide +kernel
theorem dX1_left_1 : decode cX1_left 1 = .ok (.aload_n 0, 1) := by decide +kernel
theorem dX1_left_2 : decode cX1_left 2 = .ok (.iload_n 1, 1) := by decide +kernel
theorem dX1_left_3 : decode cX1_left 3 = .ok (.invokevirtual 85, 3) := by decide +kernel
theorem dX1_left_6 : decode cX1_left 6 = .ok (.ifCond .eq 7, 3) := by decide +kernel
theorem dX1_left_9 : decode cX1_left 9 = .ok (.iconst 0, 1) := by decide +kernel
theorem dX1_left_10 : decode cX1_left 10 = .ok (.goto 4, 3) := by decide +kernel
theorem dX1_left_13 : decode cX1_left 13 = .ok (.iconst 1, 1) := by decide +kernel
theorem dX1_left_14 : decode cX1_left 14 = .ok (.putfield 58, 3) := by decide +kernel
theorem dX1_left_17 : decode cX1_left 17 = .ok (.aload_n 0, 1) := by decide +kernel
theorem dX1_left_18 : decode cX1_left 18 = .ok (.getfield 58, 3) := by decide +kernel
theorem dX1_left_21 : decode cX1_left 21 = .ok (.ifCond .le 7, 3) := by decide +kernel
theorem dX1_left_24 : decode cX1_left 24 = .ok (.iconst 0, 1) := by decide +kernel
theorem dX1_left_25 : decode cX1_left 25 = .ok (.goto 9, 3) := by decide +kernel
theorem dX1_left_28 : decode cX1_left 28 = .ok (.aload_n 0, 1) := by decide +kernel
theorem dX1_left_29 : decode cX1_left 29 = .ok (.getfield 16, 3) := by decide +kernel
theorem dX1_left_32 : decode cX1_left 32 = .ok (.iload_n 1, 1) := by decide +kernel
theorem dX1_left_33 : decode cX1_left 33 = .ok (.iaload, 1) := by decide +kernel
theorem dX1_left_34 : decode cX1_left 34 = .ok (.ireturn, 1) := by decide +kernel
theorem dX1_has_0 : decode cX1_has 0 = .ok (.aload_n 0, 1) := by decide +kernel
theorem dX1_has_1 : decode cX1_has 1 = .ok (.aload_n 0, 1) := by decide +kernel
theorem dX1_has_2 : decode cX1_has 2 = .ok (.iload_n 1, 1) := by decide +kernel
theorem dX1_has_3 : decode cX1_has 3 = .ok (.invokevirtual 81, 3) := by decide +kernel
theorem dX1_has_6 : decode cX1_has 6 = .ok (.ifCond .eq 20, 3) := by decide +kernel
theorem dX1_has_9 : decode cX1_has 9 = .ok (.iload_n 2, 1) := by decide +kernel
theorem dX1_has_10 : decode cX1_has 10 = .ok (.iconst (-1), 1) := by decide +kernel
theorem dX1_has_11 : decode cX1_has 11 = .ok (.if_icmp .eq 11, 3) := by decide +kernel
theorem dX1_has_14 : decode cX1_has 14 = .ok (.aload_n 0, 1) := by decide +kernel
theorem dX1_has_15 : decode cX1_has 15 = .ok (.iload_n 2, 1) := by decide +kernel
theorem dX1_has_16 : decode cX1_has 16 = .ok (.invokevirtual 85, 3) := by decide +kernel
theorem dX1_has_19 : decode cX1_has 19 = .ok (.ifCond .eq 7, 3) := by decide +kernel
theorem dX1_has_22 : decode cX1_has 22 = .ok (.iconst 0, 1) := by decide +kernel
theorem dX1_has_23 : decode cX1_has 23 = .ok (.goto 4, 3) := by decide +kernel
theorem dX1_has_26 : decode cX1_has 26 = .ok (.iconst 1, 1) := by decide +kernel
theorem dX1_has_27 : decode cX1_has 27 = .ok (.putfield 58, 3) := by decide +kernel
theorem dX1_has_30 : decode cX1_has 30 = .ok (.aload_n 0, 1) := by decide +kernel
theorem dX1_has_31 : decode cX1_has 31 = .ok (.getfield 58, 3) := by decide +kernel
theorem dX1_has_34 : decode cX1_has 34 = .ok (.ifCond .le 5, 3) := by decide +kernel
theorem dX1_has_37 : decode cX1_has 37 = .ok (.iconst 0, 1) := by decide +kernel
theorem dX1_has_38 : decode cX1_has 38 = .ok (.ireturn, 1) := by decide +kernel
theorem dX1_has_39 : decode cX1_has 39 = .ok (.iload_n 2, 1) := by decide +kernel
theorem dX1_has_40 : decode cX1_has 40 = .ok (.iconst (-1), 1) := by decide +kernel
theorem dX1_has_41 : decode cX1_has 41 = .ok (.if_icmp .ne 11, 3) := by decide +kernel
theorem dX1_has_44 : decode cX1_has 44 = .ok (.aload_n 0, 1) := by decide +kernel
theorem dX1_has_45 : decode cX1_has 45 = .ok (.iload_n 1, 1) := by decide +kernel
theorem dX1_has_46 : decode cX1_has 46 = .ok (.invokevirtual 88, 3) := by decide +kernel
theorem dX1_has_49 : decode cX1_has 49 = .ok (.goto 14, 3) := by decide +kernel
theorem dX1_has_52 : decode cX1_has 52 = .ok (.aload_n 0, 1) := by decide +kernel
theorem dX1_has_53 : decode cX1_has 53 = .ok (.getfield 22, 3) := by decide +kernel
theorem dX1_has_56 : decode cX1_has 56 = .ok (.bipush 12, 2) := by decide +kernel
theorem dX1_has_58 : decode cX1_has 58 = .ok (.iload_n 1, 1) := by decide +kernel
theorem dX1_has_59 : decode cX1_has 59 = .ok (.imul, 1) := by decide +kernel
theorem dX1_has_60 : decode cX1_has 60 = .ok (.iload_n 2, 1) := by decide +kernel
theorem dX1_has_61 : decode cX1_has 61 = .ok (.iadd, 1) := by decide +kernel
theorem dX1_has_62 : decode cX1_has 62 = .ok (.iaload, 1) := by decide +kernel
theorem dX1_has_63 : decode cX1_has 63 = .ok (.ireturn, 1) := by decide +kernel
theorem dX1_colour_0 : decode cX1_colour 0 = .ok (.aload_n 0, 1) := by decide +kernel
theorem dX1_colour_1 : decode cX1_colour 1 = .ok (.aload_n 0, 1) := by decide +kernel
theorem dX1_colour_2 : decode cX1_colour 2 = .ok (.iload_n 1, 1) := by decide +kernel
theorem dX1_colour_3 : decode cX1_colour 3 = .ok (.invokevirtual 81, 3) := by decide +kernel
theorem dX1_colour_6 : decode cX1_colour 6 = .ok (.ifCond .ne 7, 3) := by decide +kernel
theorem dX1_colour_9 : decode cX1_colour 9 = .ok (.iconst 1, 1) := by decide +kernel
theorem dX1_colour_10 : decode cX1_colour 10 = .ok (.goto 17, 3) := by decide +kernel
theorem dX1_colour_13 : decode cX1_colour 13 = .ok (.iload_n 2, 1) := by decide +kernel
theorem dX1_colour_14 : decode cX1_colour 14 = .ok (.iconst 0, 1) := by decide +kernel
theorem dX1_colour_15 : decode cX1_colour 15 = .ok (.iconst 2, 1) := by decide +kernel
theorem dX1_colour_16 : decode cX1_colour 16 = .ok (.invokestatic 62, 3) := by decide +kernel
theorem dX1_colour_19 : decode cX1_colour 19 = .ok (.ifCond .ne 7, 3) := by decide +kernel
theorem dX1_colour_22 : decode cX1_colour 22 = .ok (.iconst 2, 1) := by decide +kernel
theorem dX1_colour_23 : decode cX1_colour 23 = .ok (.goto 4, 3) := by decide +kernel
theorem dX1_colour_26 : decode cX1_colour 26 = .ok (.iconst 0, 1) := by decide +kernel
theorem dX1_colour_27 : decode cX1_colour 27 = .ok (.putfield 58, 3) := by decide +kernel
theorem dX1_colour_30 : decode cX1_colour 30 = .ok (.aload_n 0, 1) := by decide +kernel
theorem dX1_colour_31 : decode cX1_colour 31 = .ok (.getfield 58, 3) := by decide +kernel
theorem dX1_colour_34 : decode cX1_colour 34 = .ok (.ifCond .le 5, 3) := by decide +kernel
theorem dX1_colour_37 : decode cX1_colour 37 = .ok (.iconst 0, 1) := by decide +kernel
theorem dX1_colour_38 : decode cX1_colour 38 = .ok (.ireturn, 1) := by decide +kernel
theorem dX1_colour_39 : decode cX1_colour 39 = .ok (.aload_n 0, 1) := by decide +kernel
theorem dX1_colour_40 : decode cX1_colour 40 = .ok (.iload_n 1, 1) := by decide +kernel
theorem dX1_colour_41 : decode cX1_colour 41 = .ok (.invokevirtual 88, 3) := by decide +kernel
theorem dX1_colour_44 : decode cX1_colour 44 = .ok (.istore_n 3, 1) := by decide +kernel
theorem dX1_colour_45 : decode cX1_colour 45 = .ok (.iconst 0, 1) := by decide +kernel
theorem dX1_colour_46 : decode cX1_colour 46 = .ok (.istore 4, 2) := by decide +kernel
theorem dX1_colour_48 : decode cX1_colour 48 = .ok (.iconst 0, 1) := by decide +kernel
theorem dX1_colour_49 : decode cX1_colour 49 = .ok (.istore 5, 2) := by decide +kernel
theorem dX1_colour_51 : decode cX1_colour 51 = .ok (.iload 5, 2) := by decide +kernel
theorem dX1_colour_53 : decode cX1_colour 53 = .ok (.aload_n 0, 1) := by decide +kernel
theorem dX1_colour_54 : decode cX1_colour 54 = .ok (.getfield 66, 3) := by decide +kernel
theorem dX1_colour_57 : decode cX1_colour 57 = .ok (.if_icmp .ge 43, 3) := by decide +kernel
theorem dX1_colour_60 : decode cX1_colour 60 = .ok (.iload 4, 2) := by decide +kernel
theorem dX1_colour_62 : decode cX1_colour 62 = .ok (.aload_n 0, 1) := by decide +kernel
theorem dX1_colour_63 : decode cX1_colour 63 = .ok (.getfield 22, 3) := by decide +kernel
theorem dX1_colour_66 : decode cX1_colour 66 = .ok (.bipush 12, 2) := by decide +kernel
theorem dX1_colour_68 : decode cX1_colour 68 = .ok (.iload_n 1, 1) := by decide +kernel
theorem dX1_colour_69 : decode cX1_colour 69 = .ok (.imul, 1) := by decide +kernel
theorem dX1_colour_70 : decode cX1_colour 70 = .ok (.iload 5, 2) := by decide +kernel
theorem dX1_colour_72 : decode cX1_colour 72 = .ok (.iadd, 1) := by decide +kernel
theorem dX1_colour_73 : decode cX1_colour 73 = .ok (.iaload, 1) := by decide +kernel
theorem dX1_colour_74 : decode cX1_colour 74 = .ok (.aload_n 0, 1) := by decide +kernel
theorem dX1_colour_75 : decode cX1_colour 75 = .ok (.getfield 7, 3) := by decide +kernel
theorem dX1_colour_78 : decode cX1_colour 78 = .ok (.iconst 3, 1) := by decide +kernel
theorem dX1_colour_79 : decode cX1_colour 79 = .ok (.aload_n 0, 1) := by decide +kernel
theorem dX1_colour_80 : decode cX1_colour 80 = .ok (.getfield 13, 3) := by decide +kernel
theorem dX1_colour_83 : decode cX1_colour 83 = .ok (.iload 5, 2) := by decide +kernel
theorem dX1_colour_85 : decode cX1_colour 85 = .ok (.iaload, 1) := by decide +kernel
theorem dX1_colour_86 : decode cX1_colour 86 = .ok (.imul, 1) := by decide +kernel
theorem dX1_colour_87 : decode cX1_colour 87 = .ok (.iload_n 2, 1) := by decide +kernel
theorem dX1_colour_88 : decode cX1_colour 88 = .ok (.iadd, 1) := by decide +kernel
theorem dX1_colour_89 : decode cX1_colour 89 = .ok (.iaload, 1) := by decide +kernel
theorem dX1_colour_90 : decode cX1_colour 90 = .ok (.imul, 1) := by decide +kernel
theorem dX1_colour_91 : decode cX1_colour 91 = .ok (.iadd, 1) := by decide +kernel
theorem dX1_colour_92 : decode cX1_colour 92 = .ok (.istore 4, 2) := by decide +kernel
theorem dX1_colour_94 : decode cX1_colour 94 = .ok (.iinc 5 1, 3) := by decide +kernel
theorem dX1_colour_97 : decode cX1_colour 97 = .ok (.goto (-46), 3) := by decide +kernel
theorem dX1_colour_100 : decode cX1_colour 100 = .ok (.iload_n 3, 1) := by decide +kernel
theorem dX1_colour_101 : decode cX1_colour 101 = .ok (.ifCond .ne 7, 3) := by decide +kernel
theorem dX1_colour_104 : decode cX1_colour 104 = .ok (.iconst (-1), 1) := by decide +kernel
theorem dX1_colour_105 : decode cX1_colour 105 = .ok (.goto 7, 3) := by decide +kernel
theorem dX1_colour_108 : decode cX1_colour 108 = .ok (.iload 4, 2) := by decide +kernel
theorem dX1_colour_110 : decode cX1_colour 110 = .ok (.iload_n 3, 1) := by decide +kernel
theorem dX1_colour_111 : decode cX1_colour 111 = .ok (.idiv, 1) := by decide +kernel
theorem dX1_colour_112 : decode cX1_colour 112 = .ok (.ireturn, 1) := by decide +kernel
theorem dX1_of_0 : decode cX1_of 0 = .ok (.aload_n 0, 1) := by decide +kernel
theorem dX1_of_1 : decode cX1_of 1 = .ok (.aload_n 0, 1) := by decide +kernel
theorem dX1_of_2 : decode cX1_of 2 = .ok (.iload_n 1, 1) := by decide +kernel
theorem dX1_of_3 : decode cX1_of 3 = .ok (.invokevirtual 96, 3) := by decide +kernel
theorem dX1_of_6 : decode cX1_of 6 = .ok (.ifCond .ne 7, 3) := by decide +kernel
theorem dX1_of_9 : decode cX1_of 9 = .ok (.iconst 1, 1) := by decide +kernel
theorem dX1_of_10 : decode cX1_of 10 = .ok (.goto 18, 3) := by decide +kernel
theorem dX1_of_13 : decode cX1_of 13 = .ok (.iload_n 2, 1) := by decide +kernel
theorem dX1_of_14 : decode cX1_of 14 = .ok (.iconst 0, 1) := by decide +kernel
theorem dX1_of_15 : decode cX1_of 15 = .ok (.bipush 8, 2) := by decide +kernel
theorem dX1_of_17 : decode cX1_of 17 = .ok (.invokestatic 62, 3) := by decide +kernel
theorem dX1_of_20 : decode cX1_of 20 = .ok (.ifCond .ne 7, 3) := by decide +kernel
theorem dX1_of_23 : decode cX1_of 23 = .ok (.iconst 2, 1) := by decide +kernel
theorem dX1_of_24 : decode cX1_of 24 = .ok (.goto 4, 3) := by decide +kernel
theorem dX1_of_27 : decode cX1_of 27 = .ok (.iconst 0, 1) := by decide +kernel
theorem dX1_of_28 : decode cX1_of 28 = .ok (.putfield 58, 3) := by decide +kernel
theorem dX1_of_31 : decode cX1_of 31 = .ok (.aload_n 0, 1) := by decide +kernel
theorem dX1_of_32 : decode cX1_of 32 = .ok (.getfield 58, 3) := by decide +kernel
theorem dX1_of_35 : decode cX1_of 35 = .ok (.ifCond .le 5, 3) := by decide +kernel
theorem dX1_of_38 : decode cX1_of 38 = .ok (.iconst 0, 1) := by decide +kernel
theorem dX1_of_39 : decode cX1_of 39 = .ok (.ireturn, 1) := by decide +kernel
theorem dX1_of_40 : decode cX1_of 40 = .ok (.iload_n 2, 1) := by decide +kernel
theorem dX1_of_41 : decode cX1_of 41 = .ok (.tableswitch 79 0 5 #[39, 46, 53, 59, 65, 72], 39) := by decide +kernel
theorem dX1_of_80 : decode cX1_of 80 = .ok (.aload_n 0, 1) := by decide +kernel
theorem dX1_of_81 : decode cX1_of 81 = .ok (.getfield 25, 3) := by decide +kernel
theorem dX1_of_84 : decode cX1_of 84 = .ok (.iload_n 1, 1) := by decide +kernel
theorem dX1_of_85 : decode cX1_of 85 = .ok (.iaload, 1) := by decide +kernel
theorem dX1_of_86 : decode cX1_of 86 = .ok (.ireturn, 1) := by decide +kernel
theorem dX1_of_87 : decode cX1_of 87 = .ok (.aload_n 0, 1) := by decide +kernel
theorem dX1_of_88 : decode cX1_of 88 = .ok (.getfield 31, 3) := by decide +kernel
theorem dX1_of_91 : decode cX1_of 91 = .ok (.iload_n 1, 1) := by decide +kernel
theorem dX1_of_92 : decode cX1_of 92 = .ok (.iaload, 1) := by decide +kernel
theorem dX1_of_93 : decode cX1_of 93 = .ok (.ireturn, 1) := by decide +kernel
theorem dX1_of_94 : decode cX1_of 94 = .ok (.aload_n 0, 1) := by decide +kernel
theorem dX1_of_95 : decode cX1_of 95 = .ok (.iload_n 1, 1) := by decide +kernel
theorem dX1_of_96 : decode cX1_of 96 = .ok (.invokevirtual 109, 3) := by decide +kernel
theorem dX1_of_99 : decode cX1_of 99 = .ok (.ireturn, 1) := by decide +kernel
theorem dX1_of_100 : decode cX1_of 100 = .ok (.aload_n 0, 1) := by decide +kernel
theorem dX1_of_101 : decode cX1_of 101 = .ok (.iload_n 1, 1) := by decide +kernel
theorem dX1_of_102 : decode cX1_of 102 = .ok (.invokevirtual 103, 3) := by decide +kernel
theorem dX1_of_105 : decode cX1_of 105 = .ok (.ireturn, 1) := by decide +kernel
theorem dX1_of_106 : decode cX1_of 106 = .ok (.aload_n 0, 1) := by decide +kernel
theorem dX1_of_107 : decode cX1_of 107 = .ok (.getfield 37, 3) := by decide +kernel
theorem dX1_of_110 : decode cX1_of 110 = .ok (.iload_n 1, 1) := by decide +kernel
theorem dX1_of_111 : decode cX1_of 111 = .ok (.iaload, 1) := by decide +kernel
theorem dX1_of_112 : decode cX1_of 112 = .ok (.ireturn, 1) := by decide +kernel
theorem dX1_of_113 : decode cX1_of 113 = .ok (.aload_n 0, 1) := by decide +kernel
theorem dX1_of_114 : decode cX1_of 114 = .ok (.getfield 40, 3) := by decide +kernel
theorem dX1_of_117 : decode cX1_of 117 = .ok (.iload_n 1, 1) := by decide +kernel
theorem dX1_of_118 : decode cX1_of 118 = .ok (.iaload, 1) := by decide +kernel
theorem dX1_of_119 : decode cX1_of 119 = .ok (.ireturn, 1) := by decide +kernel
theorem dX1_of_120 : decode cX1_of 120 = .ok (.aload_n 0, 1) := by decide +kernel
theorem dX1_of_121 : decode cX1_of 121 = .ok (.iload_n 1, 1) := by decide +kernel
theorem dX1_of_122 : decode cX1_of 122 = .ok (.iload_n 2, 1) := by decide +kernel
theorem dX1_of_123 : decode cX1_of 123 = .ok (.bipush 6, 2) := by decide +kernel
theorem dX1_of_125 : decode cX1_of 125 = .ok (.isub, 1) := by decide +kernel
theorem dX1_of_126 : decode cX1_of 126 = .ok (.invokevirtual 119, 3) := by decide +kernel
theorem dX1_of_129 : decode cX1_of 129 = .ok (.ireturn, 1) := by decide +kernel
theorem dX1_layer_0 : decode cX1_layer 0 = .ok (.aload_n 0, 1) := by decide +kernel
theorem dX1_layer_1 : decode cX1_layer 1 = .ok (.aload_n 0, 1) := by decide +kernel
theorem dX1_layer_2 : decode cX1_layer 2 = .ok (.iload_n 1, 1) := by decide +kernel
theorem dX1_layer_3 : decode cX1_layer 3 = .ok (.invokevirtual 96, 3) := by decide +kernel
theorem dX1_layer_6 : decode cX1_layer 6 = .ok (.ifCond .eq 31, 3) := by decide +kernel
theorem dX1_layer_9 : decode cX1_layer 9 = .ok (.iload_n 2, 1) := by decide +kernel
theorem dX1_layer_10 : decode cX1_layer 10 = .ok (.iconst 0, 1) := by decide +kernel
theorem dX1_layer_11 : decode cX1_layer 11 = .ok (.aload_n 0, 1) := by decide +kernel
theorem dX1_layer_12 : decode cX1_layer 12 = .ok (.getfield 25, 3) := by decide +kernel
theorem dX1_layer_15 : decode cX1_layer 15 = .ok (.iload_n 1, 1) := by decide +kernel
theorem dX1_layer_16 : decode cX1_layer 16 = .ok (.iaload, 1) := by decide +kernel
theorem dX1_layer_17 : decode cX1_layer 17 = .ok (.iconst 1, 1) := by decide +kernel
theorem dX1_layer_18 : decode cX1_layer 18 = .ok (.isub, 1) := by decide +kernel
theorem dX1_layer_19 : decode cX1_layer 19 = .ok (.invokestatic 62, 3) := by decide +kernel
theorem dX1_layer_22 : decode cX1_layer 22 = .ok (.ifCond .eq 15, 3) := by decide +kernel
theorem dX1_layer_25 : decode cX1_layer 25 = .ok (.aload_n 0, 1) := by decide +kernel
theorem dX1_layer_26 : decode cX1_layer 26 = .ok (.iload_n 3, 1) := by decide +kernel
theorem dX1_layer_27 : decode cX1_layer 27 = .ok (.invokevirtual 85, 3) := by decide +kernel
theorem dX1_layer_30 : decode cX1_layer 30 = .ok (.ifCond .eq 7, 3) := by decide +kernel
theorem dX1_layer_33 : decode cX1_layer 33 = .ok (.iconst 0, 1) := by decide +kernel
theorem dX1_layer_34 : decode cX1_layer 34 = .ok (.goto 4, 3) := by decide +kernel
theorem dX1_layer_37 : decode cX1_layer 37 = .ok (.iconst 1, 1) := by decide +kernel
theorem dX1_layer_38 : decode cX1_layer 38 = .ok (.putfield 58, 3) := by decide +kernel
theorem dX1_layer_41 : decode cX1_layer 41 = .ok (.aload_n 0, 1) := by decide +kernel
theorem dX1_layer_42 : decode cX1_layer 42 = .ok (.getfield 58, 3) := by decide +kernel
theorem dX1_layer_45 : decode cX1_layer 45 = .ok (.ifCond .le 7, 3) := by decide +kernel
theorem dX1_layer_48 : decode cX1_layer 48 = .ok (.iconst 0, 1) := by decide +kernel
theorem dX1_layer_49 : decode cX1_layer 49 = .ok (.goto 15, 3) := by decide +kernel
theorem dX1_layer_52 : decode cX1_layer 52 = .ok (.aload_n 0, 1) := by decide +kernel
theorem dX1_layer_53 : decode cX1_layer 53 = .ok (.getfield 28, 3) := by decide +kernel
theorem dX1_layer_56 : decode cX1_layer 56 = .ok (.iload_n 1, 1) := by decide +kernel
theorem dX1_layer_57 : decode cX1_layer 57 = .ok (.iload_n 2, 1) := by decide +kernel
theorem dX1_layer_58 : decode cX1_layer 58 = .ok (.invokestatic 99, 3) := by decide +kernel
theorem dX1_layer_61 : decode cX1_layer 61 = .ok (.iload_n 3, 1) := by decide +kernel
theorem dX1_layer_62 : decode cX1_layer 62 = .ok (.iadd, 1) := by decide +kernel
theorem dX1_layer_63 : decode cX1_layer 63 = .ok (.iaload, 1) := by decide +kernel
theorem dX1_layer_64 : decode cX1_layer 64 = .ok (.ireturn, 1) := by decide +kernel
theorem dX1_onPictures_0 : decode cX1_onPictures 0 = .ok (.iconst 0, 1) := by decide +kernel
theorem dX1_onPictures_1 : decode cX1_onPictures 1 = .ok (.istore_n 2, 1) := by decide +kernel
theorem dX1_onPictures_2 : decode cX1_onPictures 2 = .ok (.iconst 0, 1) := by decide +kernel
theorem dX1_onPictures_3 : decode cX1_onPictures 3 = .ok (.istore_n 3, 1) := by decide +kernel
theorem dX1_onPictures_4 : decode cX1_onPictures 4 = .ok (.iload_n 3, 1) := by decide +kernel
theorem dX1_onPictures_5 : decode cX1_onPictures 5 = .ok (.bipush 96, 2) := by decide +kernel
theorem dX1_onPictures_7 : decode cX1_onPictures 7 = .ok (.if_icmp .ge 23, 3) := by decide +kernel
theorem dX1_onPictures_10 : decode cX1_onPictures 10 = .ok (.iload_n 2, 1) := by decide +kernel
theorem dX1_onPictures_11 : decode cX1_onPictures 11 = .ok (.aload_n 0, 1) := by decide +kernel
theorem dX1_onPictures_12 : decode cX1_onPictures 12 = .ok (.getfield 28, 3) := by decide +kernel
theorem dX1_onPictures_15 : decode cX1_onPictures 15 = .ok (.bipush 12, 2) := by decide +kernel
theorem dX1_onPictures_17 : decode cX1_onPictures 17 = .ok (.iload_n 3, 1) := by decide +kernel
theorem dX1_onPictures_18 : decode cX1_onPictures 18 = .ok (.imul, 1) := by decide +kernel
theorem dX1_onPictures_19 : decode cX1_onPictures 19 = .ok (.iload_n 1, 1) := by decide +kernel
theorem dX1_onPictures_20 : decode cX1_onPictures 20 = .ok (.iadd, 1) := by decide +kernel
theorem dX1_onPictures_21 : decode cX1_onPictures 21 = .ok (.iaload, 1) := by decide +kernel
theorem dX1_onPictures_22 : decode cX1_onPictures 22 = .ok (.iadd, 1) := by decide +kernel
theorem dX1_onPictures_23 : decode cX1_onPictures 23 = .ok (.istore_n 2, 1) := by decide +kernel
theorem dX1_onPictures_24 : decode cX1_onPictures 24 = .ok (.iinc 3 1, 3) := by decide +kernel
theorem dX1_onPictures_27 : decode cX1_onPictures 27 = .ok (.goto (-23), 3) := by decide +kernel
theorem dX1_onPictures_30 : decode cX1_onPictures 30 = .ok (.iload_n 2, 1) := by decide +kernel
theorem dX1_onPictures_31 : decode cX1_onPictures 31 = .ok (.ireturn, 1) := by decide +kernel
theorem dX1_inPots_0 : decode cX1_inPots 0 = .ok (.iconst 0, 1) := by decide +kernel
theorem dX1_inPots_1 : decode cX1_inPots 1 = .ok (.istore_n 2, 1) := by decide +kernel
theorem dX1_inPots_2 : decode cX1_inPots 2 = .ok (.iconst 0, 1) := by decide +kernel
theorem dX1_inPots_3 : decode cX1_inPots 3 = .ok (.istore_n 3, 1) := by decide +kernel
theorem dX1_inPots_4 : decode cX1_inPots 4 = .ok (.iload_n 3, 1) := by decide +kernel
theorem dX1_inPots_5 : decode cX1_inPots 5 = .ok (.aload_n 0, 1) := by decide +kernel
theorem dX1_inPots_6 : decode cX1_inPots 6 = .ok (.getfield 69, 3) := by decide +kernel
theorem dX1_inPots_9 : decode cX1_inPots 9 = .ok (.if_icmp .ge 23, 3) := by decide +kernel
theorem dX1_inPots_12 : decode cX1_inPots 12 = .ok (.iload_n 2, 1) := by decide +kernel
theorem dX1_inPots_13 : decode cX1_inPots 13 = .ok (.aload_n 0, 1) := by decide +kernel
theorem dX1_inPots_14 : decode cX1_inPots 14 = .ok (.getfield 22, 3) := by decide +kernel
theorem dX1_inPots_17 : decode cX1_inPots 17 = .ok (.bipush 12, 2) := by decide +kernel
theorem dX1_inPots_19 : decode cX1_inPots 19 = .ok (.iload_n 3, 1) := by decide +kernel
theorem dX1_inPots_20 : decode cX1_inPots 20 = .ok (.imul, 1) := by decide +kernel
theorem dX1_inPots_21 : decode cX1_inPots 21 = .ok (.iload_n 1, 1) := by decide +kernel
theorem dX1_inPots_22 : decode cX1_inPots 22 = .ok (.iadd, 1) := by decide +kernel
theorem dX1_inPots_23 : decode cX1_inPots 23 = .ok (.iaload, 1) := by decide +kernel
theorem dX1_inPots_24 : decode cX1_inPots 24 = .ok (.iadd, 1) := by decide +kernel
theorem dX1_inPots_25 : decode cX1_inPots 25 = .ok (.istore_n 2, 1) := by decide +kernel
theorem dX1_inPots_26 : decode cX1_inPots 26 = .ok (.iinc 3 1, 3) := by decide +kernel
theorem dX1_inPots_29 : decode cX1_inPots 29 = .ok (.goto (-25), 3) := by decide +kernel
theorem dX1_inPots_32 : decode cX1_inPots 32 = .ok (.iload_n 2, 1) := by decide +kernel
theorem dX1_inPots_33 : decode cX1_inPots 33 = .ok (.ireturn, 1) := by decide +kernel
theorem dX1_where_0 : decode cX1_where 0 = .ok (.aload_n 0, 1) := by decide +kernel
theorem dX1_where_1 : decode cX1_where 1 = .ok (.aload_n 0, 1) := by decide +kernel
theorem dX1_where_2 : decode cX1_where 2 = .ok (.iload_n 1, 1) := by decide +kernel
theorem dX1_where_3 : decode cX1_where 3 = .ok (.invokevirtual 85, 3) := by decide +kernel
theorem dX1_where_6 : decode cX1_where 6 = .ok (.ifCond .ne 7, 3) := by decide +kernel
theorem dX1_where_9 : decode cX1_where 9 = .ok (.iconst 1, 1) := by decide +kernel
theorem dX1_where_10 : decode cX1_where 10 = .ok (.goto 17, 3) := by decide +kernel
theorem dX1_where_13 : decode cX1_where 13 = .ok (.iload_n 2, 1) := by decide +kernel
theorem dX1_where_14 : decode cX1_where 14 = .ok (.iconst 0, 1) := by decide +kernel
theorem dX1_where_15 : decode cX1_where 15 = .ok (.iconst 3, 1) := by decide +kernel
theorem dX1_where_16 : decode cX1_where 16 = .ok (.invokestatic 62, 3) := by decide +kernel
theorem dX1_where_19 : decode cX1_where 19 = .ok (.ifCond .ne 7, 3) := by decide +kernel
theorem dX1_where_22 : decode cX1_where 22 = .ok (.iconst 2, 1) := by decide +kernel
theorem dX1_where_23 : decode cX1_where 23 = .ok (.goto 4, 3) := by decide +kernel
theorem dX1_where_26 : decode cX1_where 26 = .ok (.iconst 0, 1) := by decide +kernel
theorem dX1_where_27 : decode cX1_where 27 = .ok (.putfield 58, 3) := by decide +kernel
theorem dX1_where_30 : decode cX1_where 30 = .ok (.aload_n 0, 1) := by decide +kernel
theorem dX1_where_31 : decode cX1_where 31 = .ok (.getfield 58, 3) := by decide +kernel
theorem dX1_where_34 : decode cX1_where 34 = .ok (.ifCond .le 5, 3) := by decide +kernel
theorem dX1_where_37 : decode cX1_where 37 = .ok (.iconst 0, 1) := by decide +kernel
theorem dX1_where_38 : decode cX1_where 38 = .ok (.ireturn, 1) := by decide +kernel
theorem dX1_where_39 : decode cX1_where 39 = .ok (.iload_n 2, 1) := by decide +kernel
theorem dX1_where_40 : decode cX1_where 40 = .ok (.ifCond .ne 12, 3) := by decide +kernel
theorem dX1_where_43 : decode cX1_where 43 = .ok (.aload_n 0, 1) := by decide +kernel
theorem dX1_where_44 : decode cX1_where 44 = .ok (.getfield 16, 3) := by decide +kernel
theorem dX1_where_47 : decode cX1_where 47 = .ok (.iload_n 1, 1) := by decide +kernel
theorem dX1_where_48 : decode cX1_where 48 = .ok (.iaload, 1) := by decide +kernel
theorem dX1_where_49 : decode cX1_where 49 = .ok (.goto 35, 3) := by decide +kernel
theorem dX1_where_52 : decode cX1_where 52 = .ok (.iload_n 2, 1) := by decide +kernel
theorem dX1_where_53 : decode cX1_where 53 = .ok (.iconst 1, 1) := by decide +kernel
theorem dX1_where_54 : decode cX1_where 54 = .ok (.if_icmp .ne 11, 3) := by decide +kernel
theorem dX1_where_57 : decode cX1_where 57 = .ok (.aload_n 0, 1) := by decide +kernel
theorem dX1_where_58 : decode cX1_where 58 = .ok (.iload_n 1, 1) := by decide +kernel
theorem dX1_where_59 : decode cX1_where 59 = .ok (.invokevirtual 122, 3) := by decide +kernel
theorem dX1_where_62 : decode cX1_where 62 = .ok (.goto 22, 3) := by decide +kernel
theorem dX1_where_65 : decode cX1_where 65 = .ok (.iload_n 2, 1) := by decide +kernel
theorem dX1_where_66 : decode cX1_where 66 = .ok (.iconst 2, 1) := by decide +kernel
theorem dX1_where_67 : decode cX1_where 67 = .ok (.if_icmp .ne 11, 3) := by decide +kernel
theorem dX1_where_70 : decode cX1_where 70 = .ok (.aload_n 0, 1) := by decide +kernel
theorem dX1_where_71 : decode cX1_where 71 = .ok (.iload_n 1, 1) := by decide +kernel
theorem dX1_where_72 : decode cX1_where 72 = .ok (.invokevirtual 125, 3) := by decide +kernel
theorem dX1_where_75 : decode cX1_where 75 = .ok (.goto 9, 3) := by decide +kernel
theorem dX1_where_78 : decode cX1_where 78 = .ok (.aload_n 0, 1) := by decide +kernel
theorem dX1_where_79 : decode cX1_where 79 = .ok (.getfield 19, 3) := by decide +kernel
theorem dX1_where_82 : decode cX1_where 82 = .ok (.iload_n 1, 1) := by decide +kernel
theorem dX1_where_83 : decode cX1_where 83 = .ok (.iaload, 1) := by decide +kernel
theorem dX1_where_84 : decode cX1_where 84 = .ok (.ireturn, 1) := by decide +kernel
theorem dX1_far_0 : decode cX1_far 0 = .ok (.iload_n 3, 1) := by decide +kernel
theorem dX1_far_1 : decode cX1_far 1 = .ok (.aload_n 0, 1) := by decide +kernel
theorem dX1_far_2 : decode cX1_far 2 = .ok (.getfield 7, 3) := by decide +kernel
theorem dX1_far_5 : decode cX1_far 5 = .ok (.iconst 3, 1) := by decide +kernel
theorem dX1_far_6 : decode cX1_far 6 = .ok (.aload_n 0, 1) := by decide +kernel
theorem dX1_far_7 : decode cX1_far 7 = .ok (.getfield 13, 3) := by decide +kernel
theorem dX1_far_10 : decode cX1_far 10 = .ok (.iload_n 1, 1) := by decide +kernel
theorem dX1_far_11 : decode cX1_far 11 = .ok (.iaload, 1) := by decide +kernel
theorem dX1_far_12 : decode cX1_far 12 = .ok (.imul, 1) := by decide +kernel
theorem dX1_far_13 : decode cX1_far 13 = .ok (.iload 4, 2) := by decide +kernel
theorem dX1_far_15 : decode cX1_far 15 = .ok (.iadd, 1) := by decide +kernel
theorem dX1_far_16 : decode cX1_far 16 = .ok (.iaload, 1) := by decide +kernel
theorem dX1_far_17 : decode cX1_far 17 = .ok (.imul, 1) := by decide +kernel
theorem dX1_far_18 : decode cX1_far 18 = .ok (.iconst 4, 1) := by decide +kernel
theorem dX1_far_19 : decode cX1_far 19 = .ok (.iload_n 3, 1) := by decide +kernel
theorem dX1_far_20 : decode cX1_far 20 = .ok (.isub, 1) := by decide +kernel
theorem dX1_far_21 : decode cX1_far 21 = .ok (.aload_n 0, 1) := by decide +kernel
theorem dX1_far_22 : decode cX1_far 22 = .ok (.getfield 7, 3) := by decide +kernel
theorem dX1_far_25 : decode cX1_far 25 = .ok (.iconst 3, 1) := by decide +kernel
theorem dX1_far_26 : decode cX1_far 26 = .ok (.aload_n 0, 1) := by decide +kernel
theorem dX1_far_27 : decode cX1_far 27 = .ok (.getfield 13, 3) := by decide +kernel
theorem dX1_far_30 : decode cX1_far 30 = .ok (.iload_n 2, 1) := by decide +kernel
theorem dX1_far_31 : decode cX1_far 31 = .ok (.iaload, 1) := by decide +kernel
theorem dX1_far_32 : decode cX1_far 32 = .ok (.imul, 1) := by decide +kernel
theorem dX1_far_33 : decode cX1_far 33 = .ok (.iload 4, 2) := by decide +kernel
theorem dX1_far_35 : decode cX1_far 35 = .ok (.iadd, 1) := by decide +kernel
theorem dX1_far_36 : decode cX1_far 36 = .ok (.iaload, 1) := by decide +kernel
theorem dX1_far_37 : decode cX1_far 37 = .ok (.imul, 1) := by decide +kernel
theorem dX1_far_38 : decode cX1_far 38 = .ok (.iadd, 1) := by decide +kernel
theorem dX1_far_39 : decode cX1_far 39 = .ok (.iconst 4, 1) := by decide +kernel
theorem dX1_far_40 : decode cX1_far 40 = .ok (.idiv, 1) := by decide +kernel
theorem dX1_far_41 : decode cX1_far 41 = .ok (.iload 5, 2) := by decide +kernel
theorem dX1_far_43 : decode cX1_far 43 = .ok (.isub, 1) := by decide +kernel
theorem dX1_far_44 : decode cX1_far 44 = .ok (.istore 6, 2) := by decide +kernel
theorem dX1_far_46 : decode cX1_far 46 = .ok (.iload 6, 2) := by decide +kernel
theorem dX1_far_48 : decode cX1_far 48 = .ok (.iload 6, 2) := by decide +kernel
theorem dX1_far_50 : decode cX1_far 50 = .ok (.imul, 1) := by decide +kernel
theorem dX1_far_51 : decode cX1_far 51 = .ok (.ireturn, 1) := by decide +kernel
theorem dX1_recipe_0 : decode cX1_recipe 0 = .ok (.aload_n 0, 1) := by decide +kernel
theorem dX1_recipe_1 : decode cX1_recipe 1 = .ok (.iload_n 1, 1) := by decide +kernel
theorem dX1_recipe_2 : decode cX1_recipe 2 = .ok (.iload_n 2, 1) := by decide +kernel
theorem dX1_recipe_3 : decode cX1_recipe 3 = .ok (.iload_n 3, 1) := by decide +kernel
theorem dX1_recipe_4 : decode cX1_recipe 4 = .ok (.invokestatic 75, 3) := by decide +kernel
theorem dX1_recipe_7 : decode cX1_recipe 7 = .ok (.ifCond .eq 7, 3) := by decide +kernel
theorem dX1_recipe_10 : decode cX1_recipe 10 = .ok (.iconst 0, 1) := by decide +kernel
theorem dX1_recipe_11 : decode cX1_recipe 11 = .ok (.goto 4, 3) := by decide +kernel
theorem dX1_recipe_14 : decode cX1_recipe 14 = .ok (.iconst 1, 1) := by decide +kernel
theorem dX1_recipe_15 : decode cX1_recipe 15 = .ok (.putfield 58, 3) := by decide +kernel
theorem dX1_recipe_18 : decode cX1_recipe 18 = .ok (.iconst (-1), 1) := by decide +kernel
theorem dX1_recipe_19 : decode cX1_recipe 19 = .ok (.istore 4, 2) := by decide +kernel
theorem dX1_recipe_21 : decode cX1_recipe 21 = .ok (.iconst 0, 1) := by decide +kernel
theorem dX1_recipe_22 : decode cX1_recipe 22 = .ok (.istore 5, 2) := by decide +kernel
theorem dX1_recipe_24 : decode cX1_recipe 24 = .ok (.iconst 0, 1) := by decide +kernel
theorem dX1_recipe_25 : decode cX1_recipe 25 = .ok (.istore 6, 2) := by decide +kernel
theorem dX1_recipe_27 : decode cX1_recipe 27 = .ok (.iload 6, 2) := by decide +kernel
theorem dX1_recipe_29 : decode cX1_recipe 29 = .ok (.aload_n 0, 1) := by decide +kernel
theorem dX1_recipe_30 : decode cX1_recipe 30 = .ok (.getfield 66, 3) := by decide +kernel
theorem dX1_recipe_33 : decode cX1_recipe 33 = .ok (.if_icmp .ge 144, 3) := by decide +kernel
theorem dX1_recipe_36 : decode cX1_recipe 36 = .ok (.aload_n 0, 1) := by decide +kernel
theorem dX1_recipe_37 : decode cX1_recipe 37 = .ok (.getfield 58, 3) := by decide +kernel
theorem dX1_recipe_40 : decode cX1_recipe 40 = .ok (.ifCond .ne 137, 3) := by decide +kernel
theorem dX1_recipe_43 : decode cX1_recipe 43 = .ok (.iload 6, 2) := by decide +kernel
theorem dX1_recipe_45 : decode cX1_recipe 45 = .ok (.istore 7, 2) := by decide +kernel
theorem dX1_recipe_47 : decode cX1_recipe 47 = .ok (.iload 7, 2) := by decide +kernel
theorem dX1_recipe_49 : decode cX1_recipe 49 = .ok (.aload_n 0, 1) := by decide +kernel
theorem dX1_recipe_50 : decode cX1_recipe 50 = .ok (.getfield 66, 3) := by decide +kernel
theorem dX1_recipe_53 : decode cX1_recipe 53 = .ok (.if_icmp .ge 118, 3) := by decide +kernel
theorem dX1_recipe_56 : decode cX1_recipe 56 = .ok (.iconst 0, 1) := by decide +kernel
theorem dX1_recipe_57 : decode cX1_recipe 57 = .ok (.istore 8, 2) := by decide +kernel
theorem dX1_recipe_59 : decode cX1_recipe 59 = .ok (.iload 8, 2) := by decide +kernel
theorem dX1_recipe_61 : decode cX1_recipe 61 = .ok (.iconst 5, 1) := by decide +kernel
theorem dX1_recipe_62 : decode cX1_recipe 62 = .ok (.if_icmp .ge 103, 3) := by decide +kernel
theorem dX1_recipe_65 : decode cX1_recipe 65 = .ok (.aload_n 0, 1) := by decide +kernel
theorem dX1_recipe_66 : decode cX1_recipe 66 = .ok (.getfield 16, 3) := by decide +kernel
theorem dX1_recipe_69 : decode cX1_recipe 69 = .ok (.iload 6, 2) := by decide +kernel
theorem dX1_recipe_71 : decode cX1_recipe 71 = .ok (.iaload, 1) := by decide +kernel
theorem dX1_recipe_72 : decode cX1_recipe 72 = .ok (.ifCond .le 93, 3) := by decide +kernel
theorem dX1_recipe_75 : decode cX1_recipe 75 = .ok (.aload_n 0, 1) := by decide +kernel
theorem dX1_recipe_76 : decode cX1_recipe 76 = .ok (.getfield 16, 3) := by decide +kernel
theorem dX1_recipe_79 : decode cX1_recipe 79 = .ok (.iload 7, 2) := by decide +kernel
theorem dX1_recipe_81 : decode cX1_recipe 81 = .ok (.iaload, 1) := by decide +kernel
theorem dX1_recipe_82 : decode cX1_recipe 82 = .ok (.ifCond .le 83, 3) := by decide +kernel
theorem dX1_recipe_85 : decode cX1_recipe 85 = .ok (.aload_n 0, 1) := by decide +kernel
theorem dX1_recipe_86 : decode cX1_recipe 86 = .ok (.iload 6, 2) := by decide +kernel
theorem dX1_recipe_88 : decode cX1_recipe 88 = .ok (.iload 7, 2) := by decide +kernel
theorem dX1_recipe_90 : decode cX1_recipe 90 = .ok (.iload 8, 2) := by decide +kernel
theorem dX1_recipe_92 : decode cX1_recipe 92 = .ok (.iconst 0, 1) := by decide +kernel
theorem dX1_recipe_93 : decode cX1_recipe 93 = .ok (.iload_n 1, 1) := by decide +kernel
theorem dX1_recipe_94 : decode cX1_recipe 94 = .ok (.invokevirtual 128, 3) := by decide +kernel
theorem dX1_recipe_97 : decode cX1_recipe 97 = .ok (.aload_n 0, 1) := by decide +kernel
theorem dX1_recipe_98 : decode cX1_recipe 98 = .ok (.iload 6, 2) := by decide +kernel
theorem dX1_recipe_100 : decode cX1_recipe 100 = .ok (.iload 7, 2) := by decide +kernel
theorem dX1_recipe_102 : decode cX1_recipe 102 = .ok (.iload 8, 2) := by decide +kernel
theorem dX1_recipe_104 : decode cX1_recipe 104 = .ok (.iconst 1, 1) := by decide +kernel
theorem dX1_recipe_105 : decode cX1_recipe 105 = .ok (.iload_n 2, 1) := by decide +kernel
theorem dX1_recipe_106 : decode cX1_recipe 106 = .ok (.invokevirtual 128, 3) := by decide +kernel
theorem dX1_recipe_109 : decode cX1_recipe 109 = .ok (.iadd, 1) := by decide +kernel
theorem dX1_recipe_110 : decode cX1_recipe 110 = .ok (.aload_n 0, 1) := by decide +kernel
theorem dX1_recipe_111 : decode cX1_recipe 111 = .ok (.iload 6, 2) := by decide +kernel
theorem dX1_recipe_113 : decode cX1_recipe 113 = .ok (.iload 7, 2) := by decide +kernel
theorem dX1_recipe_115 : decode cX1_recipe 115 = .ok (.iload 8, 2) := by decide +kernel
theorem dX1_recipe_117 : decode cX1_recipe 117 = .ok (.iconst 2, 1) := by decide +kernel
theorem dX1_recipe_118 : decode cX1_recipe 118 = .ok (.iload_n 3, 1) := by decide +kernel
theorem dX1_recipe_119 : decode cX1_recipe 119 = .ok (.invokevirtual 128, 3) := by decide +kernel
theorem dX1_recipe_122 : decode cX1_recipe 122 = .ok (.iadd, 1) := by decide +kernel
theorem dX1_recipe_123 : decode cX1_recipe 123 = .ok (.istore 9, 2) := by decide +kernel
theorem dX1_recipe_125 : decode cX1_recipe 125 = .ok (.iload 4, 2) := by decide +kernel
theorem dX1_recipe_127 : decode cX1_recipe 127 = .ok (.iconst (-1), 1) := by decide +kernel
theorem dX1_recipe_128 : decode cX1_recipe 128 = .ok (.if_icmp .eq 10, 3) := by decide +kernel
theorem dX1_recipe_131 : decode cX1_recipe 131 = .ok (.iload 9, 2) := by decide +kernel
theorem dX1_recipe_133 : decode cX1_recipe 133 = .ok (.iload 5, 2) := by decide +kernel
theorem dX1_recipe_135 : decode cX1_recipe 135 = .ok (.if_icmp .ge 24, 3) := by decide +kernel
theorem dX1_recipe_138 : decode cX1_recipe 138 = .ok (.sipush 1000, 3) := by decide +kernel
theorem dX1_recipe_141 : decode cX1_recipe 141 = .ok (.iload 6, 2) := by decide +kernel
theorem dX1_recipe_143 : decode cX1_recipe 143 = .ok (.imul, 1) := by decide +kernel
theorem dX1_recipe_144 : decode cX1_recipe 144 = .ok (.bipush 10, 2) := by decide +kernel
theorem dX1_recipe_146 : decode cX1_recipe 146 = .ok (.iload 7, 2) := by decide +kernel
theorem dX1_recipe_148 : decode cX1_recipe 148 = .ok (.imul, 1) := by decide +kernel
theorem dX1_recipe_149 : decode cX1_recipe 149 = .ok (.iadd, 1) := by decide +kernel
theorem dX1_recipe_150 : decode cX1_recipe 150 = .ok (.iload 8, 2) := by decide +kernel
theorem dX1_recipe_152 : decode cX1_recipe 152 = .ok (.iadd, 1) := by decide +kernel
theorem dX1_recipe_153 : decode cX1_recipe 153 = .ok (.istore 4, 2) := by decide +kernel
theorem dX1_recipe_155 : decode cX1_recipe 155 = .ok (.iload 9, 2) := by decide +kernel
theorem dX1_recipe_157 : decode cX1_recipe 157 = .ok (.istore 5, 2) := by decide +kernel
theorem dX1_recipe_159 : decode cX1_recipe 159 = .ok (.iinc 8 1, 3) := by decide +kernel
theorem dX1_recipe_162 : decode cX1_recipe 162 = .ok (.goto (-103), 3) := by decide +kernel
theorem dX1_recipe_165 : decode cX1_recipe 165 = .ok (.iinc 7 1, 3) := by decide +kernel
theorem dX1_recipe_168 : decode cX1_recipe 168 = .ok (.goto (-121), 3) := by decide +kernel
theorem dX1_recipe_171 : decode cX1_recipe 171 = .ok (.iinc 6 1, 3) := by decide +kernel
theorem dX1_recipe_174 : decode cX1_recipe 174 = .ok (.goto (-147), 3) := by decide +kernel
theorem dX1_recipe_177 : decode cX1_recipe 177 = .ok (.aload_n 0, 1) := by decide +kernel
theorem dX1_recipe_178 : decode cX1_recipe 178 = .ok (.getfield 58, 3) := by decide +kernel
theorem dX1_recipe_181 : decode cX1_recipe 181 = .ok (.ifCond .le 7, 3) := by decide +kernel
theorem dX1_recipe_184 : decode cX1_recipe 184 = .ok (.iconst 0, 1) := by decide +kernel
theorem dX1_recipe_185 : decode cX1_recipe 185 = .ok (.goto 5, 3) := by decide +kernel
theorem dX1_recipe_188 : decode cX1_recipe 188 = .ok (.iload 4, 2) := by decide +kernel
theorem dX1_recipe_190 : decode cX1_recipe 190 = .ok (.ireturn, 1) := by decide +kernel
theorem dX1_paid_0 : decode cX1_paid 0 = .ok (.aload_n 0, 1) := by decide +kernel
theorem dX1_paid_1 : decode cX1_paid 1 = .ok (.iload_n 1, 1) := by decide +kernel
theorem dX1_paid_2 : decode cX1_paid 2 = .ok (.invokestatic 106, 3) := by decide +kernel
theorem dX1_paid_5 : decode cX1_paid 5 = .ok (.ifCond .eq 7, 3) := by decide +kernel
theorem dX1_paid_8 : decode cX1_paid 8 = .ok (.iconst 0, 1) := by decide +kernel
theorem dX1_paid_9 : decode cX1_paid 9 = .ok (.goto 4, 3) := by decide +kernel
theorem dX1_paid_12 : decode cX1_paid 12 = .ok (.iconst 1, 1) := by decide +kernel
theorem dX1_paid_13 : decode cX1_paid 13 = .ok (.putfield 58, 3) := by decide +kernel
theorem dX1_paid_16 : decode cX1_paid 16 = .ok (.aload_n 0, 1) := by decide +kernel
theorem dX1_paid_17 : decode cX1_paid 17 = .ok (.getfield 58, 3) := by decide +kernel
theorem dX1_paid_20 : decode cX1_paid 20 = .ok (.ifCond .le 7, 3) := by decide +kernel
theorem dX1_paid_23 : decode cX1_paid 23 = .ok (.iconst 0, 1) := by decide +kernel
theorem dX1_paid_24 : decode cX1_paid 24 = .ok (.goto 9, 3) := by decide +kernel
theorem dX1_paid_27 : decode cX1_paid 27 = .ok (.aload_n 0, 1) := by decide +kernel
theorem dX1_paid_28 : decode cX1_paid 28 = .ok (.getfield 49, 3) := by decide +kernel
theorem dX1_paid_31 : decode cX1_paid 31 = .ok (.iload_n 1, 1) := by decide +kernel
theorem dX1_paid_32 : decode cX1_paid 32 = .ok (.iaload, 1) := by decide +kernel
theorem dX1_paid_33 : decode cX1_paid 33 = .ok (.ireturn, 1) := by decide +kernel
end
section
/-- the texts of the class's exceptions, by their places in its table -/
def xeStr : List (Nat × String) := [(56, "no more pigments"), (71, "no more tubes"), (76, "no more pots"), (78, "the tube has not so much"), (90, "the pots are the same"), (97, "the pot has not so much"), (108, "no more pictures"), (114, "no more layers"), (119, "the picture has not so many layers"), (121, "the picture has too many cracks"), (127, "the picture has no layer"), (132, "the book ends before that day"), (163, "there is no such number"), (166, "out of range"), (168, "the picture is lent")]
/-! The walk's own judgement over the kit's W: worlds, locals and stack as data; one kind of contract (returns or throws) for all methods. -/
def iM (n : String) : MethodName := Bundle.initS n
abbrev xeN : List String := ["java/lang/RuntimeException", "java/lang/Exception"]
abbrev eISE : String := "java/lang/IllegalStateException"
abbrev eIAE : String := "java/lang/IllegalArgumentException"
abbrev eIOB : String := "java/lang/IndexOutOfBoundsException"
def xeB : List Cond := [.declares (iM "java/lang/RuntimeException"), .declares (iM "java/lang/Exception"), .declares (iM Bundle.tN), .castable eISE eISE, .castable eIAE eIAE, .castable eIOB eIOB]
theorem xeB_tab : ∀ w ∈ xeB, w.onTables = true := by decide +kernel
theorem xeB_warm {s U : State} (hW : s.WarmedH U.vm) : ∀ w ∈ xeB, va_Nw w s → va_Nw w U := by
  intro w hw h
  simp only [xeB, List.mem_cons, List.not_mem_nil, or_false] at hw
  rcases hw with rfl | rfl | rfl | rfl | rfl | rfl
  · exact va_Nw.warmD hW h
  · exact va_Nw.warmD hW h
  · exact va_Nw.warmD hW h
  · exact va_Nw.warmC hW h
  · exact va_Nw.warmC hW h
  · exact va_Nw.warmC hW h
/-- what a throw and a catch need beside the method's words -/
def XE (A : Nat → Prop) (U : State) : Prop :=
  vx_Zq Bundle.tN "UNASSIGNED_STACK" Bundle.steD A U U.heap ∧ vx_Zq Bundle.tN "SUPPRESSED_SENTINEL" Bundle.listD A U U.heap ∧ (∀ q ∈ xeStr, ∃ a, vk_R RX0 q.1 q.2 a U) ∧ (∀ w ∈ xeB, va_Nw w U) ∧ va_Nc eIAE eIOB U ∧ va_Nc eISE eIOB U ∧ va_Nc eISE eIAE U
theorem XE.to {A B : Nat → Prop} {s U : State} {H : Heap} {locs : List Loc} (hX : XE A s) (hS : va_S A s.heap H locs) (hU : U.heap = H) (hW : s.WarmedH U.vm) (hAB : ∀ q, B q → A q) : XE B U := by
  obtain ⟨h1, h2, h3, h4, h5, h6, h7⟩ := hX
  refine ⟨?_, ?_, fun q hq => ?_, fun w hw => xeB_warm hW w hw (h4 w hw), h5.moved hW.alike, h6.moved hW.alike, h7.moved hW.alike⟩
  · rw [hU]; exact vx_Zq.moved hW.alike ((h1.kept hS.2.1).narrow hAB)
  · rw [hU]; exact vx_Zq.moved hW.alike ((h2.kept hS.2.1).narrow hAB)
  · obtain ⟨a, ha⟩ := h3 q hq
    exact ⟨a, vk_R.warm hW ha⟩
theorem XE.same {A : Nat → Prop} {u U : State} (hX : XE A u) (hv : U.vm = u.vm) (hh : U.heap = u.heap) : XE A U := by
  obtain ⟨h1, h2, h3, h4, h5, h6, h7⟩ := hX
  have hal : u.vm.Alike U.vm := by rw [hv]; exact Vm.Alike.refl _
  refine ⟨?_, ?_, fun q hq => ?_, fun w hw => va_Nw.same (xeB_tab w hw) hv.symm (h4 w hw), h5.moved hal, h6.moved hal, h7.moved hal⟩
  · rw [hh]; exact vx_Zq.moved hal h1
  · rw [hh]; exact vx_Zq.moved hal h2
  · obtain ⟨a, ha⟩ := h3 q hq
    exact ⟨a, vk_R.same hv ha⟩
-- contracts
def mP (D : va_G) (TY : List (ClassId × FieldType)) (w : va_W) (av : List Value) (sz : Nat) : Array Value → State → Prop := fun a U => a = av.toArray ∧ U.heap.size = sz ∧ va_P D vwCl w U.heap ∧ va_K D vwCl TY U ∧ va_D (fun _ => True) w ∧ XE (va_A w sz) U
def mQ (D : va_G) (w w' : va_W) (ex : Option String) (rv : Option Value) (sz : Nat) : Array Value → State → Outcome → State → Prop := fun _ st o t => (o = .returned rv ∧ ex = none ∧ va_P D vwCl w' t.heap) ∧ va_F (va_A w sz) st t
def mX (D : va_G) (w : va_W) (ex : Option String) (sz : Nat) : String → State → State → Prop := fun E st t => (ex = some E ∧ va_P D vwCl w t.heap) ∧ va_F (va_A w sz) st t
/-- method y, called with av in the world w, returns rv with the world w' (ex none), or throws ex with the world w; n cells of 6 slots are new at most -/
def MC (l : Launch) (y : MethodName) (ws : List Cond) (fr lo : Nat) (D : va_G) (TY : List (ClassId × FieldType)) (av : List Value) (w w' : va_W) (ex : Option String) (rv : Option Value) (n : Nat) : Prop :=
  ∀ sz : Nat, vx_Met l y ws { frames := fr, cells := n, slots := 6 * n, locals := lo } (mP D TY w av sz) (mQ D w w' ex rv sz) (mX D w ex sz) n (6 * n) (va_A w sz)
theorem mP_blind {D : va_G} {TY : List (ClassId × FieldType)} {w : va_W} {av : List Value} {sz : Nat} : FrameBlind (mP D TY w av sz) := by
  intro a U g mk h
  obtain ⟨h1, h2, h3, h4, h5, h6⟩ := h
  exact ⟨h1, h2, h3, va_K.moved (u := U) (U := U.calling g mk a) (Vm.Alike.refl U.vm) h4, h5, XE.same (u := U) h6 rfl rfl⟩
section GJ
variable {p : Program} {l : Launch} {e : Env} {R : Room} {s : State} {m : MethodId} {args : Array Value} {below : List Frame} {meth : Method} {c : Code}
variable {cc : ByteArray} {nL : Nat} {own : String} {Ts : List Cond} {D : va_G} {TY : List (ClassId × FieldType)} {A : Nat → Prop}
variable {k j : Nat} {Q : State → Prop} {w : va_W} {lv : List (Nat × Value)} {pc : Nat} {st rest : List Value}
/-- what stays the same in a method's walk -/
def gC (p : Program) (s : State) (m : MethodId) (args : Array Value) (meth : Method) (c : Code) (cc : ByteArray) (nL : Nat) (own : String) (Ts : List Cond) (D : va_G) (TY : List (ClassId × FieldType)) (A : Nat → Prop) : Prop :=
  p.tables.exec = Jvm.exec ∧ c.code = cc ∧ c.maxLocals = nL ∧ s.vm.findClass own = some m.cls ∧ (∀ w ∈ Ts, w.before args s = true) ∧ va_K D vwCl TY s ∧ (∀ q : Nat, s.heap.size ≤ q → A q) ∧ meth.locks = false ∧ XE A s
/-- the machine, at pc, in the world w with the locals lv and the stack st, comes to Q -/
def G (p : Program) (l : Launch) (e : Env) (R : Room) (s : State) (m : MethodId) (args : Array Value) (below : List Frame) (meth : Method) (c : Code) (D : va_G) (A : Nat → Prop) (nL k j : Nat) (Q : State → Prop) (w : va_W) (lv : List (Nat × Value)) (pc : Nat) (st : List Value) : Prop :=
  ∀ (H : Heap) (locs : List Loc) (ls : Array Slot), va_P D vwCl w H → va_D A w → va_S A s.heap H locs → lv_has ls nL lv → W p l e R s m args below meth c H locs k j Q (F0 m pc ls st)
theorem g_iconst {n : Int} (v : Int32) (C : gC p s m args meth c cc nL own Ts D TY A) (hd : decode cc pc = .ok (.iconst n, 1)) (hv : Int32.ofInt n = v) (K : G p l e R s m args below meth c D A nL k j Q w lv (pc + 1) (.int v :: st)) : G p l e R s m args below meth c D A nL k j Q w lv pc st :=
  fun H locs ls hP hD hS hl => lv_iconst C.1 C.2.1 hd hv (K H locs ls hP hD hS hl)
theorem g_bipush {n : Int} (v : Int32) (C : gC p s m args meth c cc nL own Ts D TY A) (hd : decode cc pc = .ok (.bipush n, 2)) (hv : (Int8.ofInt n).toInt32 = v) (K : G p l e R s m args below meth c D A nL k j Q w lv (pc + 2) (.int v :: st)) : G p l e R s m args below meth c D A nL k j Q w lv pc st :=
  fun H locs ls hP hD hS hl => lv_bipush C.1 C.2.1 hd hv (K H locs ls hP hD hS hl)
theorem g_sipush {n : Int} (v : Int32) (C : gC p s m args meth c cc nL own Ts D TY A) (hd : decode cc pc = .ok (.sipush n, 3)) (hv : (Int16.ofInt n).toInt32 = v) (K : G p l e R s m args below meth c D A nL k j Q w lv (pc + 3) (.int v :: st)) : G p l e R s m args below meth c D A nL k j Q w lv pc st :=
  fun H locs ls hP hD hS hl => lv_sipush C.1 C.2.1 hd hv (K H locs ls hP hD hS hl)
theorem g_ldc {ix : Nat} (v : Int32) (C : gC p s m args meth c cc nL own Ts D TY A) (hc : Cond.constant own ix v ∈ Ts) (hd : decode cc pc = .ok (.ldc ix, 2)) (K : G p l e R s m args below meth c D A nL k j Q w lv (pc + 2) (.int v :: st)) : G p l e R s m args below meth c D A nL k j Q w lv pc st :=
  fun H locs ls hP hD hS hl => lv_ldc C.1 C.2.1 C.2.2.2.1 (C.2.2.2.2.1 _ hc) hd (K H locs ls hP hD hS hl)
theorem g_iload_n {f : Fin 4} {i : Nat} {x : Int32} (q : Nat) (C : gC p s m args meth c cc nL own Ts D TY A) (hj : lv[q]? = some (i, .int x)) (hd : decode cc pc = .ok (.iload_n f, 1)) (hi : (f : Nat) = i) (K : G p l e R s m args below meth c D A nL k j Q w lv (pc + 1) (.int x :: st)) : G p l e R s m args below meth c D A nL k j Q w lv pc st :=
  fun H locs ls hP hD hS hl => lv_iload_n C.1 C.2.1 hd hi (lv_at hl q hj) (K H locs ls hP hD hS hl)
theorem g_iload {i : Nat} {x : Int32} (q : Nat) (C : gC p s m args meth c cc nL own Ts D TY A) (hj : lv[q]? = some (i, .int x)) (hd : decode cc pc = .ok (.iload i, 2)) (K : G p l e R s m args below meth c D A nL k j Q w lv (pc + 2) (.int x :: st)) : G p l e R s m args below meth c D A nL k j Q w lv pc st :=
  fun H locs ls hP hD hS hl => lv_iload C.1 C.2.1 hd (lv_at hl q hj) (K H locs ls hP hD hS hl)
theorem g_aload_n {f : Fin 4} {i x : Nat} (q : Nat) (C : gC p s m args meth c cc nL own Ts D TY A) (hj : lv[q]? = some (i, .ref x)) (hd : decode cc pc = .ok (.aload_n f, 1)) (hi : (f : Nat) = i) (K : G p l e R s m args below meth c D A nL k j Q w lv (pc + 1) (.ref x :: st)) : G p l e R s m args below meth c D A nL k j Q w lv pc st :=
  fun H locs ls hP hD hS hl => lv_aload_n C.1 C.2.1 hd hi (lv_at hl q hj) (K H locs ls hP hD hS hl)
theorem g_aload {i x : Nat} (q : Nat) (C : gC p s m args meth c cc nL own Ts D TY A) (hj : lv[q]? = some (i, .ref x)) (hd : decode cc pc = .ok (.aload i, 2)) (K : G p l e R s m args below meth c D A nL k j Q w lv (pc + 2) (.ref x :: st)) : G p l e R s m args below meth c D A nL k j Q w lv pc st :=
  fun H locs ls hP hD hS hl => lv_aload C.1 C.2.1 hd (lv_at hl q hj) (K H locs ls hP hD hS hl)
theorem g_istore_n {f : Fin 4} {i : Nat} {x : Int32} (lv' : List (Nat × Value)) (C : gC p s m args meth c cc nL own Ts D TY A) (hd : decode cc pc = .ok (.istore_n f, 1)) (hi : (f : Nat) = i) (hn : i < nL) (hl : (i, Value.int x) :: lv.filter (fun q => !(q.1 == i) && !(q.1 + 1 == i && q.2.category == 2)) = lv') (K : G p l e R s m args below meth c D A nL k j Q w lv' (pc + 1) st) : G p l e R s m args below meth c D A nL k j Q w lv pc (.int x :: st) :=
  fun H locs _ hP hD hS hv => lv_istore_n C.1 C.2.1 hd hi hv hn hl (fun ls' hl' => K H locs ls' hP hD hS hl')
theorem g_istore {i : Nat} {x : Int32} (lv' : List (Nat × Value)) (C : gC p s m args meth c cc nL own Ts D TY A) (hd : decode cc pc = .ok (.istore i, 2)) (hn : i < nL) (hl : (i, Value.int x) :: lv.filter (fun q => !(q.1 == i) && !(q.1 + 1 == i && q.2.category == 2)) = lv') (K : G p l e R s m args below meth c D A nL k j Q w lv' (pc + 2) st) : G p l e R s m args below meth c D A nL k j Q w lv pc (.int x :: st) :=
  fun H locs _ hP hD hS hv => lv_istore C.1 C.2.1 hd hv hn hl (fun ls' hl' => K H locs ls' hP hD hS hl')
theorem g_astore_n {f : Fin 4} {i x : Nat} (lv' : List (Nat × Value)) (C : gC p s m args meth c cc nL own Ts D TY A) (hd : decode cc pc = .ok (.astore_n f, 1)) (hi : (f : Nat) = i) (hn : i < nL) (hl : (i, Value.ref x) :: lv.filter (fun q => !(q.1 == i) && !(q.1 + 1 == i && q.2.category == 2)) = lv') (K : G p l e R s m args below meth c D A nL k j Q w lv' (pc + 1) st) : G p l e R s m args below meth c D A nL k j Q w lv pc (.ref x :: st) :=
  fun H locs _ hP hD hS hv => lv_astore_n C.1 C.2.1 hd hi hv hn hl (fun ls' hl' => K H locs ls' hP hD hS hl')
theorem g_astore {i x : Nat} (lv' : List (Nat × Value)) (C : gC p s m args meth c cc nL own Ts D TY A) (hd : decode cc pc = .ok (.astore i, 2)) (hn : i < nL) (hl : (i, Value.ref x) :: lv.filter (fun q => !(q.1 == i) && !(q.1 + 1 == i && q.2.category == 2)) = lv') (K : G p l e R s m args below meth c D A nL k j Q w lv' (pc + 2) st) : G p l e R s m args below meth c D A nL k j Q w lv pc (.ref x :: st) :=
  fun H locs _ hP hD hS hv => lv_astore C.1 C.2.1 hd hv hn hl (fun ls' hl' => K H locs ls' hP hD hS hl')
theorem g_iinc {i : Nat} {n : Int} {x : Int32} (q : Nat) (v : Int32) (lv' : List (Nat × Value)) (C : gC p s m args meth c cc nL own Ts D TY A) (hd : decode cc pc = .ok (.iinc i n, 3)) (hj : lv[q]? = some (i, .int x)) (hv : x + Int32.ofInt n = v) (hn : i < nL) (hl : (i, Value.int v) :: lv.filter (fun q => !(q.1 == i) && !(q.1 + 1 == i && q.2.category == 2)) = lv') (K : G p l e R s m args below meth c D A nL k j Q w lv' (pc + 3) st) : G p l e R s m args below meth c D A nL k j Q w lv pc st :=
  fun H locs _ hP hD hS hh => lv_iinc (v := v) (lv' := lv') C.1 C.2.1 hd hh hj hv hn hl (fun ls' hl' => K H locs ls' hP hD hS hl')
theorem g_iadd {x y : Int32} (C : gC p s m args meth c cc nL own Ts D TY A) (hd : decode cc pc = .ok (.iadd, 1)) (K : G p l e R s m args below meth c D A nL k j Q w lv (pc + 1) (.int (x + y) :: st)) : G p l e R s m args below meth c D A nL k j Q w lv pc (.int y :: .int x :: st) :=
  fun H locs ls hP hD hS hl => lv_iadd C.1 C.2.1 hd (K H locs ls hP hD hS hl)
theorem g_isub {x y : Int32} (C : gC p s m args meth c cc nL own Ts D TY A) (hd : decode cc pc = .ok (.isub, 1)) (K : G p l e R s m args below meth c D A nL k j Q w lv (pc + 1) (.int (x - y) :: st)) : G p l e R s m args below meth c D A nL k j Q w lv pc (.int y :: .int x :: st) :=
  fun H locs ls hP hD hS hl => lv_isub C.1 C.2.1 hd (K H locs ls hP hD hS hl)
theorem g_imul {x y : Int32} (C : gC p s m args meth c cc nL own Ts D TY A) (hd : decode cc pc = .ok (.imul, 1)) (K : G p l e R s m args below meth c D A nL k j Q w lv (pc + 1) (.int (x * y) :: st)) : G p l e R s m args below meth c D A nL k j Q w lv pc (.int y :: .int x :: st) :=
  fun H locs ls hP hD hS hl => lv_imul C.1 C.2.1 hd (K H locs ls hP hD hS hl)
theorem g_iand {x y : Int32} (C : gC p s m args meth c cc nL own Ts D TY A) (hd : decode cc pc = .ok (.iand, 1)) (K : G p l e R s m args below meth c D A nL k j Q w lv (pc + 1) (.int (x &&& y) :: st)) : G p l e R s m args below meth c D A nL k j Q w lv pc (.int y :: .int x :: st) :=
  fun H locs ls hP hD hS hl => lv_iand C.1 C.2.1 hd (K H locs ls hP hD hS hl)
theorem g_idiv {x y : Int32} (C : gC p s m args meth c cc nL own Ts D TY A) (hne : ¬ y = 0) (hd : decode cc pc = .ok (.idiv, 1)) (K : G p l e R s m args below meth c D A nL k j Q w lv (pc + 1) (.int (x / y) :: st)) : G p l e R s m args below meth c D A nL k j Q w lv pc (.int y :: .int x :: st) :=
  fun H locs ls hP hD hS hl => lv_idiv C.1 C.2.1 hd hne (K H locs ls hP hD hS hl)
theorem g_ineg {x : Int32} (C : gC p s m args meth c cc nL own Ts D TY A) (hd : decode cc pc = .ok (.ineg, 1)) (K : G p l e R s m args below meth c D A nL k j Q w lv (pc + 1) (.int (-x) :: st)) : G p l e R s m args below meth c D A nL k j Q w lv pc (.int x :: st) :=
  fun H locs ls hP hD hS hl => lv_ineg C.1 C.2.1 hd (K H locs ls hP hD hS hl)
theorem g_i2l {x : Int32} (C : gC p s m args meth c cc nL own Ts D TY A) (hd : decode cc pc = .ok (.i2l, 1)) (K : G p l e R s m args below meth c D A nL k j Q w lv (pc + 1) (.long x.toInt64 :: st)) : G p l e R s m args below meth c D A nL k j Q w lv pc (.int x :: st) :=
  fun H locs ls hP hD hS hl => lv_i2l C.1 C.2.1 hd rfl (K H locs ls hP hD hS hl)
theorem g_lcmp {x y : Int64} (C : gC p s m args meth c cc nL own Ts D TY A) (hd : decode cc pc = .ok (.lcmp, 1)) (K : G p l e R s m args below meth c D A nL k j Q w lv (pc + 1) (.int (lg_cmp x y) :: st)) : G p l e R s m args below meth c D A nL k j Q w lv pc (.long y :: .long x :: st) :=
  fun H locs ls hP hD hS hl => W.lcmp C.1 C.2.1 hd (K H locs ls hP hD hS hl)
theorem g_dup {v : Value} (C : gC p s m args meth c cc nL own Ts D TY A) (hd : decode cc pc = .ok (.dup, 1)) (hv : v.category = 1) (K : G p l e R s m args below meth c D A nL k j Q w lv (pc + 1) (v :: v :: st)) : G p l e R s m args below meth c D A nL k j Q w lv pc (v :: st) :=
  fun H locs ls hP hD hS hl => lv_dup C.1 C.2.1 hd hv (K H locs ls hP hD hS hl)
theorem g_dup2 {v u : Value} (C : gC p s m args meth c cc nL own Ts D TY A) (hd : decode cc pc = .ok (.dup2, 1)) (hv : v.category = 1) (hu : u.category = 1) (K : G p l e R s m args below meth c D A nL k j Q w lv (pc + 1) (v :: u :: v :: u :: st)) : G p l e R s m args below meth c D A nL k j Q w lv pc (v :: u :: st) :=
  fun H locs ls hP hD hS hl => lv_dup2_11 C.1 C.2.1 hd hv hu (K H locs ls hP hD hS hl)
theorem g_goto {off : Int} (tgt : Nat) (C : gC p s m args meth c cc nL own Ts D TY A) (hd : decode cc pc = .ok (.goto off, 3)) (ht : (pc : Int) + off = (tgt : Int)) (K : G p l e R s m args below meth c D A nL k j Q w lv tgt st) : G p l e R s m args below meth c D A nL k j Q w lv pc st :=
  fun H locs ls hP hD hS hl => lv_goto C.1 C.2.1 hd ht (K H locs ls hP hD hS hl)
theorem g_if_eq {x : Int32} {off : Int} (tgt : Nat) (C : gC p s m args meth c cc nL own Ts D TY A) (hd : decode cc pc = .ok (.ifCond .eq off, 3)) (ht : (pc : Int) + off = (tgt : Int)) (K1 : x = 0 → G p l e R s m args below meth c D A nL k j Q w lv tgt st) (K2 : ¬ x = 0 → G p l e R s m args below meth c D A nL k j Q w lv (pc + 3) st) : G p l e R s m args below meth c D A nL k j Q w lv pc (.int x :: st) :=
  fun H locs ls hP hD hS hl => lv_if_eq C.1 C.2.1 hd ht (fun q => K1 q H locs ls hP hD hS hl) (fun q => K2 q H locs ls hP hD hS hl)
theorem g_if_ne {x : Int32} {off : Int} (tgt : Nat) (C : gC p s m args meth c cc nL own Ts D TY A) (hd : decode cc pc = .ok (.ifCond .ne off, 3)) (ht : (pc : Int) + off = (tgt : Int)) (K1 : ¬ x = 0 → G p l e R s m args below meth c D A nL k j Q w lv tgt st) (K2 : x = 0 → G p l e R s m args below meth c D A nL k j Q w lv (pc + 3) st) : G p l e R s m args below meth c D A nL k j Q w lv pc (.int x :: st) :=
  fun H locs ls hP hD hS hl => lv_if_ne C.1 C.2.1 hd ht (fun q => K1 q H locs ls hP hD hS hl) (fun q => K2 q H locs ls hP hD hS hl)
theorem g_if_le {x : Int32} {off : Int} (tgt : Nat) (C : gC p s m args meth c cc nL own Ts D TY A) (hd : decode cc pc = .ok (.ifCond .le off, 3)) (ht : (pc : Int) + off = (tgt : Int)) (K1 : x ≤ 0 → G p l e R s m args below meth c D A nL k j Q w lv tgt st) (K2 : ¬ x ≤ 0 → G p l e R s m args below meth c D A nL k j Q w lv (pc + 3) st) : G p l e R s m args below meth c D A nL k j Q w lv pc (.int x :: st) :=
  fun H locs ls hP hD hS hl => lv_if_le C.1 C.2.1 hd ht (fun q => K1 q H locs ls hP hD hS hl) (fun q => K2 q H locs ls hP hD hS hl)
theorem g_if_lt {x : Int32} {off : Int} (tgt : Nat) (C : gC p s m args meth c cc nL own Ts D TY A) (hd : decode cc pc = .ok (.ifCond .lt off, 3)) (ht : (pc : Int) + off = (tgt : Int)) (K1 : x < 0 → G p l e R s m args below meth c D A nL k j Q w lv tgt st) (K2 : ¬ x < 0 → G p l e R s m args below meth c D A nL k j Q w lv (pc + 3) st) : G p l e R s m args below meth c D A nL k j Q w lv pc (.int x :: st) :=
  fun H locs ls hP hD hS hl => lv_if_lt C.1 C.2.1 hd ht (fun q => K1 q H locs ls hP hD hS hl) (fun q => K2 q H locs ls hP hD hS hl)
theorem g_if_ge {x : Int32} {off : Int} (tgt : Nat) (C : gC p s m args meth c cc nL own Ts D TY A) (hd : decode cc pc = .ok (.ifCond .ge off, 3)) (ht : (pc : Int) + off = (tgt : Int)) (K1 : 0 ≤ x → G p l e R s m args below meth c D A nL k j Q w lv tgt st) (K2 : ¬ 0 ≤ x → G p l e R s m args below meth c D A nL k j Q w lv (pc + 3) st) : G p l e R s m args below meth c D A nL k j Q w lv pc (.int x :: st) :=
  fun H locs ls hP hD hS hl => lv_if_ge C.1 C.2.1 hd ht (fun q => K1 q H locs ls hP hD hS hl) (fun q => K2 q H locs ls hP hD hS hl)
theorem g_icmp_eq {x y : Int32} {off : Int} (tgt : Nat) (C : gC p s m args meth c cc nL own Ts D TY A) (hd : decode cc pc = .ok (.if_icmp .eq off, 3)) (ht : (pc : Int) + off = (tgt : Int)) (K1 : x = y → G p l e R s m args below meth c D A nL k j Q w lv tgt st) (K2 : ¬ x = y → G p l e R s m args below meth c D A nL k j Q w lv (pc + 3) st) : G p l e R s m args below meth c D A nL k j Q w lv pc (.int y :: .int x :: st) :=
  fun H locs ls hP hD hS hl => lv_icmp_eq C.1 C.2.1 hd ht (fun q => K1 q H locs ls hP hD hS hl) (fun q => K2 q H locs ls hP hD hS hl)
theorem g_icmp_ne {x y : Int32} {off : Int} (tgt : Nat) (C : gC p s m args meth c cc nL own Ts D TY A) (hd : decode cc pc = .ok (.if_icmp .ne off, 3)) (ht : (pc : Int) + off = (tgt : Int)) (K1 : ¬ x = y → G p l e R s m args below meth c D A nL k j Q w lv tgt st) (K2 : x = y → G p l e R s m args below meth c D A nL k j Q w lv (pc + 3) st) : G p l e R s m args below meth c D A nL k j Q w lv pc (.int y :: .int x :: st) :=
  fun H locs ls hP hD hS hl => lv_icmp_ne C.1 C.2.1 hd ht (fun q => K1 q H locs ls hP hD hS hl) (fun q => K2 q H locs ls hP hD hS hl)
theorem g_icmp_lt {x y : Int32} {off : Int} (tgt : Nat) (C : gC p s m args meth c cc nL own Ts D TY A) (hd : decode cc pc = .ok (.if_icmp .lt off, 3)) (ht : (pc : Int) + off = (tgt : Int)) (K1 : x < y → G p l e R s m args below meth c D A nL k j Q w lv tgt st) (K2 : ¬ x < y → G p l e R s m args below meth c D A nL k j Q w lv (pc + 3) st) : G p l e R s m args below meth c D A nL k j Q w lv pc (.int y :: .int x :: st) :=
  fun H locs ls hP hD hS hl => lv_icmp_lt C.1 C.2.1 hd ht (fun q => K1 q H locs ls hP hD hS hl) (fun q => K2 q H locs ls hP hD hS hl)
theorem g_icmp_ge {x y : Int32} {off : Int} (tgt : Nat) (C : gC p s m args meth c cc nL own Ts D TY A) (hd : decode cc pc = .ok (.if_icmp .ge off, 3)) (ht : (pc : Int) + off = (tgt : Int)) (K1 : y ≤ x → G p l e R s m args below meth c D A nL k j Q w lv tgt st) (K2 : ¬ y ≤ x → G p l e R s m args below meth c D A nL k j Q w lv (pc + 3) st) : G p l e R s m args below meth c D A nL k j Q w lv pc (.int y :: .int x :: st) :=
  fun H locs ls hP hD hS hl => lv_icmp_ge C.1 C.2.1 hd ht (fun q => K1 q H locs ls hP hD hS hl) (fun q => K2 q H locs ls hP hD hS hl)
theorem g_icmp_gt {x y : Int32} {off : Int} (tgt : Nat) (C : gC p s m args meth c cc nL own Ts D TY A) (hd : decode cc pc = .ok (.if_icmp .gt off, 3)) (ht : (pc : Int) + off = (tgt : Int)) (K1 : y < x → G p l e R s m args below meth c D A nL k j Q w lv tgt st) (K2 : ¬ y < x → G p l e R s m args below meth c D A nL k j Q w lv (pc + 3) st) : G p l e R s m args below meth c D A nL k j Q w lv pc (.int y :: .int x :: st) :=
  fun H locs ls hP hD hS hl => lv_icmp_gt C.1 C.2.1 hd ht (fun q => K1 q H locs ls hP hD hS hl) (fun q => K2 q H locs ls hP hD hS hl)
theorem g_icmp_le {x y : Int32} {off : Int} (tgt : Nat) (C : gC p s m args meth c cc nL own Ts D TY A) (hd : decode cc pc = .ok (.if_icmp .le off, 3)) (ht : (pc : Int) + off = (tgt : Int)) (K1 : x ≤ y → G p l e R s m args below meth c D A nL k j Q w lv tgt st) (K2 : ¬ x ≤ y → G p l e R s m args below meth c D A nL k j Q w lv (pc + 3) st) : G p l e R s m args below meth c D A nL k j Q w lv pc (.int y :: .int x :: st) :=
  fun H locs ls hP hD hS hl => lv_icmp_le C.1 C.2.1 hd ht (fun q => K1 q H locs ls hP hD hS hl) (fun q => K2 q H locs ls hP hD hS hl)
theorem g_tableIn {dflt lo hi off : Int} {offs : Array Int} {len : Nat} {x : Int32} (tgt : Nat) (C : gC p s m args meth c cc nL own Ts D TY A) (hd : decode cc pc = .ok (.tableswitch dflt lo hi offs, len)) (h1 : ¬ x.toInt < lo) (h2 : ¬ hi < x.toInt) (ho : offs[(x.toInt - lo).toNat]? = some off) (ht : (pc : Int) + off = (tgt : Int)) (K : G p l e R s m args below meth c D A nL k j Q w lv tgt st) : G p l e R s m args below meth c D A nL k j Q w lv pc (.int x :: st) :=
  fun H locs ls hP hD hS hl => lv_tableIn C.1 C.2.1 hd h1 h2 ho ht (K H locs ls hP hD hS hl)
theorem g_tableOut {dflt lo hi : Int} {offs : Array Int} {len : Nat} {x : Int32} (tgt : Nat) (C : gC p s m args meth c cc nL own Ts D TY A) (hd : decode cc pc = .ok (.tableswitch dflt lo hi offs, len)) (h : x.toInt < lo ∨ hi < x.toInt) (ht : (pc : Int) + dflt = (tgt : Int)) (K : G p l e R s m args below meth c D A nL k j Q w lv tgt st) : G p l e R s m args below meth c D A nL k j Q w lv pc (.int x :: st) :=
  fun H locs ls hP hD hS hl => lv_tableOut C.1 C.2.1 hd h ht (K H locs ls hP hD hS hl)
-- the world
theorem g_get {C0 : String} {T : u_T} {N ix : Nat} {fs : List Value} {a : Nat} (q0 ci f : Nat) (v : Value) (C : gC p s m args meth c cc nL own Ts D TY A) (hin : ∀ w ∈ u_ws C0 T N, w ∈ Ts) (he : w[q0]? = some (a, .inr (ci, fs))) (hc : vwCl[ci]? = some (C0, T, N)) (hf : f < N) (hlink : Cond.fieldLink own ix (T f).1 (T f).2.1 (T f).2.2.1 ∈ Ts) (hv : fs[f]? = some v) (hd : decode cc pc = .ok (.getfield ix, 3)) (K : G p l e R s m args below meth c D A nL k j Q w lv (pc + 3) (v :: st)) : G p l e R s m args below meth c D A nL k j Q w lv pc (.ref a :: st) :=
  fun H locs ls hP hD hS hl => va_get (D := D) (ci := ci) (v := v) (C := C0) (T := T) (N := N) C.1 C.2.1 C.2.2.2.2.1 hin C.2.2.2.1 C.2.2.2.2.2.1 hP q0 he hc f hf (C.2.2.2.2.1 _ hlink) (fun _ h9 => h9) hv hd (K H locs ls hP hD hS hl)
theorem g_put {C0 : String} {T : u_T} {N ix : Nat} {fs : List Value} {a : Nat} (q0 ci f : Nat) (w' : va_W) {ty0 : Nat → FieldType} {x : Int32} (C : gC p s m args meth c cc nL own Ts D TY A) (hin : ∀ w ∈ u_ws C0 T N, w ∈ Ts) (hty : ∀ k, k < N → parseFieldDescriptor (T k).2.2.1 = some (ty0 k)) (hnm : ∀ a, a < N → ∀ b, b < N → a ≠ b → (T a).2.1 ≠ (T b).2.1) (he : w[q0]? = some (a, .inr (ci, fs))) (hc : vwCl[ci]? = some (C0, T, N)) (hf : f < N) (hlink : Cond.fieldLink own ix (T f).1 (T f).2.1 (T f).2.2.1 ∈ Ts) (hfin : (T f).2.2.2 = false) (hdsc : parseFieldDescriptor (T f).2.2.1 = some .int) (hl : f < fs.length) (hw' : w.set q0 (a, .inr (ci, fs.set f (.int x))) = w') (hd : decode cc pc = .ok (.putfield ix, 3)) (K : G p l e R s m args below meth c D A nL k j Q w' lv (pc + 3) st) : G p l e R s m args below meth c D A nL k j Q w lv pc (.int x :: .ref a :: st) :=
  fun H locs ls hP hD hS hv => va_put (D := D) (ci := ci) (v := .int x) (ty := .int) (C := C0) (T := T) (N := N) C.1 C.2.1 C.2.2.2.2.1 hin ty0 hty hnm C.2.2.2.1 C.2.2.2.2.2.1 hP hD hS q0 he hc f hf (C.2.2.2.2.1 _ hlink) (fun _ h9 => h9) hfin hdsc rfl rfl hl hd (fun H1 locs1 hP1 hD1 hS1 => K H1 locs1 ls (hw' ▸ hP1) (hw' ▸ hD1) hS1 hv)
theorem g_iald {cA : ClassId} {n a : Nat} {f : Nat → Int32} {i : Int32} (q0 t0 : Nat) (C : gC p s m args meth c cc nL own Ts D TY A) (ha : w[q0]? = some (a, .inl (cA, n, .inl f))) (ht : TY[t0]? = some (cA, .int)) (hin : vp_in i n) (hd : decode cc pc = .ok (.iaload, 1)) (K : G p l e R s m args below meth c D A nL k j Q w lv (pc + 1) (.int (f i.toNatClampNeg) :: st)) : G p l e R s m args below meth c D A nL k j Q w lv pc (.int i :: .ref a :: st) :=
  fun H locs ls hP hD hS hl => va_iald C.1 C.2.1 C.2.2.2.2.2.1 hP q0 t0 ha ht hin hd (K H locs ls hP hD hS hl)
theorem g_lald {cA : ClassId} {n a : Nat} {f : Nat → Int64} {i : Int32} (q0 t0 : Nat) (C : gC p s m args meth c cc nL own Ts D TY A) (ha : w[q0]? = some (a, .inl (cA, n, .inr (.inl f)))) (ht : TY[t0]? = some (cA, .long)) (hin : vp_in i n) (hd : decode cc pc = .ok (.laload, 1)) (K : G p l e R s m args below meth c D A nL k j Q w lv (pc + 1) (.long (f i.toNatClampNeg) :: st)) : G p l e R s m args below meth c D A nL k j Q w lv pc (.int i :: .ref a :: st) :=
  fun H locs ls hP hD hS hl => va_lald C.1 C.2.1 C.2.2.2.2.2.1 hP q0 t0 ha ht hin hd (K H locs ls hP hD hS hl)
theorem g_iast {cA : ClassId} {n a : Nat} {f : Nat → Int32} {i x : Int32} (q0 t0 : Nat) (w' : va_W) (C : gC p s m args meth c cc nL own Ts D TY A) (ha : w[q0]? = some (a, .inl (cA, n, .inl f))) (ht : TY[t0]? = some (cA, .int)) (hin : vp_in i n) (hw' : w.set q0 (a, .inl (cA, n, .inl (upd f i.toNatClampNeg x))) = w') (hd : decode cc pc = .ok (.iastore, 1)) (K : G p l e R s m args below meth c D A nL k j Q w' lv (pc + 1) st) : G p l e R s m args below meth c D A nL k j Q w lv pc (.int x :: .int i :: .ref a :: st) :=
  fun H locs ls hP hD hS hv => va_iast C.1 C.2.1 C.2.2.2.2.2.1 hP hD hS q0 t0 ha ht hin hd (fun H1 locs1 hP1 hD1 hS1 => K H1 locs1 ls (hw' ▸ hP1) (hw' ▸ hD1) hS1 hv)
theorem g_last {cA : ClassId} {n a : Nat} {f : Nat → Int64} {i : Int32} {x : Int64} (q0 t0 : Nat) (w' : va_W) (C : gC p s m args meth c cc nL own Ts D TY A) (ha : w[q0]? = some (a, .inl (cA, n, .inr (.inl f)))) (ht : TY[t0]? = some (cA, .long)) (hin : vp_in i n) (hw' : w.set q0 (a, .inl (cA, n, .inr (.inl (vp_updL f i.toNatClampNeg x)))) = w') (hd : decode cc pc = .ok (.lastore, 1)) (K : G p l e R s m args below meth c D A nL k j Q w' lv (pc + 1) st) : G p l e R s m args below meth c D A nL k j Q w lv pc (.long x :: .int i :: .ref a :: st) :=
  fun H locs ls hP hD hS hv => va_last C.1 C.2.1 C.2.2.2.2.2.1 hP hD hS q0 t0 ha ht hin hd (fun H1 locs1 hP1 hD1 hS1 => K H1 locs1 ls (hw' ▸ hP1) (hw' ▸ hD1) hS1 hv)
/-- a computed number gets a name -/
theorem g_nm {x : Int32} (K : ∀ y : Int32, y = x → G p l e R s m args below meth c D A nL k j Q w lv pc (.int y :: st)) : G p l e R s m args below meth c D A nL k j Q w lv pc (.int x :: st) := K x rfl
/-- .. or is another way of saying it -/
theorem g_is {x : Int32} (y : Int32) (h : x = y) (K : G p l e R s m args below meth c D A nL k j Q w lv pc (.int y :: st)) : G p l e R s m args below meth c D A nL k j Q w lv pc (.int x :: st) := by rw [h]; exact K
theorem g_w (w' : va_W) (h : w = w') (K : G p l e R s m args below meth c D A nL k j Q w' lv pc st) : G p l e R s m args below meth c D A nL k j Q w lv pc st := by rw [h]; exact K
/-- the locals picked out and put in order -/
theorem g_lv (ks : List Nat) (lv' : List (Nat × Value)) (h : lv_pick lv ks = lv') (K : G p l e R s m args below meth c D A nL k j Q w lv' pc st) : G p l e R s m args below meth c D A nL k j Q w lv pc st :=
  fun H locs ls hP hD hS hl => K H locs ls hP hD hS (lv_sub hl ks h)
theorem g_widen {k' j' : Nat} (h1 : k ≤ k') (h2 : j ≤ j') (K : G p l e R s m args below meth c D A nL k' j' Q w lv pc st) : G p l e R s m args below meth c D A nL k j Q w lv pc st :=
  fun H locs ls hP hD hS hl => W.widen h1 h2 (K H locs ls hP hD hS hl)
end GJ
end
section
/-! Calls, ends, throws and entries of the walk. -/
-- worlds side by side
theorem wp_mem {D : va_G} {cl : List vw_C} {w : va_W} {H : Heap} : va_P D cl w H ↔ ∀ q ∈ w, va_at D cl q H := by
  constructor
  · intro h q hq
    obtain ⟨i, hi⟩ := List.getElem?_of_mem hq
    exact h i q hi
  · intro h i q hi
    exact h q (List.mem_of_getElem? hi)
theorem wd_same {A : Nat → Prop} {w w' : va_W} (hm : w'.map Prod.fst = w.map Prod.fst) (h : va_D A w) : va_D A w' := by
  have key : ∀ (i : Nat) (q : Nat × va_E), w'[i]? = some q → ∃ q0, w[i]? = some q0 ∧ q0.1 = q.1 := by
    intro i q hi
    have h1 : (w'.map Prod.fst)[i]? = some q.1 := by rw [List.getElem?_map, hi]; rfl
    rw [hm, List.getElem?_map] at h1
    cases h2 : w[i]? with
    | none => rw [h2] at h1; cases h1
    | some q0 => rw [h2] at h1; exact ⟨q0, rfl, Option.some.inj h1⟩
  refine ⟨fun i j p q hi hj hpq => ?_, fun i q hi => ?_⟩
  · obtain ⟨p0, a1, a2⟩ := key i p hi
    obtain ⟨q0, b1, b2⟩ := key j q hj
    exact h.1 i j p0 q0 a1 b1 (by rw [a2, b2, hpq])
  · obtain ⟨q0, b1, b2⟩ := key i q hi
    rw [← b2]; exact h.2 i q0 b1
/-- the callee's world wc lies in the caller's, between wl and wr -/
def wX (K : va_W → va_W) (wl wr : va_W) : Prop := ∀ w, K w = wl ++ w ++ wr
theorem wX_id : wX (fun w => w) [] [] := fun w => by simp
theorem wX_pre (wr : va_W) : wX (fun w => w ++ wr) [] wr := fun w => by simp
theorem wX_suf (wl : va_W) : wX (fun w => wl ++ w) wl [] := fun w => by simp
theorem wX_P {K : va_W → va_W} {wl wr wc : va_W} (hK : wX K wl wr) {D : va_G} {cl : List vw_C} {H : Heap} (h : va_P D cl (K wc) H) : va_P D cl wc H :=
  wp_mem.mpr fun q hq => wp_mem.mp h q (by rw [hK wc]; exact List.mem_append_left _ (List.mem_append_right _ hq))
theorem wX_D {K : va_W → va_W} {wl wr wc : va_W} (hK : wX K wl wr) {A : Nat → Prop} (h : va_D A (K wc)) : va_D A wc := by
  have hg : ∀ (i : Nat) (q : Nat × va_E), wc[i]? = some q → (K wc)[wl.length + i]? = some q := by
    intro i q hi
    have hl := (List.getElem?_eq_some_iff.mp hi).1
    rw [hK wc, List.append_assoc, List.getElem?_append_right (by omega), Nat.add_sub_cancel_left, List.getElem?_append_left hl]
    exact hi
  exact ⟨fun i j p q hi hj hpq => by have := h.1 _ _ p q (hg i p hi) (hg j q hj) hpq; omega, fun i q hi => h.2 _ q (hg i q hi)⟩
theorem wX_map {K : va_W → va_W} {wl wr wc w1 : va_W} (hK : wX K wl wr) (hm : w1.map Prod.fst = wc.map Prod.fst) : (K w1).map Prod.fst = (K wc).map Prod.fst := by
  rw [hK, hK]; simp [hm]
theorem wX_join {K : va_W → va_W} {wl wr wc w1 : va_W} (hK : wX K wl wr) {A : Nat → Prop} {D : va_G} {cl : List vw_C} {H H1 : Heap} (hP : va_P D cl (K wc) H) (hD : va_D A (K wc))
    (hk : ∀ q : Nat, q < H.size → ¬ va_A wc H.size q → H1[q]? = H[q]?) (hP1 : va_P D cl w1 H1) : va_P D cl (K w1) H1 := by
  have hapart : ∀ (q : Nat × va_E), (q ∈ wl ∨ q ∈ wr) → va_at D cl q H → H1[q.1]? = H[q.1]? := by
    intro q hq hat
    refine hk q.1 hat.lt ?_
    rintro (⟨i, e, hi⟩ | h)
    · have hl := (List.getElem?_eq_some_iff.mp hi).1
      have h2 : (K wc)[wl.length + i]? = some (q.1, e) := by
        rw [hK wc, List.append_assoc, List.getElem?_append_right (by omega), Nat.add_sub_cancel_left, List.getElem?_append_left hl]; exact hi
      rcases hq with hq | hq
      · obtain ⟨n, hn⟩ := List.getElem?_of_mem hq
        have hnl := (List.getElem?_eq_some_iff.mp hn).1
        have h3 : (K wc)[n]? = some q := by rw [hK wc, List.append_assoc, List.getElem?_append_left hnl]; exact hn
        have := hD.1 _ _ _ _ h2 h3 rfl
        omega
      · obtain ⟨n, hn⟩ := List.getElem?_of_mem hq
        have h3 : (K wc)[(wl ++ wc).length + n]? = some q := by rw [hK wc, List.getElem?_append_right (by omega), Nat.add_sub_cancel_left]; exact hn
        have := hD.1 _ _ _ _ h2 h3 rfl
        simp at this
        omega
    · exact absurd hat.lt (Nat.not_lt.mpr h)
  refine wp_mem.mpr fun q hq => ?_
  rw [hK w1] at hq
  have hmem : ∀ q, q ∈ wl ∨ q ∈ wr → va_at D cl q H := fun q h => wp_mem.mp hP q (by rw [hK wc]; rcases h with h | h <;> simp [h])
  rcases List.mem_append.mp hq with h | h
  · rcases List.mem_append.mp h with h | h
    · exact (hmem q (Or.inl h)).kept (hapart q (Or.inl h) (hmem q (Or.inl h)))
    · exact wp_mem.mp hP1 q h
  · exact (hmem q (Or.inr h)).kept (hapart q (Or.inr h) (hmem q (Or.inr h)))
theorem wX_free {K : va_W → va_W} {wl wr wc : va_W} (hK : wX K wl wr) {A : Nat → Prop} {H0 H : Heap} {locs : List Loc} (hD : va_D A (K wc)) (hS : va_S A H0 H locs) (hA : ∀ q, H0.size ≤ q → A q) : ∀ q, va_A wc H.size q → A q := by
  rintro q (⟨i, e, hi⟩ | h)
  · exact (wX_D hK hD).2 i (q, e) hi
  · exact hA q (Nat.le_trans hS.1 h)
section GK
variable {p : Program} {l : Launch} {e : Env} {R : Room} {s : State} {m : MethodId} {args : Array Value} {below : List Frame} {meth : Method} {c : Code}
variable {cc : ByteArray} {nL : Nat} {own : String} {Ts : List Cond} {D : va_G} {TY : List (ClassId × FieldType)} {A : Nat → Prop}
variable {k j : Nat} {Q : State → Prop} {w : va_W} {lv : List (Nat × Value)} {pc : Nat} {st rest : List Value}
variable {y : MethodName} {bytes : ByteArray} {maxL fr lo n ix na : Nat} {ret : Option FieldType} {ws ws' : List Cond} {av As : List Value} {wc w1 wl wr : va_W} {K : va_W → va_W} {ex : Option String} {rv : Option Value} {E : String}
/-- behind a call that returned -/
theorem g_ret_of {H : Heap} {locs : List Loc} {ls : Array Slot} {a : Array Value} (hK : wX K wl wr) (hm : w1.map Prod.fst = wc.map Prod.fst) (hA : ∀ q : Nat, s.heap.size ≤ q → A q) (hP : va_P D vwCl (K wc) H) (hD : va_D A (K wc)) (hS : va_S A s.heap H locs) (hl : lv_has ls nL lv)
    (hr : vx_Run p l e R s m args below meth c H locs k j n (6 * n) (F0 m pc ls st) rest (mQ D wc w1 none rv H.size a) (mX D wc none H.size) (va_A wc H.size))
    (KK : G p l e R s m args below meth c D A nL (k + n) (j + 6 * n) Q (K w1) lv (pc + 3) (rv.toList ++ rest)) : W p l e R s m args below meth c H locs k j Q (F0 m pc ls st) := by
  intro T hT X
  rcases hr T hT X with ⟨v, st₀, t, T', L, h0, X', hL, e1, e2, ⟨⟨hv, -, hP1⟩, hz, hk⟩, stp⟩ | ⟨q, st₀, t, T', L, E, ce, h0, X', hL, e1, e2, ⟨⟨hE, -⟩, -⟩, -⟩
  · cases hv
    rw [h0] at hz hk
    rw [← e1] at hz hk hP1
    have hF := wX_free hK hD hS hA
    obtain ⟨t2, a1, b1⟩ := KK T'.heap (locs ++ L) ls (wX_join hK hP hD hk hP1) (wd_same (wX_map hK hm) hD)
      ⟨Nat.le_trans hS.1 hz, fun q h1 h2 => by rw [hk q (Nat.lt_of_lt_of_le h1 hS.1) (fun z => h2 (hF q z))]; exact hS.2.1 q h1 h2, fun q hq => by
        rcases List.mem_append.mp hq with h | h
        · exact hS.2.2 q h
        · exact hF _ (hL q h)⟩ hl T' rfl X'
    exact ⟨t2, stp t2 a1, b1⟩
  · cases hE
/-- what a body owes -/
def gQ (below : List Frame) (D : va_G) (w w' : va_W) (ex : Option String) (rv : Option Value) (n : Nat) (args : Array Value) (s : State) : State → Prop := vx_MQ below (mQ D w w' ex rv s.heap.size) (mX D w ex s.heap.size) args s n (6 * n) (va_A w s.heap.size)
/-- behind a call that threw: it goes on to the caller -/
theorem g_out_of {H : Heap} {locs : List Loc} {ls : Array Slot} {a : Array Value} {w' : va_W} {n0 : Nat} {rv0 : Option Value} (hout : ∀ x ∈ c.exceptionTable.toList, False) (hlocks : meth.locks = false) (hA : ∀ q : Nat, s.heap.size ≤ q → va_A wc s.heap.size q) (hK : wX K wl wr) (hw : K wc = w) (hP : va_P D vwCl (K wc) H) (hD : va_D (va_A w s.heap.size) (K wc)) (hS : va_S (va_A w s.heap.size) s.heap H locs)
    (hr : vx_Run p l e R s m args below meth c H locs k j n (6 * n) (F0 m pc ls st) rest (mQ D wc w1 (some E) rv H.size a) (mX D wc (some E) H.size) (va_A wc H.size)) (hn : k + n ≤ n0) (hj : j + 6 * n ≤ 6 * n0)
    : W p l e R s m args below meth c H locs k j (gQ below D w w' (some E) rv0 n0 args s) (F0 m pc ls st) := by
  have hA' : ∀ q : Nat, s.heap.size ≤ q → va_A w s.heap.size q := fun q h => Or.inr h
  intro T hT X
  rcases hr T hT X with ⟨v, st₀, t, T', L, h0, X', hL, e1, e2, ⟨⟨hv, hE, hP1⟩, hz, hk⟩, stp⟩ | ⟨q, st₀, t, T', L, E', ce, h0, X', hL, e1, e2, ⟨⟨hE, hP1⟩, hz, hk⟩, hce, hcv, hcl, stp⟩
  · cases hE
  · cases hE
    rw [h0] at hz hk
    rw [← e1] at hz hk hP1 hce
    have hF := wX_free hK hD hS hA'
    have hPn := wX_join hK hP hD hk hP1
    have hSn : va_S (va_A w s.heap.size) s.heap T'.heap (locs ++ L) := ⟨Nat.le_trans hS.1 hz, fun q h1 h2 => by rw [hk q (Nat.lt_of_lt_of_le h1 hS.1) (fun z => h2 (hF q z))]; exact hS.2.1 q h1 h2, fun q hq => by
        rcases List.mem_append.mp hq with h | h
        · exact hS.2.2 q h
        · exact hF _ (hL q h)⟩
    rw [hw] at hPn
    obtain ⟨t2, a1, b1⟩ := vx_out (Qc := mQ D w w' (some E) rv0 s.heap.size) (XC := mX D w (some E) s.heap.size) (free := va_A w s.heap.size) (mc := n0) (ms := 6 * n0) (pc := pc) (ls := ls) (rest := rest) (fun x hx => (hout x hx).elim) hlocks hce hcv hcl (fun t ht _ => ⟨⟨rfl, by rw [ht]; exact hPn⟩, by rw [va_F, ht]; exact ⟨hSn.1, hSn.2.1⟩⟩) hSn.2.2 hn hj T' rfl X'
    exact ⟨t2, stp.trans a1, b1⟩
/-- the callee's start -/
theorem mP_of {H : Heap} {locs : List Loc} (hK : wX K wl wr) (C : gC p s m args meth c cc nL own Ts D TY A) (hP : va_P D vwCl (K wc) H) (hD : va_D A (K wc)) (hS : va_S A s.heap H locs) : ∀ U : State, U.heap = H → s.WarmedH U.vm → mP D TY wc av H.size av.toArray U := by
  intro U hU hW
  refine ⟨rfl, by rw [hU], by rw [hU]; exact wX_P hK hP, va_K.moved hW.alike C.2.2.2.2.2.1, (wX_D hK hD).weaken (fun _ _ _ _ => trivial), ?_⟩
  exact XE.to C.2.2.2.2.2.2.2.2 hS hU hW (fun q h => wX_free hK hD hS C.2.2.2.2.2.2.1 q h)
/-- a static call that returns -/
theorem g_callS (K : va_W → va_W) (hK : wX K wl wr) (hM : MC l y ws fr lo D TY av wc w1 none rv n) (C : gC p s m args meth c cc nL own Ts D TY A) (hG : GoodIn Ts (va_wsS own ix y ws)) (hw : ws = Cond.code y bytes maxL ret :: ws')
    (hd : y.cls ≠ "java/lang/invoke/MethodHandle" ∧ y.cls ≠ "java/lang/invoke/VarHandle" ∧ (parseMethodDescriptor y.desc).map (fun d => d.parameters.length) = some na) (hna : av.length = na) (hR : fr + 1 ≤ R.frames ∧ 8 + (maxL + 11) + lo ≤ R.locals)
    (hst : st = av.reverse ++ rest) (hW : (rest.map fun v => v.category).sum ≤ 8) (hf : k + n ≤ R.cells ∧ j + 6 * n ≤ R.slots) (hm : w1.map Prod.fst = wc.map Prod.fst) (hdg : decode cc pc = .ok (.invokestatic ix, 3))
    (KK : G p l e R s m args below meth c D A nL (k + n) (j + 6 * n) Q (K w1) lv (pc + 3) (rv.toList ++ rest)) : G p l e R s m args below meth c D A nL k j Q (K wc) lv pc st := by
  subst hst; subst hna
  intro H locs ls hP hD hS hl
  refine g_ret_of hK hm C.2.2.2.2.2.2.1 hP hD hS hl (vx_runS (As := av) (rest := rest) ⟨C.1, C.2.1, C.2.2.1, C.2.2.2.1, C.2.2.2.2.1⟩ (hM H.size) (va_cwS av.length C.2.2.2.2.1 hG hw rfl rfl hd hR) ⟨mP_blind, mP_of hK C hP hD hS⟩ rfl rfl hl.1 rfl (lv_room hW) hdg hf) KK
/-- a call by an object that returns -/
theorem g_callV {C0 : String} {fs : List Value} {T : u_T} {N b ci : Nat} (K : va_W → va_W) (hK : wX K wl wr) (hM : MC l y ws fr lo D TY (.ref b :: As) wc w1 none rv n) (C : gC p s m args meth c cc nL own Ts D TY A) (hG : GoodIn Ts (wsV own ix C0 y ws)) (hw : ws = Cond.code y bytes maxL ret :: ws')
    (hd : y.cls = C0 ∧ y.cls ≠ "java/lang/invoke/MethodHandle" ∧ y.cls ≠ "java/lang/invoke/VarHandle" ∧ (parseMethodDescriptor y.desc).map (fun d => d.parameters.length) = some na) (hna : As.length = na) (hR : fr + 1 ≤ R.frames ∧ 8 + (maxL + 11) + lo ≤ R.locals)
    (he : wc[0]? = some (b, .inr (ci, fs))) (hc : vwCl[ci]? = some (C0, T, N))
    (hst : st = As.reverse ++ .ref b :: rest) (hW : (rest.map fun v => v.category).sum ≤ 8) (hf : k + n ≤ R.cells ∧ j + 6 * n ≤ R.slots) (hm : w1.map Prod.fst = wc.map Prod.fst) (hdg : decode cc pc = .ok (.invokevirtual ix, 3))
    (KK : G p l e R s m args below meth c D A nL (k + n) (j + 6 * n) Q (K w1) lv (pc + 3) (rv.toList ++ rest)) : G p l e R s m args below meth c D A nL k j Q (K wc) lv pc st := by
  subst hst; subst hna
  intro H locs ls hP hD hS hl
  refine g_ret_of hK hm C.2.2.2.2.2.2.1 hP hD hS hl (vx_runV (As := As) (rest := rest) ⟨C.1, C.2.1, C.2.2.1, C.2.2.2.1, C.2.2.2.2.1⟩ (hM H.size) (cwV As.length C.2.2.2.2.1 hG hw rfl rfl hd hR) ⟨mP_blind, va_recv C.2.2.2.2.2.1 (wX_P hK hP) hc he, mP_of hK C hP hD hS⟩ rfl rfl hl.1 rfl (lv_room hW) hdg hf) KK
/-- a static call that throws: so does this method -/
theorem g_callSX {w' : va_W} {n0 : Nat} {rv0 : Option Value} (hM : MC l y ws fr lo D TY av w w1 (some E) rv n) (C : gC p s m args meth c cc nL own Ts D TY (va_A w s.heap.size)) (hG : GoodIn Ts (va_wsS own ix y ws)) (hw : ws = Cond.code y bytes maxL ret :: ws')
    (hd : y.cls ≠ "java/lang/invoke/MethodHandle" ∧ y.cls ≠ "java/lang/invoke/VarHandle" ∧ (parseMethodDescriptor y.desc).map (fun d => d.parameters.length) = some na) (hna : av.length = na) (hR : fr + 1 ≤ R.frames ∧ 8 + (maxL + 11) + lo ≤ R.locals)
    (hst : st = av.reverse ++ rest) (hW : (rest.map fun v => v.category).sum ≤ 8) (hf : k + n ≤ R.cells ∧ j + 6 * n ≤ R.slots) (hout : ∀ x ∈ c.exceptionTable.toList, False) (hn : k + n ≤ n0) (hj : j + 6 * n ≤ 6 * n0) (hex : ex = some E) (hdg : decode cc pc = .ok (.invokestatic ix, 3))
    : G p l e R s m args below meth c D (va_A w s.heap.size) nL k j (gQ below D w w' ex rv0 n0 args s) w lv pc st := by
  subst hst; subst hna
  subst hex
  intro H locs ls hP hD hS hl
  exact g_out_of hout C.2.2.2.2.2.2.2.1 (fun q h => Or.inr h) wX_id rfl hP hD hS (vx_runS (As := av) (rest := rest) ⟨C.1, C.2.1, C.2.2.1, C.2.2.2.1, C.2.2.2.2.1⟩ (hM H.size) (va_cwS av.length C.2.2.2.2.1 hG hw rfl rfl hd hR) ⟨mP_blind, mP_of wX_id C hP hD hS⟩ rfl rfl hl.1 rfl (lv_room hW) hdg hf) hn hj
/-- a call by an object that throws: so does this method -/
theorem g_callVX {C0 : String} {fs : List Value} {T : u_T} {N b ci : Nat} {w' : va_W} {n0 : Nat} {rv0 : Option Value} (hM : MC l y ws fr lo D TY (.ref b :: As) w w1 (some E) rv n) (C : gC p s m args meth c cc nL own Ts D TY (va_A w s.heap.size)) (hG : GoodIn Ts (wsV own ix C0 y ws)) (hw : ws = Cond.code y bytes maxL ret :: ws')
    (hd : y.cls = C0 ∧ y.cls ≠ "java/lang/invoke/MethodHandle" ∧ y.cls ≠ "java/lang/invoke/VarHandle" ∧ (parseMethodDescriptor y.desc).map (fun d => d.parameters.length) = some na) (hna : As.length = na) (hR : fr + 1 ≤ R.frames ∧ 8 + (maxL + 11) + lo ≤ R.locals)
    (he : w[0]? = some (b, .inr (ci, fs))) (hc : vwCl[ci]? = some (C0, T, N))
    (hst : st = As.reverse ++ .ref b :: rest) (hW : (rest.map fun v => v.category).sum ≤ 8) (hf : k + n ≤ R.cells ∧ j + 6 * n ≤ R.slots) (hout : ∀ x ∈ c.exceptionTable.toList, False) (hn : k + n ≤ n0) (hj : j + 6 * n ≤ 6 * n0) (hex : ex = some E) (hdg : decode cc pc = .ok (.invokevirtual ix, 3))
    : G p l e R s m args below meth c D (va_A w s.heap.size) nL k j (gQ below D w w' ex rv0 n0 args s) w lv pc st := by
  subst hst; subst hna
  subst hex
  intro H locs ls hP hD hS hl
  exact g_out_of hout C.2.2.2.2.2.2.2.1 (fun q h => Or.inr h) wX_id rfl hP hD hS (vx_runV (As := As) (rest := rest) ⟨C.1, C.2.1, C.2.2.1, C.2.2.2.1, C.2.2.2.2.1⟩ (hM H.size) (cwV As.length C.2.2.2.2.1 hG hw rfl rfl hd hR) ⟨mP_blind, va_recv C.2.2.2.2.2.1 (wX_P wX_id hP) hc he, mP_of wX_id C hP hD hS⟩ rfl rfl hl.1 rfl (lv_room hW) hdg hf) hn hj
-- ends
theorem g_iret {v : Int32} {ty : FieldType} {w0 w' : va_W} {n : Nat} (C : gC p s m args meth c cc nL own Ts D TY (va_A w0 s.heap.size)) (hr : meth.sig.returnType = some ty) (hn : narrow ty (.int v) = .int v) (hd : decode cc pc = .ok (.ireturn, 1)) (hk : k ≤ n) (hj : j ≤ 6 * n) (hex : ex = none) (hrv : some (.int v) = rv) (hw : w = w') : G p l e R s m args below meth c D (va_A w0 s.heap.size) nL k j (gQ below D w0 w' ex rv n args s) w lv pc [.int v] := by
  intro H locs ls hP hD hS hl
  subst hw; subst hex; subst hrv
  refine vx_ret (W.widen hk hj (W.zret (v := v) C.1 C.2.1 hr hn (fun t ht hW => ⟨⟨rfl, rfl, by rw [ht]; exact hP⟩, hS.F ht⟩) hS.2.2 hd C.2.2.2.2.2.2.2.1))
theorem g_vret {w0 w' : va_W} {n : Nat} (C : gC p s m args meth c cc nL own Ts D TY (va_A w0 s.heap.size)) (hr : meth.sig.returnType = none) (hd : decode cc pc = .ok (.return_, 1)) (hk : k ≤ n) (hj : j ≤ 6 * n) (hex : ex = none) (hrv : none = rv) (hw : w = w') : G p l e R s m args below meth c D (va_A w0 s.heap.size) nL k j (gQ below D w0 w' ex rv n args s) w lv pc [] := by
  intro H locs ls hP hD hS hl
  subst hw; subst hex; subst hrv
  refine vx_ret (W.widen hk hj (W.vret C.1 C.2.1 hr (fun t ht hW => ⟨⟨rfl, rfl, by rw [ht]; exact hP⟩, hS.F ht⟩) hS.2.2 hd C.2.2.2.2.2.2.2.1))
/-- throw new E("text") -/
theorem g_throw {cls text : String} {ik is ic : Nat} {w' : va_W} {n : Nat} (C : gC p s m args meth c cc nL own Ts D TY (va_A w s.heap.size)) (hl : l.stackTraces = false) (how : own = RX0) (hcls : Bundle.fit cls = true) (hk : Cond.classLink own ik cls ∈ Ts) (hini : Cond.initialized cls ∈ Ts) (hgw : ∀ w ∈ (vx_atS own ic cls xeN).filter goodWord, w ∈ Ts) (hbw : ∀ w ∈ (vx_atS own ic cls xeN).filter (fun w => !goodWord w), w ∈ xeB)
    (hgood : ∀ w ∈ Cond.classLink own ik cls :: Cond.initialized cls :: vx_atS own ic cls xeN, vx_ot w = true) (hs : (is, text) ∈ xeStr) (hout : ∀ x ∈ c.exceptionTable.toList, False)
    (d0 : decode cc pc = .ok (.new ik, 3)) (d3 : decode cc (pc + 3) = .ok (.dup, 1)) (d4 : decode cc (pc + 4) = .ok (.ldc is, 2)) (d6 : decode cc (pc + 6) = .ok (.invokespecial ic, 3)) (d9 : decode cc (pc + 9) = .ok (.athrow, 1))
    (hRf : 5 < R.frames) (hRl : (rest.map fun v => v.category).sum + 82 ≤ R.locals) (hRc : k + 1 ≤ R.cells) (hRs : j + 6 ≤ R.slots) (hn : k + 1 ≤ n) (hj : j + 6 ≤ 6 * n) (hex : ex = some cls)
    : G p l e R s m args below meth c D (va_A w s.heap.size) nL k j (gQ below D w w' ex rv n args s) w lv pc rest := by
  intro H locs ls hP hD hS hlv
  subst hex
  have X := C.2.2.2.2.2.2.2.2
  obtain ⟨sa, hsa⟩ := X.2.2.1 _ hs
  have hB : ∀ w ∈ xeB, w.before args s = true := fun w hw => va_Nw.use (xeB_tab w hw) (X.2.2.2.1 w hw)
  refine vx_throwS (text := text) (names := xeN) (sa := sa) (A := va_A w s.heap.size) C.1 C.2.1 hl C.2.2.2.1 hcls (by decide +kernel) (C.2.2.2.2.1 _ hk) (C.2.2.2.2.1 _ hini) (by rw [how]; exact hsa) (vx_hat (fun w h => C.2.2.2.2.1 w (hgw w h)) hbw hB) hgood X.1 X.2.1 hS (hlv.1.trans C.2.2.1.symm) d0 d3 d4 d6 d9 (fun x hx => (hout x hx).elim) hRf hRl hRc hRs C.2.2.2.2.2.2.2.1 ?_ hS.2.2 hn hj
  intro t hal hz hq
  refine ⟨⟨rfl, ?_⟩, Nat.le_trans hS.1 hz, fun q h1 h2 => (hq q (Nat.lt_of_lt_of_le h1 hS.1)).trans (hS.2.1 q h1 h2)⟩
  exact hP.kept fun i q hi => hq q.1 (hP i q hi).lt
end GK
/-- a method's body, walked, gives its contract -/
theorem MC.ofG {l : Launch} {y : MethodName} {ws ws' : List Cond} {fr lo : Nat} {D : va_G} {TY : List (ClassId × FieldType)} {av : List Value} {w w' : va_W} {ex : Option String} {rv : Option Value} {n : Nat} {cc : ByteArray} {maxL : Nat} {ret : Option FieldType} (lv0 : List (Nat × Value)) (hy : plainName y.cls = true) (hw : ws = Cond.code y cc maxL ret :: ws') (hlen : (lg_sl av).length ≤ maxL) (hlv : lv_args 0 av = lv0)
    (body : ∀ (p : Program) (e : Env) (s : State) (m : MethodId) (args : Array Value) (below : List Frame) (meth : Method) (c : Code), gC p s m args meth c cc maxL y.cls ws D TY (va_A w s.heap.size) → meth.sig.returnType = ret → (∀ x ∈ c.exceptionTable.toList, False) →
      G p l e { frames := fr, cells := n, slots := 6 * n, locals := lo } s m args below meth c D (va_A w s.heap.size) maxL 0 0 (gQ below D w w' ex rv n args s) w lv0 0 []) : MC l y ws fr lo D TY av w w' ex rv n := by
  intro sz
  refine vx_ofW (cc := cc) (maxL := maxL) (ret := ret) hy hw ?_
  intro p e s m args below meth c s₁ B hml hout hv
  obtain ⟨rfl, rfl, hP, hK, hD0, hX⟩ := hv
  have hl := lv_entry av (n := maxL) hlen
  rw [lg_entry_eq]
  rw [hlv] at hl
  exact body p e s m _ below meth c ⟨B.exec, B.bytes, hml, findClass_of_methodNamed B.named, atoms_spec (ws := ws) B.pre, hK, fun q h => Or.inr h, B.notSynchronized, hX⟩ B.returns hout s.heap [] _ hP hD0.self va_S.rf hl
end
section
/-! The states of the book and of the reference as data; the worlds that hold them; plain facts. -/
abbrev gS : Type := (Nat → Int32) × (Nat → Nat → Int32)
def sS (σ : gS) (k : Nat) (v : Int32) : gS := (upd σ.1 k v, σ.2)
def sA (σ : gS) (k : Nat) (f : Nat → Int32) : gS := (σ.1, va_up σ.2 k f)
/-- the book: its numbers, and its arrays in the order of its fields -/
def wA (cI : ClassId) (h : Nat → Nat) (σ : gS) : va_W := [(h 0, .inr (0, [.int (σ.1 0), .int (σ.1 1), .int (σ.1 2), .int (σ.1 3), .int (σ.1 4), .ref (h 1), .ref (h 2), .ref (h 3), .ref (h 4), .ref (h 5), .ref (h 6), .ref (h 7), .ref (h 8), .ref (h 9), .ref (h 10), .ref (h 11), .ref (h 12)])),
  (h 1, .inl (cI, 18, .inl (σ.2 0))), (h 2, .inl (cI, 12, .inl (σ.2 1))), (h 3, .inl (cI, 12, .inl (σ.2 2))), (h 4, .inl (cI, 1284, .inl (σ.2 3))), (h 5, .inl (cI, 8, .inl (σ.2 4))), (h 6, .inl (cI, 8, .inl (σ.2 5))), (h 7, .inl (cI, 8, .inl (σ.2 6))), (h 8, .inl (cI, 8, .inl (σ.2 7))), (h 9, .inl (cI, 8, .inl (σ.2 8))), (h 10, .inl (cI, 8, .inl (σ.2 9))), (h 11, .inl (cI, 4, .inl (σ.2 10))), (h 12, .inl (cI, 4, .inl (σ.2 11)))]
/-- the reference: thrown, pigments, tubes, pots, pictures, today; its arrays in the order of its fields -/
def wM (cI : ClassId) (h : Nat → Nat) (τ : gS) : va_W := [(h 0, .inr (1, [.int (τ.1 0), .int (τ.1 1), .ref (h 1), .int (τ.1 2), .ref (h 2), .ref (h 3), .ref (h 4), .int (τ.1 3), .ref (h 5), .int (τ.1 4), .ref (h 6), .ref (h 7), .ref (h 8), .ref (h 9), .ref (h 10), .ref (h 11), .ref (h 12), .ref (h 13), .ref (h 14), .int (τ.1 5), .ref (h 15), .ref (h 16)])),
  (h 1, .inl (cI, 18, .inl (τ.2 0))), (h 2, .inl (cI, 12, .inl (τ.2 1))), (h 3, .inl (cI, 12, .inl (τ.2 2))), (h 4, .inl (cI, 12, .inl (τ.2 3))), (h 5, .inl (cI, 120, .inl (τ.2 4))), (h 6, .inl (cI, 8, .inl (τ.2 5))), (h 7, .inl (cI, 1152, .inl (τ.2 6))), (h 8, .inl (cI, 8, .inl (τ.2 7))), (h 9, .inl (cI, 8, .inl (τ.2 8))), (h 10, .inl (cI, 8, .inl (τ.2 9))), (h 11, .inl (cI, 8, .inl (τ.2 10))), (h 12, .inl (cI, 8, .inl (τ.2 11))), (h 13, .inl (cI, 4, .inl (τ.2 12))), (h 14, .inl (cI, 4, .inl (τ.2 13))), (h 15, .inl (cI, 12, .inl (τ.2 14))), (h 16, .inl (cI, 6, .inl (τ.2 15)))]
abbrev tyIJ (cI cJ : ClassId) : List (ClassId × FieldType) := [(cI, .int), (cJ, .long)]
def isum (f : Nat → Int32) : Nat → Int32
  | 0 => 0
  | n + 1 => isum f n + f n
abbrev bad (n c : Int32) : Prop := n < 0 ∨ ¬ n < c
abbrev out (v lo hi : Int32) : Prop := v < lo ∨ ¬ v ≤ hi
def bI (c : Prop) [Decidable c] : Int32 := if c then 1 else 0
theorem bI_1 {c : Prop} [Decidable c] (h : c) : bI c = 1 := if_pos h
theorem bI_0 {c : Prop} [Decidable c] (h : ¬ c) : bI c = 0 := if_neg h
theorem bI_ne {c : Prop} [Decidable c] (h : ¬ bI c = 0) : c := Classical.byContradiction fun q => h (bI_0 q)
theorem bI_eq {c : Prop} [Decidable c] (h : bI c = 0) : ¬ c := fun q => by rw [bI_1 q] at h; exact absurd h (by decide)
/-- the exceptions by numbers -/
def exT : Nat → Option String
  | 0 => none
  | 1 => some eIOB
  | 2 => some eIAE
  | _ => some eISE
def nT : Nat → Nat
  | 0 => 0
  | _ => 1
def exB (E : String) (c : Prop) [Decidable c] : Option String := if c then some E else none
def nB (c : Prop) [Decidable c] : Nat := if c then 1 else 0
theorem nb_of {x c : Int32} {N : Nat} (hc : c = nI N) (hN : N < 2 ^ 31) (h : ¬ bad x c) : ∃ a : Nat, a < N ∧ x = nI a := by
  have h1 : ¬ x < 0 := fun q => h (Or.inl q)
  have h2 : x < c := Classical.byContradiction fun q => h (Or.inr q)
  obtain ⟨a, ha, rfl⟩ := nI_of h1
  exact ⟨a, by rw [hc] at h2; exact (nI_ltI ha hN).mp h2, rfl⟩
theorem nb_in {a N : Nat} (ha : a < N) (hN : N < 2 ^ 31) : ¬ bad (nI a) (nI N) := by
  rintro (h | h)
  · exact nI_pos (by omega) h
  · exact h (nI_lt ha hN)
theorem i32_le {x y : Int32} : x ≤ y ↔ x.toInt ≤ y.toInt := Int32.le_iff_toInt_le
theorem i32_lt {x y : Int32} : x < y ↔ x.toInt < y.toInt := Int32.lt_iff_toInt_lt
theorem i32_eq {x y : Int32} : x = y ↔ x.toInt = y.toInt := ⟨fun h => by rw [h], fun h => Int32.toInt_inj.mp h⟩
section GN
variable {p : Program} {l : Launch} {e : Env} {R : Room} {s : State} {m : MethodId} {args : Array Value} {below : List Frame} {meth : Method} {c : Code}
variable {cc : ByteArray} {nL : Nat} {own : String} {Ts : List Cond} {D : va_G} {TY : List (ClassId × FieldType)} {A : Nat → Prop}
variable {k j : Nat} {Q : State → Prop} {w : va_W} {lv : List (Nat × Value)} {pc : Nat} {st rest : List Value}
theorem g_iaddN (a b : Nat) (C : gC p s m args meth c cc nL own Ts D TY A) (hd : decode cc pc = .ok (.iadd, 1)) (K : G p l e R s m args below meth c D A nL k j Q w lv (pc + 1) (.int (nI (a + b)) :: st)) : G p l e R s m args below meth c D A nL k j Q w lv pc (.int (nI b) :: .int (nI a) :: st) :=
  g_iadd C hd (by rw [nI_add]; exact K)
theorem g_imulN (a b : Nat) (C : gC p s m args meth c cc nL own Ts D TY A) (hd : decode cc pc = .ok (.imul, 1)) (K : G p l e R s m args below meth c D A nL k j Q w lv (pc + 1) (.int (nI (a * b)) :: st)) : G p l e R s m args below meth c D A nL k j Q w lv pc (.int (nI b) :: .int (nI a) :: st) :=
  g_imul C hd (by rw [pk_mul]; exact K)
theorem g_isubN (a b : Nat) (C : gC p s m args meth c cc nL own Ts D TY A) (h : b ≤ a) (hd : decode cc pc = .ok (.isub, 1)) (K : G p l e R s m args below meth c D A nL k j Q w lv (pc + 1) (.int (nI (a - b)) :: st)) : G p l e R s m args below meth c D A nL k j Q w lv pc (.int (nI b) :: .int (nI a) :: st) :=
  g_isub C hd (by rw [pk_sub h]; exact K)
theorem g_iincN {i : Nat} {n : Int} (q a b : Nat) (lv' : List (Nat × Value)) (C : gC p s m args meth c cc nL own Ts D TY A) (hd : decode cc pc = .ok (.iinc i n, 3)) (hj : lv[q]? = some (i, .int (nI a))) (hv : Int32.ofInt n = nI b) (hn : i < nL) (hl : (i, Value.int (nI (a + b))) :: lv.filter (fun q => !(q.1 == i) && !(q.1 + 1 == i && q.2.category == 2)) = lv') (K : G p l e R s m args below meth c D A nL k j Q w lv' (pc + 3) st) : G p l e R s m args below meth c D A nL k j Q w lv pc st :=
  g_iinc q (nI (a + b)) lv' C hd hj (by rw [hv, nI_add]) hn hl K
theorem g_ialdN {cA : ClassId} {n a : Nat} {f : Nat → Int32} (i q0 t0 : Nat) (C : gC p s m args meth c cc nL own Ts D TY A) (ha : w[q0]? = some (a, .inl (cA, n, .inl f))) (ht : TY[t0]? = some (cA, .int)) (hin : i < n) (hN : n < 2 ^ 31) (hd : decode cc pc = .ok (.iaload, 1)) (K : G p l e R s m args below meth c D A nL k j Q w lv (pc + 1) (.int (f i) :: st)) : G p l e R s m args below meth c D A nL k j Q w lv pc (.int (nI i) :: .ref a :: st) :=
  g_iald q0 t0 C ha ht (vp_in_nI hin hN) hd (by rw [nI_clamp (by omega)]; exact K)
theorem g_iastN {cA : ClassId} {n a : Nat} {f : Nat → Int32} {x : Int32} (i q0 t0 : Nat) (w' : va_W) (C : gC p s m args meth c cc nL own Ts D TY A) (ha : w[q0]? = some (a, .inl (cA, n, .inl f))) (ht : TY[t0]? = some (cA, .int)) (hin : i < n) (hN : n < 2 ^ 31) (hw' : w.set q0 (a, .inl (cA, n, .inl (upd f i x))) = w') (hd : decode cc pc = .ok (.iastore, 1)) (K : G p l e R s m args below meth c D A nL k j Q w' lv (pc + 1) st) : G p l e R s m args below meth c D A nL k j Q w lv pc (.int x :: .int (nI i) :: .ref a :: st) :=
  g_iast q0 t0 w' C ha ht (vp_in_nI hin hN) (by rw [nI_clamp (by omega)]; exact hw') hd K
end GN
section GM
variable {p : Program} {l : Launch} {e : Env} {R : Room} {s : State} {m : MethodId} {args : Array Value} {below : List Frame} {meth : Method} {c : Code}
variable {cc : ByteArray} {nL : Nat} {own : String} {Ts : List Cond} {D : va_G} {TY : List (ClassId × FieldType)} {A : Nat → Prop}
variable {k j : Nat} {Q : State → Prop} {w : va_W} {lv : List (Nat × Value)} {pc : Nat} {st rest : List Value}
variable {y : MethodName} {bytes : ByteArray} {maxL fr lo ix na : Nat} {ret : Option FieldType} {ws ws' : List Cond} {av As : List Value} {w1 : va_W} {rv : Option Value}
theorem g_callS0 (hM : MC l y ws fr lo D TY av w w1 none rv 0) (C : gC p s m args meth c cc nL own Ts D TY A) (hG : GoodIn Ts (va_wsS own ix y ws)) (hw : ws = Cond.code y bytes maxL ret :: ws')
    (hd : y.cls ≠ "java/lang/invoke/MethodHandle" ∧ y.cls ≠ "java/lang/invoke/VarHandle" ∧ (parseMethodDescriptor y.desc).map (fun d => d.parameters.length) = some na) (hna : av.length = na) (hR : fr + 1 ≤ R.frames ∧ 8 + (maxL + 11) + lo ≤ R.locals)
    (hst : st = av.reverse ++ rest) (hW : (rest.map fun v => v.category).sum ≤ 8) (hf : k ≤ R.cells ∧ j ≤ R.slots) (hm : w1.map Prod.fst = w.map Prod.fst) (hdg : decode cc pc = .ok (.invokestatic ix, 3))
    (KK : G p l e R s m args below meth c D A nL k j Q w1 lv (pc + 3) (rv.toList ++ rest)) : G p l e R s m args below meth c D A nL k j Q w lv pc st :=
  g_callS (fun w => w) wX_id hM C hG hw hd hna hR hst hW hf hm hdg KK
theorem g_callV0 {C0 : String} {fs : List Value} {T : u_T} {N b ci : Nat} (hM : MC l y ws fr lo D TY (.ref b :: As) w w1 none rv 0) (C : gC p s m args meth c cc nL own Ts D TY A) (hG : GoodIn Ts (wsV own ix C0 y ws)) (hw : ws = Cond.code y bytes maxL ret :: ws')
    (hd : y.cls = C0 ∧ y.cls ≠ "java/lang/invoke/MethodHandle" ∧ y.cls ≠ "java/lang/invoke/VarHandle" ∧ (parseMethodDescriptor y.desc).map (fun d => d.parameters.length) = some na) (hna : As.length = na) (hR : fr + 1 ≤ R.frames ∧ 8 + (maxL + 11) + lo ≤ R.locals)
    (he : w[0]? = some (b, .inr (ci, fs))) (hc : vwCl[ci]? = some (C0, T, N))
    (hst : st = As.reverse ++ .ref b :: rest) (hW : (rest.map fun v => v.category).sum ≤ 8) (hf : k ≤ R.cells ∧ j ≤ R.slots) (hm : w1.map Prod.fst = w.map Prod.fst) (hdg : decode cc pc = .ok (.invokevirtual ix, 3))
    (KK : G p l e R s m args below meth c D A nL k j Q w1 lv (pc + 3) (rv.toList ++ rest)) : G p l e R s m args below meth c D A nL k j Q w lv pc st :=
  g_callV (fun w => w) wX_id hM C hG hw hd hna hR he hc hst hW hf hm hdg KK
end GM
end
section
/-! What the book's methods answer, as functions of its state. -/
section GX
variable {p : Program} {l : Launch} {e : Env} {R : Room} {s : State} {m : MethodId} {args : Array Value} {below : List Frame} {meth : Method} {c : Code}
variable {cc : ByteArray} {nL : Nat} {own : String} {Ts : List Cond} {D : va_G} {TY : List (ClassId × FieldType)} {A : Nat → Prop}
variable {k j : Nat} {Q : State → Prop} {w : va_W} {lv : List (Nat × Value)} {pc : Nat} {st rest : List Value}
theorem g_max {ix : Nat} {x y : Int32} (C : gC p s m args meth c cc nL own Ts D TY A) (h1 : Cond.methodLink own ix Lib.Math.max.name ∈ Ts) (h2 : Cond.static Lib.Math.max.name ∈ Ts) (h3 : Cond.initialized "java/lang/Math" ∈ Ts) (h4 : Cond.code Lib.Math.max.name Lib.Math.max.code 2 (some .int) ∈ Ts) (hf : 1 ≤ R.frames) (hl : (st.map fun v => v.category).sum + 13 ≤ R.locals) (hc : k ≤ R.cells) (hs : j ≤ R.slots) (hd : decode cc pc = .ok (.invokestatic ix, 3)) (K : G p l e R s m args below meth c D A nL k j Q w lv (pc + 3) (.int (if x < y then y else x) :: st)) : G p l e R s m args below meth c D A nL k j Q w lv pc (.int y :: .int x :: st) :=
  fun H locs ls hP hD hS hv => va_mmax C.1 C.2.1 (C.2.2.1.trans hv.1.symm) C.2.2.2.1 (C.2.2.2.2.1 _ h1) (C.2.2.2.2.1 _ h2) (C.2.2.2.2.1 _ h3) (C.2.2.2.2.1 _ h4) hf hl hc hs hd (K H locs ls hP hD hS hv)
theorem g_min {ix : Nat} {x y : Int32} (C : gC p s m args meth c cc nL own Ts D TY A) (h1 : Cond.methodLink own ix Lib.Math.min.name ∈ Ts) (h2 : Cond.static Lib.Math.min.name ∈ Ts) (h3 : Cond.initialized "java/lang/Math" ∈ Ts) (h4 : Cond.code Lib.Math.min.name Lib.Math.min.code 2 (some .int) ∈ Ts) (hf : 1 ≤ R.frames) (hl : (st.map fun v => v.category).sum + 13 ≤ R.locals) (hc : k ≤ R.cells) (hs : j ≤ R.slots) (hd : decode cc pc = .ok (.invokestatic ix, 3)) (K : G p l e R s m args below meth c D A nL k j Q w lv (pc + 3) (.int (if y < x then y else x) :: st)) : G p l e R s m args below meth c D A nL k j Q w lv pc (.int y :: .int x :: st) :=
  fun H locs ls hP hD hS hv => va_mmin C.1 C.2.1 (C.2.2.1.trans hv.1.symm) C.2.2.2.1 (C.2.2.2.2.1 _ h1) (C.2.2.2.2.1 _ h2) (C.2.2.2.2.1 _ h3) (C.2.2.2.2.1 _ h4) hf hl hc hs hd (K H locs ls hP hD hS hv)
theorem g_abs {ix : Nat} {x : Int32} (C : gC p s m args meth c cc nL own Ts D TY A) (h1 : Cond.methodLink own ix Lib.Math.abs.name ∈ Ts) (h2 : Cond.static Lib.Math.abs.name ∈ Ts) (h3 : Cond.initialized "java/lang/Math" ∈ Ts) (h4 : Cond.code Lib.Math.abs.name Lib.Math.abs.code 1 (some .int) ∈ Ts) (hf : 1 ≤ R.frames) (hl : (st.map fun v => v.category).sum + 13 ≤ R.locals) (hc : k ≤ R.cells) (hs : j ≤ R.slots) (hd : decode cc pc = .ok (.invokestatic ix, 3)) (K : G p l e R s m args below meth c D A nL k j Q w lv (pc + 3) (.int (if 0 ≤ x then x else 0 - x) :: st)) : G p l e R s m args below meth c D A nL k j Q w lv pc (.int x :: st) :=
  fun H locs ls hP hD hS hv => va_mabs C.1 C.2.1 (C.2.2.1.trans hv.1.symm) C.2.2.2.1 (C.2.2.2.2.1 _ h1) (C.2.2.2.2.1 _ h2) (C.2.2.2.2.1 _ h3) (C.2.2.2.2.1 _ h4) hf hl hc hs hd (K H locs ls hP hD hS hv)
end GX
/-- the counts and the places that the book's numbers point at -/
def iA (σ : gS) (np nt no ni : Nat) : Prop := (σ.1 0 = nI np ∧ np ≤ 6) ∧ (σ.1 1 = nI nt ∧ nt ≤ 12) ∧ (σ.1 2 = nI no ∧ no ≤ 10) ∧ (σ.1 3 = nI ni ∧ ni ≤ 8) ∧ (∀ t, ∃ j, j < 6 ∧ σ.2 1 t = nI j) ∧ (∀ q, ∃ j, j ≤ 12 ∧ σ.2 4 q = nI j) ∧ (∀ q, ∃ j, j < 4 ∧ σ.2 8 q = nI j)
abbrev cl (x : Int32) : Nat := x.toNatClampNeg
theorem cl_nI {n : Nat} (h : n < 2 ^ 31) : cl (nI n) = n := nI_clamp h
def rowS (L : Nat → Int32) (r : Nat) : Nat → Int32 := isum (fun t => L (r * 12 + t))
def tubS (L : Nat → Int32) (t f : Nat) : Nat → Int32 := isum (fun i => L ((f + i) * 12 + t))
def mvL (L : Nat → Int32) (f t : Nat) (fl : Nat → Int32) : Nat → Nat → Int32
  | 0 => L
  | n + 1 => upd (upd (mvL L f t fl n) (f * 12 + n) (mvL L f t fl n (f * 12 + n) - fl n)) (t * 12 + n) (upd (mvL L f t fl n) (f * 12 + n) (mvL L f t fl n (f * 12 + n) - fl n) (t * 12 + n) + fl n)
def flw (L : Nat → Int32) (r : Nat) (g all : Int32) : Nat → Int32 := fun n => (rowS L r n + L (r * 12 + n)) * g / all - rowS L r n * g / all
theorem mvL_at (L : Nat → Int32) (f t : Nat) (fl : Nat → Int32) : ∀ (n m : Nat), n ≤ m → m < 12 → mvL L f t fl n (f * 12 + m) = L (f * 12 + m)
  | 0, m, _, _ => rfl
  | n + 1, m, h, h2 => by
    have h1 : f * 12 + m ≠ f * 12 + n := by omega
    have h3 : f * 12 + m ≠ t * 12 + n := by omega
    rw [mvL, upd, if_neg h3, upd, if_neg h1]
    exact mvL_at L f t fl n m (by omega) h2
def wsL (L : Nat → Int32) (r : Nat) : Nat → Nat → Int32
  | 0 => L
  | n + 1 => upd (upd (wsL L r n) (r * 12 + n) 0) (106 * 12 + n) (upd (wsL L r n) (r * 12 + n) 0 (106 * 12 + n) + L (r * 12 + n))
theorem wsL_at (L : Nat → Int32) (r : Nat) : ∀ (n m : Nat), n ≤ m → m < 12 → r < 106 → wsL L r n (r * 12 + m) = L (r * 12 + m)
  | 0, m, _, _, _ => rfl
  | n + 1, m, h, h2, h4 => by
    have h1 : r * 12 + m ≠ r * 12 + n := by omega
    have h3 : r * 12 + m ≠ 106 * 12 + n := by omega
    rw [wsL, upd, if_neg h3, upd, if_neg h1]
    exact wsL_at L r n m (by omega) h2 h4
def colT (σ : gS) (t ch : Nat) : Int32 := σ.2 0 (cl (σ.2 1 t) * 3 + ch)
def colR (σ : gS) (nt r ch : Nat) : Int32 := if rowS (σ.2 3) r nt = 0 then -1 else isum (fun t => σ.2 3 (r * 12 + t) * colT σ t ch) nt / rowS (σ.2 3) r nt
def gopN (σ : gS) (r : Nat) (k : Int32) : Nat → Int32
  | 0 => 0
  | n + 1 => if σ.2 1 n = k then gopN σ r k n + σ.2 3 (r * 12 + n) else gopN σ r k n
def mpr (g : Nat → Int32) : Nat → Int32 × Int32
  | 0 => (-1, 0)
  | n + 1 => if g n ≤ (mpr g n).2 then mpr g n else (nI n, g n)
def mixd (σ : gS) (a b : Nat) (q : Int32) (ch : Nat) : Int32 := (q * colT σ a ch + (4 - q) * colT σ b ch) / 4
def topR (σ : gS) (q : Nat) : Nat := 10 + q * 12 + (cl (σ.2 4 q) - 1)
def mpo (σ : gS) (np nt q : Nat) : Int32 := if σ.2 4 q = 0 then -1 else (mpr (fun k => gopN σ (topR σ q) (nI k) nt) np).1
def lko (σ : gS) (nt q ch : Nat) : Int32 := if σ.2 4 q = 0 then -1 else colR σ nt (topR σ q) ch
def alk (σ : gS) (np nt : Nat) (mn : Int32) : Nat → Int32 × Int32
  | 0 => (0, 0)
  | n + 1 => if ¬ σ.2 6 n ≤ 0 ∧ mpo σ np nt n = mn then ((alk σ np nt mn n).1 + σ.2 6 n, (alk σ np nt mn n).2 + 1) else alk σ np nt mn n
def avgA (σ : gS) (np nt ni q : Nat) : Int32 := if mpo σ np nt q = -1 then 0 else if (alk σ np nt (mpo σ np nt q) ni).2 = 0 then 0 else (alk σ np nt (mpo σ np nt q) ni).1 / (alk σ np nt (mpo σ np nt q) ni).2
def valA (σ : gS) (np nt ni q : Nat) : Int32 := if 0 < avgA σ np nt ni q - σ.2 5 q * (avgA σ np nt ni q / 20) then avgA σ np nt ni q - σ.2 5 q * (avgA σ np nt ni q / 20) else 0
def lentD (σ : gS) (d : Int32) (q : Nat) : Int32 := if σ.2 7 q < d then σ.2 7 q else d
def harm (σ : gS) (h : Nat) : Prop := ¬ (if 0 ≤ σ.2 10 h - 50 then σ.2 10 h - 50 else 0 - (σ.2 10 h - 50)) ≤ 10
def pfl (σ : gS) (d : Int32) (q : Nat) : gS :=
  sA (sA (if (if 0 ≤ σ.2 10 (cl (σ.2 8 q)) - 50 then σ.2 10 (cl (σ.2 8 q)) - 50 else 0 - (σ.2 10 (cl (σ.2 8 q)) - 50)) ≤ 10 then σ else sA σ 5 (upd (σ.2 5) q (σ.2 5 q + lentD σ d q))) 11 (upd (σ.2 11) (cl (σ.2 8 q)) (σ.2 11 (cl (σ.2 8 q)) + lentD σ d q * σ.2 9 q))) 7 (upd (σ.2 7) q (σ.2 7 q - lentD σ d q))
theorem i32_nle {x y : Int32} (h : x < y) : ¬ y ≤ x := by rw [i32_le]; rw [i32_lt] at h; omega
theorem i32_ge {x y : Int32} (h : ¬ x < y) : y ≤ x := by rw [i32_le]; rw [i32_lt] at h; omega
theorem i32_n1 {x g : Int32} (hg : 1 ≤ g) (h : ¬ x < g) : ¬ x < 1 := by
  rw [i32_lt] at h ⊢; rw [i32_le] at hg; omega
theorem i32_n0 {x g : Int32} (hg : 1 ≤ g) (h : ¬ x < g) : ¬ x = 0 := by
  intro e
  rw [e] at h
  exact h (by rw [i32_lt]; rw [i32_le] at hg; exact Int.lt_of_lt_of_le (by decide) hg)
theorem out_nat {x : Int32} {M : Nat} {lo hi : Int32} (hh : hi = nI M) (h0 : 0 ≤ lo.toInt ∧ M < 2 ^ 31) (h : ¬ out x lo hi) : ∃ a : Nat, (lo.toInt ≤ (a : Int) ∧ a ≤ M) ∧ x = nI a := by
  have h1 : ¬ x < lo := fun q => h (Or.inl q)
  have h2 : x ≤ hi := Classical.byContradiction fun q => h (Or.inr q)
  have h3 : ¬ x < 0 := by rw [i32_lt] at h1 ⊢; simp; omega
  obtain ⟨a, ha, rfl⟩ := nI_of h3
  refine ⟨a, ⟨?_, ?_⟩, rfl⟩
  · rw [i32_lt, nI_toInt ha] at h1; omega
  · rw [hh] at h2; exact (nI_leI ha h0.2).mp h2
theorem out_lo {x lo hi : Int32} (h : ¬ out x lo hi) : lo ≤ x := by
  have h1 : ¬ x < lo := fun q => h (Or.inl q)
  rw [i32_lt] at h1; rw [i32_le]; omega
end
section
/-! The book's calls: which exception (0 none, 1 index, 2 argument, 3 state), the answer, the next state. -/
def th_pigment (np : Nat) (r g b : Int32) : Nat := if out r 0 255 ∨ out g 0 255 ∨ out b 0 255 then 2 else if ¬ nI np < 6 then 3 else 0
def s_pigment (σ : gS) (np : Nat) (r g b : Int32) : gS := sS (sA σ 0 (upd (upd (upd (σ.2 0) (np * 3) r) (np * 3 + 1) g) (np * 3 + 2) b)) 0 (nI (np + 1))
def th_tube (np nt : Nat) (x g : Int32) : Nat := if bad x (nI np) then 1 else if out g 1 1000 then 2 else if ¬ nI nt < 12 then 3 else 0
def s_tube (σ : gS) (nt : Nat) (x g : Int32) : gS := sS (sA (sA σ 1 (upd (σ.2 1) nt x)) 2 (upd (σ.2 2) nt g)) 1 (nI (nt + 1))
def th_pot (no : Nat) : Nat := if ¬ nI no < 10 then 3 else 0
def th_picture (ni : Nat) : Nat := if ¬ nI ni < 8 then 3 else 0
def th_squeeze (σ : gS) (nt no : Nat) (x t g : Int32) : Nat := if bad x (nI no) ∨ bad t (nI nt) then 1 else if out g 1 1000 then 2 else if ¬ g ≤ σ.2 2 (cl t) then 3 else 0
def s_squeeze (σ : gS) (x t : Nat) (g : Int32) : gS := sA (sA σ 2 (upd (σ.2 2) t (σ.2 2 t - g))) 3 (upd (σ.2 3) (x * 12 + t) (σ.2 3 (x * 12 + t) + g))
def th_pour (σ : gS) (nt no : Nat) (x y g : Int32) : Nat := if bad x (nI no) ∨ bad y (nI no) then 1 else if x = y ∨ out g 1 12000 then 2 else if rowS (σ.2 3) (cl x) nt < g then 3 else 0
def mvS (σ : gS) (nt f t : Nat) (g : Int32) : Nat → Int32 := mvL (σ.2 3) f t (flw (σ.2 3) f g (rowS (σ.2 3) f nt)) nt
def th_scrape (no : Nat) (x : Int32) : Nat := if bad x (nI no) then 1 else 0
def th_paint (σ : gS) (nt no ni : Nat) (q x g : Int32) : Nat := if bad q (nI ni) ∨ bad x (nI no) then 1 else if out g 1 1000 then 2 else if ¬ σ.2 7 (cl q) ≤ 0 ∨ ¬ σ.2 4 (cl q) < 12 ∨ rowS (σ.2 3) (cl x) nt < g then 3 else 0
def s_paint (σ : gS) (nt q x : Nat) (g : Int32) : gS := sA (sA σ 3 (mvS σ nt x (10 + q * 12 + cl (σ.2 4 q)) g)) 4 (upd (σ.2 4) q (nI (cl (σ.2 4 q) + 1)))
def th_clean (σ : gS) (ni : Nat) (q n : Int32) : Nat := if bad q (nI ni) then 1 else if out n 1 12 then 2 else if ¬ σ.2 7 (cl q) ≤ 0 ∨ ¬ n ≤ σ.2 4 (cl q) then 3 else 0
def clL (L : Nat → Int32) (nt q lc : Nat) : Nat → Nat → Int32
  | 0 => L
  | k + 1 => wsL (clL L nt q lc k) (10 + q * 12 + (lc - k - 1)) nt
def clS (L : Nat → Int32) (nt q lc : Nat) : Nat → Int32
  | 0 => 0
  | k + 1 => clS L nt q lc k + rowS (clL L nt q lc k) (10 + q * 12 + (lc - k - 1)) nt
def s_clean (σ : gS) (nt q n : Nat) : gS := sA (sA σ 3 (clL (σ.2 3) nt q (cl (σ.2 4 q)) n)) 4 (upd (σ.2 4) q (nI (cl (σ.2 4 q) - n)))
def th_damp (h d : Int32) : Nat := if bad h 4 then 1 else if out d 0 100 then 2 else 0
def th_lend (σ : gS) (ni : Nat) (q h d : Int32) : Nat := if bad q (nI ni) ∨ bad h 4 then 1 else if out d 1 100 then 2 else if ¬ σ.2 7 (cl q) ≤ 0 ∨ ¬ σ.2 5 (cl q) < 10 then 3 else 0
def s_lend (σ : gS) (np nt ni q h : Nat) (d : Int32) : gS := sA (sA (sA σ 9 (upd (σ.2 9) q (valA σ np nt ni q / 100 + 1))) 8 (upd (σ.2 8) q (nI h))) 7 (upd (σ.2 7) q d)
def th_sell (σ : gS) (ni : Nat) (q x : Int32) : Nat := if bad q (nI ni) then 1 else if out x 1 100000 then 2 else if ¬ σ.2 7 (cl q) ≤ 0 ∨ σ.2 4 (cl q) = 0 then 3 else 0
def s_sell (σ : gS) (q : Nat) (x : Int32) : gS := sA σ 6 (upd (σ.2 6) q x)
def th_pass (σ : gS) (d : Int32) : Nat := if out d 1 100 then 2 else if ¬ σ.1 4 + d ≤ 5000 then 3 else 0
def pfls (σ : gS) (d : Int32) : Nat → gS
  | 0 => σ
  | k + 1 => pfl (pfls σ d k) d k
def th_left (nt : Nat) (t : Int32) : Nat := if bad t (nI nt) then 1 else 0
def th_has (nt no : Nat) (x t : Int32) : Nat := if bad x (nI no) then 1 else if ¬ t = -1 ∧ bad t (nI nt) then 1 else 0
def r_has (σ : gS) (nt x : Nat) (t : Int32) : Int32 := if t = -1 then rowS (σ.2 3) x nt else σ.2 3 (x * 12 + cl t)
def th_colour (no : Nat) (x v : Int32) : Nat := if bad x (nI no) then 1 else if out v 0 2 then 2 else 0
def th_of (ni : Nat) (q v : Int32) : Nat := if bad q (nI ni) then 1 else if out v 0 8 then 2 else 0
def r_of (σ : gS) (np nt ni q v : Nat) : Int32 := if v = 0 then σ.2 4 q else if v = 1 then σ.2 5 q else if v = 2 then valA σ np nt ni q else if v = 3 then mpo σ np nt q else if v = 4 then (if ¬ σ.2 7 q ≤ 0 then σ.2 8 q else -1) else if v = 5 then σ.2 7 q else lko σ nt q (v - 6)
def th_layer (σ : gS) (nt ni : Nat) (q k t : Int32) : Nat := if bad q (nI ni) ∨ bad k (σ.2 4 (cl q)) ∨ bad t (nI nt) then 1 else 0
def th_where (nt : Nat) (t v : Int32) : Nat := if bad t (nI nt) then 1 else if out v 0 3 then 2 else 0
def r_where (σ : gS) (t v : Nat) : Int32 := if v = 0 then σ.2 2 t else if v = 1 then tubS (σ.2 3) t 0 10 else if v = 2 then tubS (σ.2 3) t 10 96 else tubS (σ.2 3) t 106 1
def th_recipe (r g b : Int32) : Nat := if out r 0 255 ∨ out g 0 255 ∨ out b 0 255 then 2 else 0
def th_paid (h : Int32) : Nat := if bad h 4 then 1 else 0
theorem upd_id {f : Nat → Int32} {k : Nat} {x : Int32} (h : f k = x) : upd f k x = f := by
  funext j; by_cases e : j = k
  · rw [upd, if_pos e, e, h]
  · rw [upd, if_neg e]
theorem upd_two (f : Nat → Int32) (k : Nat) (x y : Int32) : upd (upd f k x) k y = upd f k y := by
  funext j; by_cases e : j = k
  · rw [upd, if_pos e, upd, if_pos e]
  · rw [upd, if_neg e, upd, if_neg e, upd, if_neg e]
theorem iA_LC {σ : gS} {np nt no ni : Nat} (h : iA σ np nt no ni) (f : Nat → Int32) (q : Nat) {j : Nat} (hj : j ≤ 12) : iA (sA (sA σ 3 f) 4 (upd (σ.2 4) q (nI j))) np nt no ni := by
  obtain ⟨h1, h2, h3, h4, h5, h6, h7⟩ := h
  refine ⟨h1, h2, h3, h4, h5, fun p => ?_, h7⟩
  show ∃ j', j' ≤ 12 ∧ upd (σ.2 4) q (nI j) p = nI j'
  by_cases e : p = q
  · exact ⟨j, hj, by rw [upd, if_pos e]⟩
  · rw [upd, if_neg e]; exact h6 p
theorem pfl_1 (σ : gS) (d : Int32) (q : Nat) : (pfl σ d q).1 = σ.1 := by
  rw [pfl]
  repeat' split
  all_goals rfl
theorem pfl_2 (σ : gS) (d : Int32) (q k : Nat) (h5 : k ≠ 5) (h7 : k ≠ 7) (h11 : k ≠ 11) : (pfl σ d q).2 k = σ.2 k := by
  rw [pfl]
  repeat' split
  all_goals simp [sA, va_up, h5, h7, h11]
theorem iA_pfl {σ : gS} {np nt no ni : Nat} (h : iA σ np nt no ni) (d : Int32) (q : Nat) : iA (pfl σ d q) np nt no ni := by
  obtain ⟨h1, h2, h3, h4, h5, h6, h7⟩ := h
  unfold iA
  rw [pfl_1, pfl_2 _ _ _ _ (by decide) (by decide) (by decide), pfl_2 _ _ _ _ (by decide) (by decide) (by decide), pfl_2 _ _ _ _ (by decide) (by decide) (by decide)]
  exact ⟨h1, h2, h3, h4, h5, h6, h7⟩
theorem iA_pfls {σ : gS} {np nt no ni : Nat} (h : iA σ np nt no ni) (d : Int32) : ∀ k, iA (pfls σ d k) np nt no ni
  | 0 => h
  | k + 1 => iA_pfl (iA_pfls h d k) d k
theorem pfls_1 (σ : gS) (d : Int32) : ∀ k, (pfls σ d k).1 = σ.1
  | 0 => rfl
  | k + 1 => (pfl_1 _ _ _).trans (pfls_1 σ d k)
def rstep (d key : Int32) (s : Int32 × Int32) : Int32 × Int32 := if s.1 = -1 ∨ ¬ s.2 ≤ d then (key, d) else s
def rdist (σ : gS) (a b q : Nat) (r g bb : Int32) : Int32 := (mixd σ a b (nI q) 0 - r) * (mixd σ a b (nI q) 0 - r) + (mixd σ a b (nI q) 1 - g) * (mixd σ a b (nI q) 1 - g) + (mixd σ a b (nI q) 2 - bb) * (mixd σ a b (nI q) 2 - bb)
def rP (σ : gS) (r g bb : Int32) (a b : Nat) (s : Int32 × Int32) : Nat → Int32 × Int32
  | 0 => s
  | q + 1 => rstep (rdist σ a b q r g bb) (nI (1000 * a + 10 * b + q)) (rP σ r g bb a b s q)
def rB (σ : gS) (r g bb : Int32) (a : Nat) (s : Int32 × Int32) : Nat → Int32 × Int32
  | 0 => s
  | k + 1 => if σ.2 2 a = 0 ∨ σ.2 2 (a + k) = 0 then rB σ r g bb a s k else rP σ r g bb a (a + k) (rB σ r g bb a s k) 5
def rA (σ : gS) (r g bb : Int32) (nt : Nat) : Nat → Int32 × Int32
  | 0 => (-1, 0)
  | i + 1 => rB σ r g bb i (rA σ r g bb nt i) (nt - i)
end
section
/-! What the reference's methods answer, as functions of its state. -/
def iM0 (τ : gS) (np nt no ni : Nat) : Prop := (τ.1 1 = nI np ∧ np ≤ 6) ∧ (τ.1 2 = nI nt ∧ nt ≤ 12) ∧ (τ.1 3 = nI no ∧ no ≤ 10) ∧ (τ.1 4 = nI ni ∧ ni ≤ 8) ∧ (∀ t, ∃ j, j < 6 ∧ τ.2 1 t = nI j) ∧ (∀ q, ∃ j, j ≤ 12 ∧ τ.2 5 q = nI j) ∧ (∀ q, τ.2 9 q = -1 ∨ ∃ j, j < 4 ∧ τ.2 9 q = nI j)
def mS : Nat → gS → gS → gS
  | 0, _, b => b
  | k + 1, τ, _ => sS τ 0 (nI (k + 1))
def mR : Nat → Int32 → Int32
  | 0, r => r
  | _ + 1, _ => 0
theorem bI_congr {P P' : Prop} [Decidable P] [Decidable P'] (h : P ↔ P') : bI P = bI P' := by
  unfold bI; by_cases q : P
  · rw [if_pos q, if_pos (h.mp q)]
  · rw [if_neg q, if_neg (fun z => q (h.mpr z))]
theorem in_bad {x : Int32} {n : Nat} (hn : n ≤ 2000) : ¬ out x 0 (nI n - 1) ↔ ¬ bad x (nI n) := by
  have e : (nI n - 1 : Int32).toInt = (n : Int) - 1 := by
    have := pk_sub_toInt (a := n) (b := 1) (by omega) (by decide)
    exact this
  have e2 : (nI n).toInt = n := nI_toInt (by omega)
  constructor
  · rintro h (q | q)
    · exact h (Or.inl q)
    · refine h (Or.inr fun z => q ?_)
      rw [i32_le, e] at z; rw [i32_lt, e2]; omega
  · rintro h (q | q)
    · exact h (Or.inl q)
    · refine h (Or.inr fun z => q ?_)
      rw [i32_lt, e2] at z; rw [i32_le, e]; omega
def potS (P : Nat → Int32) (p : Nat) : Nat → Int32 := isum (fun t => P (12 * p + t))
def flM (P : Nat → Int32) (p : Nat) (g : Int32) : Nat → Int32 := fun n => (potS P p n + P (12 * p + n)) * g / potS P p 12 - potS P p n * g / potS P p 12
def fillF (F fl : Nat → Int32) : Nat → Nat → Int32
  | 0 => F
  | n + 1 => upd (fillF F fl n) n (fl n)
def subF (P F : Nat → Int32) (b : Nat) : Nat → Nat → Int32
  | 0 => P
  | n + 1 => upd (subF P F b n) (b + n) (subF P F b n (b + n) - F n)
def addF (P F : Nat → Int32) (b : Nat) : Nat → Nat → Int32
  | 0 => P
  | n + 1 => upd (addF P F b n) (b + n) (addF P F b n (b + n) + F n)
def setF (P F : Nat → Int32) (b : Nat) : Nat → Nat → Int32
  | 0 => P
  | n + 1 => upd (setF P F b n) (b + n) (F n)
def zerB (P : Nat → Int32) (b : Nat) : Nat → Nat → Int32
  | 0 => P
  | n + 1 => upd (zerB P b n) (b + n) 0
def wstB (W P : Nat → Int32) (b : Nat) : Nat → Nat → Int32
  | 0 => W
  | n + 1 => upd (wstB W P b n) n (wstB W P b n n + zerB P b n (b + n))
def sumB (s : Int32) (P : Nat → Int32) (b : Nat) : Nat → Int32
  | 0 => s
  | n + 1 => sumB s P b n + zerB P b n (b + n)
def flwF (τ : gS) (p : Nat) (g : Int32) : Nat → Int32 := fillF (τ.2 14) (flM (τ.2 4) p g) 12
def flwS (τ : gS) (p : Nat) (g : Int32) : gS := sA (sA τ 14 (flwF τ p g)) 4 (subF (τ.2 4) (flwF τ p g) (12 * p) 12)
def clM (W P : Nat → Int32) (q lc : Nat) : Nat → (Nat → Int32) × (Nat → Int32) × Int32
  | 0 => (W, P, 0)
  | k + 1 => (wstB (clM W P q lc k).1 (clM W P q lc k).2.1 (12 * (12 * q + (lc - k - 1))) 12, zerB (clM W P q lc k).2.1 (12 * (12 * q + (lc - k - 1))) 12, sumB (clM W P q lc k).2.2 (clM W P q lc k).2.1 (12 * (12 * q + (lc - k - 1))) 12)
def smF (P PT : Nat → Int32) (b : Nat) : Nat → Nat → Int32
  | 0 => fun _ => 0
  | n + 1 => upd (smF P PT b n) (cl (PT n)) (smF P PT b n (cl (PT n)) + P (b + n))
def bst (F : Nat → Int32) : Nat → Nat
  | 0 => 0
  | i + 1 => if F (i + 1) ≤ F (bst F i) then bst F i else i + 1
def topB (τ : gS) (q : Nat) : Nat := 12 * (12 * q + (cl (τ.2 5 q) - 1))
def mnF (τ : gS) (nt : Nat) (f : Nat → Int32) (q : Nat) : Nat → Int32 := if τ.2 5 q = 0 then f else smF (τ.2 6) (τ.2 1) (topB τ q) nt
def mnM (τ : gS) (nt q : Nat) : Int32 := if τ.2 5 q = 0 then -1 else nI (bst (smF (τ.2 6) (τ.2 1) (topB τ q) nt) 5)
def colM (τ : gS) (t ch : Nat) : Int32 := τ.2 0 (3 * cl (τ.2 1 t) + ch)
def lkM (τ : gS) (nt q ch : Nat) : Int32 := if τ.2 5 q = 0 then -1 else isum (fun t => τ.2 6 (topB τ q + t) * colM τ t ch) nt / isum (fun t => τ.2 6 (topB τ q + t)) nt
def vsF (τ : gS) (nt : Nat) (its : Int32) (f : Nat → Int32) : Nat → Nat → Int32
  | 0 => f
  | n + 1 => if its = -1 ∨ τ.2 8 n ≤ 0 then vsF τ nt its f n else mnF τ nt (vsF τ nt its f n) n
def vlP (τ : gS) (nt : Nat) (its : Int32) : Nat → Int32 × Int32
  | 0 => (0, 0)
  | n + 1 => if ¬ (its = -1 ∨ τ.2 8 n ≤ 0) ∧ mnM τ nt n = its then ((vlP τ nt its n).1 + τ.2 8 n, (vlP τ nt its n).2 + 1) else vlP τ nt its n
def meanM (τ : gS) (nt ni q : Nat) : Int32 := if (vlP τ nt (mnM τ nt q) ni).2 = 0 then 0 else (vlP τ nt (mnM τ nt q) ni).1 / (vlP τ nt (mnM τ nt q) ni).2
def wrtM (τ : gS) (nt ni q : Nat) : Int32 := meanM τ nt ni q - τ.2 7 q * (meanM τ nt ni q / 20)
def valM (τ : gS) (nt ni q : Nat) : Int32 := if 0 ≤ wrtM τ nt ni q then wrtM τ nt ni q else 0
def valF (τ : gS) (nt ni q : Nat) : Nat → Int32 := vsF τ nt (mnM τ nt q) (mnF τ nt (τ.2 15) q) ni
def p1 (τ : gS) (q : Nat) : gS := if τ.2 9 q = -1 then τ else
  sA (sA (sA (sA τ 13 (upd (τ.2 13) (cl (τ.2 9 q)) (τ.2 13 (cl (τ.2 9 q)) + τ.2 11 q))) 7 (upd (τ.2 7) q (τ.2 7 q + (if ¬ out (τ.2 12 (cl (τ.2 9 q))) 40 60 then 0 else 1)))) 10 (upd (τ.2 10) q (τ.2 10 q - 1))) 9 (upd (τ.2 9) q (if ¬ τ.2 10 q - 1 = 0 then τ.2 9 q else -1))
def p1s (τ : gS) : Nat → gS
  | 0 => τ
  | k + 1 => p1 (p1s τ k) k
def pN (τ : gS) (ni : Nat) : Nat → gS
  | 0 => τ
  | k + 1 => p1s (sS (pN τ ni k) 5 ((pN τ ni k).1 5 + 1)) ni
def farM (τ : gS) (a b : Nat) (q : Int32) (ch : Nat) (x : Int32) : Int32 := ((q * colM τ a ch + (4 - q) * colM τ b ch) / 4 - x) * ((q * colM τ a ch + (4 - q) * colM τ b ch) / 4 - x)
def rdM (τ : gS) (a b q : Nat) (r g bb : Int32) : Int32 := farM τ a b (nI q) 0 r + farM τ a b (nI q) 1 g + farM τ a b (nI q) 2 bb
def rPM (τ : gS) (r g bb : Int32) (a b : Nat) (s : Int32 × Int32) : Nat → Int32 × Int32
  | 0 => s
  | q + 1 => rstep (rdM τ a b q r g bb) (nI (1000 * a + 10 * b + q)) (rPM τ r g bb a b s q)
def rBM (τ : gS) (r g bb : Int32) (a : Nat) (s : Int32 × Int32) : Nat → Int32 × Int32
  | 0 => s
  | k + 1 => if τ.2 2 a ≤ 0 ∨ τ.2 2 (a + k) ≤ 0 then rBM τ r g bb a s k else rPM τ r g bb a (a + k) (rBM τ r g bb a s k) 5
def rAM (τ : gS) (r g bb : Int32) (nt : Nat) : Nat → Int32 × Int32
  | 0 => (-1, 0)
  | i + 1 => rBM τ r g bb i (rAM τ r g bb nt i) (nt - i)
/-! the calls: thrown, the answer, the next state -/
def tm_pigment (np : Nat) (r g b : Int32) : Nat := if out r 0 255 ∨ out g 0 255 ∨ out b 0 255 then 1 else if nI np = 6 then 2 else 0
def m_pigment (τ : gS) (np : Nat) (r g b : Int32) : gS := sS (sA (sS τ 0 0) 0 (upd (upd (upd (τ.2 0) (3 * np) r) (3 * np + 1) g) (3 * np + 2) b)) 1 (nI (np + 1))
def tm_tube (np nt : Nat) (x g : Int32) : Nat := if bad x (nI np) then 1 else if out g 1 1000 then 2 else if nI nt = 12 then 3 else 0
def m_tube (τ : gS) (nt : Nat) (x g : Int32) : gS := sS (sA (sA (sS τ 0 0) 1 (upd (τ.2 1) nt x)) 2 (upd (τ.2 2) nt g)) 2 (nI (nt + 1))
def tm_pot (no : Nat) : Nat := if nI no = 10 then 1 else 0
def tm_picture (ni : Nat) : Nat := if nI ni = 8 then 1 else 0
def tm_squeeze (τ : gS) (nt no : Nat) (x t g : Int32) : Nat := if bad x (nI no) ∨ bad t (nI nt) then 1 else if out g 1 1000 then 2 else if ¬ g ≤ τ.2 2 (cl t) then 3 else 0
def m_squeeze (τ : gS) (x t : Nat) (g : Int32) : gS := sA (sA (sS τ 0 0) 2 (upd (τ.2 2) t (τ.2 2 t - g))) 4 (upd (τ.2 4) (12 * x + t) (τ.2 4 (12 * x + t) + g))
def tm_pour (τ : gS) (no : Nat) (x y g : Int32) : Nat := if bad x (nI no) ∨ bad y (nI no) then 1 else if x = y ∨ out g 1 12000 then 2 else if ¬ g ≤ potS (τ.2 4) (cl x) 12 then 3 else 0
def m_pour (τ : gS) (x y : Nat) (g : Int32) : gS := sA (sA (sS τ 0 0) 14 (flwF τ x g)) 4 (addF (subF (τ.2 4) (flwF τ x g) (12 * x) 12) (flwF τ x g) (12 * y) 12)
def tm_scrape (no : Nat) (x : Int32) : Nat := if bad x (nI no) then 1 else 0
def m_scrape (τ : gS) (x : Nat) : gS := sA (sA (sS τ 0 0) 3 (wstB (τ.2 3) (τ.2 4) (12 * x) 12)) 4 (zerB (τ.2 4) (12 * x) 12)
def tm_paint (τ : gS) (no ni : Nat) (q x g : Int32) : Nat := if bad q (nI ni) ∨ bad x (nI no) then 1 else if out g 1 1000 then 2 else if ¬ τ.2 9 (cl q) = -1 ∨ τ.2 5 (cl q) = 12 ∨ ¬ g ≤ potS (τ.2 4) (cl x) 12 then 3 else 0
def m_paint (τ : gS) (q x : Nat) (g : Int32) : gS := sA (sA (sA (sA (sS τ 0 0) 14 (flwF τ x g)) 4 (subF (τ.2 4) (flwF τ x g) (12 * x) 12)) 6 (setF (τ.2 6) (flwF τ x g) (12 * (12 * q + cl (τ.2 5 q))) 12)) 5 (upd (τ.2 5) q (nI (cl (τ.2 5 q) + 1)))
def tm_clean (τ : gS) (ni : Nat) (q n : Int32) : Nat := if bad q (nI ni) then 1 else if out n 1 12 then 2 else if ¬ τ.2 9 (cl q) = -1 ∨ ¬ n ≤ τ.2 5 (cl q) then 3 else 0
def m_clean (τ : gS) (q n : Nat) : gS := sA (sA (sA (sS τ 0 0) 5 (upd (τ.2 5) q (nI (cl (τ.2 5 q) - n)))) 3 (clM (τ.2 3) (τ.2 6) q (cl (τ.2 5 q)) n).1) 6 (clM (τ.2 3) (τ.2 6) q (cl (τ.2 5 q)) n).2.1
def tm_damp (h d : Int32) : Nat := if bad h 4 then 1 else if out d 0 100 then 2 else 0
def tm_lend (τ : gS) (ni : Nat) (q h d : Int32) : Nat := if bad q (nI ni) ∨ bad h 4 then 1 else if out d 1 100 then 2 else if ¬ τ.2 9 (cl q) = -1 ∨ ¬ τ.2 7 (cl q) < 10 then 3 else 0
def m_lend (τ : gS) (nt ni q : Nat) (h d : Int32) : gS := sA (sA (sA (sA (sS τ 0 0) 9 (upd (τ.2 9) q h)) 10 (upd (τ.2 10) q d)) 15 (valF τ nt ni q)) 11 (upd (τ.2 11) q (valM τ nt ni q / 100 + 1))
def tm_sell (τ : gS) (ni : Nat) (q x : Int32) : Nat := if bad q (nI ni) then 1 else if out x 1 100000 then 2 else if ¬ τ.2 9 (cl q) = -1 ∨ τ.2 5 (cl q) = 0 then 3 else 0
def m_sell0 (τ : gS) (q : Nat) (x : Int32) : gS := sA (sS τ 0 0) 8 (upd (τ.2 8) q x)
def tm_pass (τ : gS) (d : Int32) : Nat := if out d 1 100 then 1 else if ¬ τ.1 5 + d ≤ 5000 then 2 else 0
def tm_left (nt : Nat) (t : Int32) : Nat := if bad t (nI nt) then 1 else 0
def tm_has (nt no : Nat) (x t : Int32) : Nat := if bad x (nI no) then 1 else if ¬ t = -1 ∧ bad t (nI nt) then 1 else 0
def rm_has (τ : gS) (x : Nat) (t : Int32) : Int32 := if t = -1 then potS (τ.2 4) x 12 else τ.2 4 (12 * x + cl t)
def tm_colour (no : Nat) (x v : Int32) : Nat := if bad x (nI no) then 1 else if out v 0 2 then 2 else 0
def rm_colour (τ : gS) (nt x ch : Nat) : Int32 := if potS (τ.2 4) x 12 = 0 then -1 else isum (fun t => τ.2 4 (12 * x + t) * colM τ t ch) nt / potS (τ.2 4) x 12
def tm_of (ni : Nat) (q v : Int32) : Nat := if bad q (nI ni) then 1 else if out v 0 8 then 2 else 0
def rm_of (τ : gS) (nt ni q v : Nat) : Int32 := if v = 0 then τ.2 5 q else if v = 1 then τ.2 7 q else if v = 2 then valM τ nt ni q else if v = 3 then mnM τ nt q else if v = 4 then τ.2 9 q else if v = 5 then τ.2 10 q else lkM τ nt q (v - 6)
def sm_of (τ : gS) (nt ni q v : Nat) : gS := if v = 2 then sA (sS τ 0 0) 15 (valF τ nt ni q) else if v = 3 then sA (sS τ 0 0) 15 (mnF τ nt (τ.2 15) q) else sS τ 0 0
def tm_layer (τ : gS) (nt ni : Nat) (q k t : Int32) : Nat := if bad q (nI ni) ∨ bad k (τ.2 5 (cl q)) ∨ bad t (nI nt) then 1 else 0
def tm_where (nt : Nat) (t v : Int32) : Nat := if bad t (nI nt) then 1 else if out v 0 3 then 2 else 0
def rm_where (τ : gS) (no t v : Nat) : Int32 := if v = 0 then τ.2 2 t else if v = 1 then isum (fun p => τ.2 4 (12 * p + t)) no else if v = 2 then isum (fun k => τ.2 6 (12 * k + t)) 96 else τ.2 3 t
def tm_recipe (r g b : Int32) : Nat := if out r 0 255 ∨ out g 0 255 ∨ out b 0 255 then 1 else 0
def tm_paid (h : Int32) : Nat := if bad h 4 then 1 else 0
section GA
variable {p : Program} {l : Launch} {e : Env} {R : Room} {s : State} {m : MethodId} {args : Array Value} {below : List Frame} {meth : Method} {c : Code}
variable {D : va_G} {A : Nat → Prop} {nL k j : Nat} {Q : State → Prop} {w : va_W} {lv : List (Nat × Value)} {pc : Nat} {st : List Value}
/-- an array of the world holds only what lies below its length -/
theorem g_arr {cA : ClassId} {n a : Nat} {f f' : Nat → Int32} (q0 : Nat) (w' : va_W) (ha : w[q0]? = some (a, .inl (cA, n, .inl f))) (hw' : w.set q0 (a, .inl (cA, n, .inl f')) = w') (hf : ∀ i, i < n → f i = f' i)
    (K : G p l e R s m args below meth c D A nL k j Q w' lv pc st) : G p l e R s m args below meth c D A nL k j Q w lv pc st := by
  intro H locs ls hP hD hS hl
  have hc : vp_cell cA (n, .inl f) = vp_cell cA (n, .inl f') := by
    rw [vp_cell_i, vp_cell_i]
    unfold arrV
    congr 1
    apply Array.ext
    · simp
    · intro i h1 h2
      simp at h1 h2
      simp [hf i h1]
  refine K H locs ls ?_ ?_ hS hl
  · rw [← hw']
    intro i q hi
    by_cases e : i = q0
    · subst e
      have hlt := (List.getElem?_eq_some_iff.mp ha).1
      rw [List.getElem?_set_self hlt] at hi
      cases hi
      have h1 := hP i _ ha
      show H[a]? = some (vp_cell cA (n, .inl f'))
      rw [← hc]; exact h1
    · rw [List.getElem?_set_ne (fun h => e h.symm)] at hi
      exact hP i q hi
  · rw [← hw']; exact hD.set ha
end GA
end
section
/-! The book, its small methods. -/
set_option maxRecDepth 100000 in
set_option maxHeartbeats 4000000 in
theorem c_potRow (l : Launch) (D : va_G) (cI cJ : ClassId) (w : va_W) (x : Int32) : MC l yX0_potRow wsX0_potRow 0 0 D (tyIJ cI cJ) [.int (x)] w w none (some (.int x)) 0 := by
  refine MC.ofG (cc := cX0_potRow) (maxL := 1) (ret := (some .int)) [(0, .int (x))] (by decide) rfl (Nat.le_of_ble_eq_true rfl) rfl ?_
  intro p e s m args below meth c C hr hout
  refine g_iload_n 0 C rfl dX0_potRow_0 rfl ?_
  exact g_iret C hr rfl dX0_potRow_1 (Nat.zero_le _) (Nat.zero_le _) rfl rfl rfl
set_option maxRecDepth 100000 in
set_option maxHeartbeats 4000000 in
theorem c_place (l : Launch) (D : va_G) (cI cJ : ClassId) (w : va_W) (r t : Nat) : MC l yX0_place wsX0_place 0 0 D (tyIJ cI cJ) [.int (nI (r)), .int (nI (t))] w w none (some (.int (nI (r * 12 + t)))) 0 := by
  refine MC.ofG (cc := cX0_place) (maxL := 2) (ret := (some .int)) [(0, .int (nI (r))), (1, .int (nI (t)))] (by decide) rfl (Nat.le_of_ble_eq_true rfl) rfl ?_
  intro p e s m args below meth c C hr hout
  refine g_iload_n 0 C rfl dX0_place_0 rfl ?_
  refine g_bipush 12 C dX0_place_1 (by decide) ?_
  refine g_imulN r 12 C dX0_place_3 ?_
  refine g_iload_n 1 C rfl dX0_place_4 rfl ?_
  refine g_iaddN (r * 12) t C dX0_place_5 ?_
  exact g_iret C hr rfl dX0_place_6 (Nat.zero_le _) (Nat.zero_le _) rfl rfl rfl
set_option maxRecDepth 100000 in
set_option maxHeartbeats 4000000 in
theorem c_layerRow (l : Launch) (D : va_G) (cI cJ : ClassId) (w : va_W) (r t : Nat) : MC l yX0_layerRow wsX0_layerRow 0 0 D (tyIJ cI cJ) [.int (nI (r)), .int (nI (t))] w w none (some (.int (nI (10 + r * 12 + t)))) 0 := by
  refine MC.ofG (cc := cX0_layerRow) (maxL := 2) (ret := (some .int)) [(0, .int (nI (r))), (1, .int (nI (t)))] (by decide) rfl (Nat.le_of_ble_eq_true rfl) rfl ?_
  intro p e s m args below meth c C hr hout
  refine g_bipush 10 C dX0_layerRow_0 (by decide) ?_
  refine g_iload_n 0 C rfl dX0_layerRow_2 rfl ?_
  refine g_bipush 12 C dX0_layerRow_3 (by decide) ?_
  refine g_imulN r 12 C dX0_layerRow_5 ?_
  refine g_iaddN 10 (r * 12) C dX0_layerRow_6 ?_
  refine g_iload_n 1 C rfl dX0_layerRow_7 rfl ?_
  refine g_iaddN (10 + (r * 12)) t C dX0_layerRow_8 ?_
  exact g_iret C hr rfl dX0_layerRow_9 (Nat.zero_le _) (Nat.zero_le _) rfl rfl rfl
set_option maxRecDepth 100000 in
set_option maxHeartbeats 4000000 in
theorem c_square (l : Launch) (D : va_G) (cI cJ : ClassId) (w : va_W) (x : Int32) : MC l yX0_square wsX0_square 0 0 D (tyIJ cI cJ) [.int (x)] w w none (some (.int (x * x))) 0 := by
  refine MC.ofG (cc := cX0_square) (maxL := 1) (ret := (some .int)) [(0, .int (x))] (by decide) rfl (Nat.le_of_ble_eq_true rfl) rfl ?_
  intro p e s m args below meth c C hr hout
  refine g_iload_n 0 C rfl dX0_square_0 rfl ?_
  refine g_iload_n 0 C rfl dX0_square_1 rfl ?_
  refine g_imul C dX0_square_2 ?_
  exact g_iret C hr rfl dX0_square_3 (Nat.zero_le _) (Nat.zero_le _) rfl rfl rfl
set_option maxRecDepth 100000 in
set_option maxHeartbeats 4000000 in
theorem c_checkNumber (l : Launch) (D : va_G) (cI cJ : ClassId) (hst : l.stackTraces = false) (w : va_W) (x c : Int32) (K : Nat) (hK : K = if bad x c then 1 else 0) : MC l yX0_checkNumber wsX0_checkNumber 6 90 D (tyIJ cI cJ) [.int (x), .int (c)] w w (exT K) none (nT K) := by
  refine MC.ofG (cc := cX0_checkNumber) (maxL := 2) (ret := none) [(0, .int (x)), (1, .int (c))] (by decide) rfl (Nat.le_of_ble_eq_true rfl) rfl ?_
  intro p e s m args below meth c C hr hout
  refine g_iload_n 0 C rfl dX0_checkNumber_0 rfl ?_
  refine g_if_lt 9 C dX0_checkNumber_1 (by decide) (fun c_1_1 => ?_) (fun c_1_1 => ?_)
  ·
    obtain rfl : K = 1 := hK.trans (if_pos (Or.inl c_1_1))
    exact g_throw (cls := eIOB) (text := "there is no such number") C hst rfl (by decide +kernel) (by decide +kernel) (by decide +kernel) (by decide +kernel) (by decide +kernel) (by decide +kernel) (by decide +kernel) hout dX0_checkNumber_9 dX0_checkNumber_12 dX0_checkNumber_13 dX0_checkNumber_15 dX0_checkNumber_18 (by decide) (by decide) (by decide) (by decide) (by decide) (by decide) rfl
  ·
    refine g_iload_n 0 C rfl dX0_checkNumber_4 rfl ?_
    refine g_iload_n 1 C rfl dX0_checkNumber_5 rfl ?_
    refine g_icmp_lt 19 C dX0_checkNumber_6 (by decide) (fun c_6_2 => ?_) (fun c_6_2 => ?_)
    ·
      obtain rfl : K = 0 := hK.trans (if_neg (fun q => q.elim c_1_1 (fun r => r c_6_2)))
      exact g_vret C hr dX0_checkNumber_19 (Nat.zero_le _) (Nat.zero_le _) rfl rfl rfl
    ·
      obtain rfl : K = 1 := hK.trans (if_pos (Or.inr c_6_2))
      exact g_throw (cls := eIOB) (text := "there is no such number") C hst rfl (by decide +kernel) (by decide +kernel) (by decide +kernel) (by decide +kernel) (by decide +kernel) (by decide +kernel) (by decide +kernel) hout dX0_checkNumber_9 dX0_checkNumber_12 dX0_checkNumber_13 dX0_checkNumber_15 dX0_checkNumber_18 (by decide) (by decide) (by decide) (by decide) (by decide) (by decide) rfl
set_option maxRecDepth 100000 in
set_option maxHeartbeats 4000000 in
theorem c_checkRange (l : Launch) (D : va_G) (cI cJ : ClassId) (hst : l.stackTraces = false) (w : va_W) (x lo hi : Int32) (K : Nat) (hK : K = if out x lo hi then 2 else 0) : MC l yX0_checkRange wsX0_checkRange 6 90 D (tyIJ cI cJ) [.int (x), .int (lo), .int (hi)] w w (exT K) none (nT K) := by
  refine MC.ofG (cc := cX0_checkRange) (maxL := 3) (ret := none) [(0, .int (x)), (1, .int (lo)), (2, .int (hi))] (by decide) rfl (Nat.le_of_ble_eq_true rfl) rfl ?_
  intro p e s m args below meth c C hr hout
  refine g_iload_n 0 C rfl dX0_checkRange_0 rfl ?_
  refine g_iload_n 1 C rfl dX0_checkRange_1 rfl ?_
  refine g_icmp_lt 10 C dX0_checkRange_2 (by decide) (fun c_2_1 => ?_) (fun c_2_1 => ?_)
  ·
    obtain rfl : K = 2 := hK.trans (if_pos (Or.inl c_2_1))
    exact g_throw (cls := eIAE) (text := "out of range") C hst rfl (by decide +kernel) (by decide +kernel) (by decide +kernel) (by decide +kernel) (by decide +kernel) (by decide +kernel) (by decide +kernel) hout dX0_checkRange_10 dX0_checkRange_13 dX0_checkRange_14 dX0_checkRange_16 dX0_checkRange_19 (by decide) (by decide) (by decide) (by decide) (by decide) (by decide) rfl
  ·
    refine g_iload_n 0 C rfl dX0_checkRange_5 rfl ?_
    refine g_iload_n 2 C rfl dX0_checkRange_6 rfl ?_
    refine g_icmp_le 20 C dX0_checkRange_7 (by decide) (fun c_7_2 => ?_) (fun c_7_2 => ?_)
    ·
      obtain rfl : K = 0 := hK.trans (if_neg (fun q => q.elim c_2_1 (fun r => r c_7_2)))
      exact g_vret C hr dX0_checkRange_20 (Nat.zero_le _) (Nat.zero_le _) rfl rfl rfl
    ·
      obtain rfl : K = 2 := hK.trans (if_pos (Or.inr c_7_2))
      exact g_throw (cls := eIAE) (text := "out of range") C hst rfl (by decide +kernel) (by decide +kernel) (by decide +kernel) (by decide +kernel) (by decide +kernel) (by decide +kernel) (by decide +kernel) hout dX0_checkRange_10 dX0_checkRange_13 dX0_checkRange_14 dX0_checkRange_16 dX0_checkRange_19 (by decide) (by decide) (by decide) (by decide) (by decide) (by decide) rfl
end
section
/-! The book, its questions about rows. -/
set_option maxRecDepth 100000 in
set_option maxHeartbeats 4000000 in
theorem c_isLent (l : Launch) (D : va_G) (cI cJ : ClassId) (h : Nat → Nat) (σ : gS) (np nt no ni : Nat) (hI : iA σ np nt no ni) (q : Nat) (hq : q < 8) : MC l yX0_isLent wsX0_isLent 0 0 D (tyIJ cI cJ) [.ref (h 0), .int (nI (q))] (wA cI h σ) (wA cI h σ) none (some (.int (bI (¬ σ.2 7 q ≤ 0)))) 0 := by
  have hI0 := hI
  obtain ⟨⟨hnp, hnp6⟩, ⟨hnt, hnt12⟩, ⟨hno, hno10⟩, ⟨hni, hni8⟩, hPT, hLC, hLH⟩ := hI
  refine MC.ofG (cc := cX0_isLent) (maxL := 2) (ret := (some .boolean)) [(0, .ref (h 0)), (1, .int (nI (q)))] (by decide) rfl (Nat.le_of_ble_eq_true rfl) rfl ?_
  intro p e s m args below meth c C hr hout
  have hin : ∀ w ∈ wsX00, w ∈ wsX0_isLent := fun w h => by first | exact List.mem_cons_of_mem _ (List.mem_append_right _ h) | exact List.mem_cons_of_mem _ (List.mem_append_left _ (List.mem_append_right _ h)) | exact List.mem_cons_of_mem _ (List.mem_append_left _ (List.mem_append_left _ (List.mem_append_right _ h))) | exact List.mem_cons_of_mem _ (List.mem_append_left _ (List.mem_append_left _ (List.mem_append_left _ (List.mem_append_right _ h)))) | exact List.mem_cons_of_mem _ (List.mem_append_left _ (List.mem_append_left _ (List.mem_append_left _ (List.mem_append_left _ (List.mem_append_right _ h)))))
  refine g_aload_n 0 C rfl dX0_isLent_0 rfl ?_
  refine g_get (C0 := RX0) (T := TX0) (N := 17) 0 0 12 (.ref (h 8)) C hin rfl rfl (by decide) (by decide +kernel) rfl dX0_isLent_1 ?_
  refine g_iload_n 1 C rfl dX0_isLent_4 rfl ?_
  refine g_ialdN (cA := cI) (n := 8) (a := h 8) (f := σ.2 7) q 8 0 C rfl rfl (by omega) (by decide) dX0_isLent_5 ?_
  refine g_if_le 13 C dX0_isLent_6 (by decide) (fun c_6_1 => ?_) (fun c_6_1 => ?_)
  ·
    refine g_iconst 0 C dX0_isLent_13 (by decide) ?_
    exact g_iret C hr rfl dX0_isLent_14 (Nat.zero_le _) (Nat.zero_le _) rfl (congrArg (fun x => some (Value.int x)) (bI_0 (not_not_intro c_6_1)).symm) rfl
  ·
    refine g_iconst 1 C dX0_isLent_9 (by decide) ?_
    refine g_goto 14 C dX0_isLent_10 (by decide) ?_
    exact g_iret C hr rfl dX0_isLent_14 (Nat.zero_le _) (Nat.zero_le _) rfl (congrArg (fun x => some (Value.int x)) (bI_1 c_6_1).symm) rfl
set_option maxRecDepth 100000 in
set_option maxHeartbeats 4000000 in
theorem c_sumOfRow (l : Launch) (D : va_G) (cI cJ : ClassId) (h : Nat → Nat) (σ : gS) (np nt no ni : Nat) (hI : iA σ np nt no ni) (r : Nat) (hr1 : r < 107) : MC l yX0_sumOfRow wsX0_sumOfRow 1 21 D (tyIJ cI cJ) [.ref (h 0), .int (nI (r))] (wA cI h σ) (wA cI h σ) none (some (.int (rowS (σ.2 3) r nt))) 0 := by
  have hI0 := hI
  obtain ⟨⟨hnp, hnp6⟩, ⟨hnt, hnt12⟩, ⟨hno, hno10⟩, ⟨hni, hni8⟩, hPT, hLC, hLH⟩ := hI
  refine MC.ofG (cc := cX0_sumOfRow) (maxL := 4) (ret := (some .int)) [(0, .ref (h 0)), (1, .int (nI (r)))] (by decide) rfl (Nat.le_of_ble_eq_true rfl) rfl ?_
  intro p e s m args below meth c C hr hout
  have hin : ∀ w ∈ wsX00, w ∈ wsX0_sumOfRow := fun w h => by first | exact List.mem_cons_of_mem _ (List.mem_append_right _ h) | exact List.mem_cons_of_mem _ (List.mem_append_left _ (List.mem_append_right _ h)) | exact List.mem_cons_of_mem _ (List.mem_append_left _ (List.mem_append_left _ (List.mem_append_right _ h))) | exact List.mem_cons_of_mem _ (List.mem_append_left _ (List.mem_append_left _ (List.mem_append_left _ (List.mem_append_right _ h)))) | exact List.mem_cons_of_mem _ (List.mem_append_left _ (List.mem_append_left _ (List.mem_append_left _ (List.mem_append_left _ (List.mem_append_right _ h)))))
  refine g_iconst 0 C dX0_sumOfRow_0 (by decide) ?_
  refine g_istore_n [(2, .int (0)), (0, .ref (h 0)), (1, .int (nI (r)))] C dX0_sumOfRow_1 rfl (by decide) rfl ?_
  refine g_iconst 0 C dX0_sumOfRow_2 (by decide) ?_
  refine g_istore_n [(3, .int (0)), (2, .int (0)), (0, .ref (h 0)), (1, .int (nI (r)))] C dX0_sumOfRow_3 rfl (by decide) rfl ?_
  have loop_4 : ∀ (fu : Nat) (i : Nat), i ≤ nt → nt + 1 ≤ i + fu → G p l e ({ frames := 1, cells := 0, slots := 6 * 0, locals := 21 } : Room) s m args below meth c D (va_A (wA cI h σ) s.heap.size) 4 0 0 (gQ below D (wA cI h σ) (wA cI h σ) none (some (.int (rowS (σ.2 3) r nt))) 0 args s) (wA cI h σ) [(0, .ref (h 0)), (1, .int (nI (r))), (2, .int (rowS (σ.2 3) r i)), (3, .int (nI (i)))] 4 [] := by
    intro fu
    induction fu with
    | zero => intro i hi hf; exact absurd True.intro (by omega)
    | succ fu ih_4 =>
      intro i hi hf
      refine g_iload_n 3 C rfl dX0_sumOfRow_4 rfl ?_
      refine g_aload_n 0 C rfl dX0_sumOfRow_5 rfl ?_
      refine g_get (C0 := RX0) (T := TX0) (N := 17) 0 0 1 (.int (σ.1 1)) C hin rfl rfl (by decide) (by decide +kernel) rfl dX0_sumOfRow_6 ?_
      refine g_is (nI nt) hnt ?_
      refine g_icmp_ge 31 C dX0_sumOfRow_9 (by decide) (fun c_9_1 => ?_) (fun c_9_1 => ?_)
      ·
        have d_9_1 : nt ≤ i := (nI_leI (a := nt) (b := i) (by omega) (by omega)).mp c_9_1
        refine g_iload_n 2 C rfl dX0_sumOfRow_31 rfl ?_
        exact g_iret C hr rfl dX0_sumOfRow_32 (Nat.zero_le _) (Nat.zero_le _) rfl (by rw [show nt = i by omega]) rfl
      ·
        have d_9_1 : ¬ nt ≤ i := fun q => c_9_1 ((nI_leI (a := nt) (b := i) (by omega) (by omega)).mpr q)
        refine g_iload_n 2 C rfl dX0_sumOfRow_12 rfl ?_
        refine g_aload_n 0 C rfl dX0_sumOfRow_13 rfl ?_
        refine g_get (C0 := RX0) (T := TX0) (N := 17) 0 0 8 (.ref (h 4)) C hin rfl rfl (by decide) (by decide +kernel) rfl dX0_sumOfRow_14 ?_
        refine g_iload_n 1 C rfl dX0_sumOfRow_17 rfl ?_
        refine g_iload_n 3 C rfl dX0_sumOfRow_18 rfl ?_
        refine g_callS0 (na := 2) (av := [.int (nI (r)), .int (nI (i))]) (c_place l D cI cJ _ r i) C gX0_sumOfRow_X0_place rfl (by decide +kernel) rfl ⟨Nat.le_of_ble_eq_true rfl, Nat.le_of_ble_eq_true rfl⟩ rfl (Nat.le_of_ble_eq_true rfl) ⟨Nat.zero_le _, Nat.zero_le _⟩ rfl dX0_sumOfRow_19 ?_
        refine g_ialdN (cA := cI) (n := 1284) (a := h 4) (f := σ.2 3) (r * 12 + i) 4 0 C rfl rfl (by omega) (by decide) dX0_sumOfRow_22 ?_
        refine g_iadd C dX0_sumOfRow_23 ?_
        refine g_istore_n [(2, .int ((rowS (σ.2 3) r i) + (σ.2 3 (r * 12 + i)))), (0, .ref (h 0)), (1, .int (nI (r))), (3, .int (nI (i)))] C dX0_sumOfRow_24 rfl (by decide) rfl ?_
        refine g_iincN 3 i 1 [(3, .int (nI (i + 1))), (2, .int ((rowS (σ.2 3) r i) + (σ.2 3 (r * 12 + i)))), (0, .ref (h 0)), (1, .int (nI (r)))] C dX0_sumOfRow_25 rfl (by decide) (by decide) rfl ?_
        refine g_goto 4 C dX0_sumOfRow_28 (by decide) ?_
        refine g_lv [2, 3, 1, 0] [(0, .ref (h 0)), (1, .int (nI (r))), (2, .int ((rowS (σ.2 3) r i) + (σ.2 3 (r * 12 + i)))), (3, .int (nI (i + 1)))] rfl ?_
        exact ih_4 (i + 1) (by omega) (by omega)
  refine g_lv [2, 3, 1, 0] [(0, .ref (h 0)), (1, .int (nI (r))), (2, .int (0)), (3, .int (0))] rfl ?_
  exact loop_4 (nt + 1) 0 (by omega) (by omega)
set_option maxRecDepth 100000 in
set_option maxHeartbeats 4000000 in
theorem c_sumOfTube (l : Launch) (D : va_G) (cI cJ : ClassId) (h : Nat → Nat) (σ : gS) (np nt no ni : Nat) (hI : iA σ np nt no ni) (t f n : Nat) (ht : t < 12) (hn : f + n ≤ 107) : MC l yX0_sumOfTube wsX0_sumOfTube 1 21 D (tyIJ cI cJ) [.ref (h 0), .int (nI (t)), .int (nI (f)), .int (nI (f + n))] (wA cI h σ) (wA cI h σ) none (some (.int (tubS (σ.2 3) t f n))) 0 := by
  have hI0 := hI
  obtain ⟨⟨hnp, hnp6⟩, ⟨hnt, hnt12⟩, ⟨hno, hno10⟩, ⟨hni, hni8⟩, hPT, hLC, hLH⟩ := hI
  refine MC.ofG (cc := cX0_sumOfTube) (maxL := 6) (ret := (some .int)) [(0, .ref (h 0)), (1, .int (nI (t))), (2, .int (nI (f))), (3, .int (nI (f + n)))] (by decide) rfl (Nat.le_of_ble_eq_true rfl) rfl ?_
  intro p e s m args below meth c C hr hout
  have hin : ∀ w ∈ wsX00, w ∈ wsX0_sumOfTube := fun w h => by first | exact List.mem_cons_of_mem _ (List.mem_append_right _ h) | exact List.mem_cons_of_mem _ (List.mem_append_left _ (List.mem_append_right _ h)) | exact List.mem_cons_of_mem _ (List.mem_append_left _ (List.mem_append_left _ (List.mem_append_right _ h))) | exact List.mem_cons_of_mem _ (List.mem_append_left _ (List.mem_append_left _ (List.mem_append_left _ (List.mem_append_right _ h)))) | exact List.mem_cons_of_mem _ (List.mem_append_left _ (List.mem_append_left _ (List.mem_append_left _ (List.mem_append_left _ (List.mem_append_right _ h)))))
  refine g_iconst 0 C dX0_sumOfTube_0 (by decide) ?_
  refine g_istore [(4, .int (0)), (0, .ref (h 0)), (1, .int (nI (t))), (2, .int (nI (f))), (3, .int (nI (f + n)))] C dX0_sumOfTube_1 (by decide) rfl ?_
  refine g_iload_n 3 C rfl dX0_sumOfTube_3 rfl ?_
  refine g_istore [(5, .int (nI (f))), (4, .int (0)), (0, .ref (h 0)), (1, .int (nI (t))), (2, .int (nI (f))), (3, .int (nI (f + n)))] C dX0_sumOfTube_4 (by decide) rfl ?_
  have loop_6 : ∀ (fu : Nat) (i : Nat), i ≤ n → n + 1 ≤ i + fu → G p l e ({ frames := 1, cells := 0, slots := 6 * 0, locals := 21 } : Room) s m args below meth c D (va_A (wA cI h σ) s.heap.size) 6 0 0 (gQ below D (wA cI h σ) (wA cI h σ) none (some (.int (tubS (σ.2 3) t f n))) 0 args s) (wA cI h σ) [(0, .ref (h 0)), (1, .int (nI (t))), (2, .int (nI (f))), (3, .int (nI (f + n))), (4, .int (tubS (σ.2 3) t f i)), (5, .int (nI (f + i)))] 6 [] := by
    intro fu
    induction fu with
    | zero => intro i hi hf; exact absurd True.intro (by omega)
    | succ fu ih_6 =>
      intro i hi hf
      refine g_iload 5 C rfl dX0_sumOfTube_6 ?_
      refine g_iload_n 3 C rfl dX0_sumOfTube_8 rfl ?_
      refine g_icmp_ge 34 C dX0_sumOfTube_9 (by decide) (fun c_9_1 => ?_) (fun c_9_1 => ?_)
      ·
        have d_9_1 : (f + n) ≤ (f + i) := (nI_leI (a := (f + n)) (b := (f + i)) (by omega) (by omega)).mp c_9_1
        refine g_iload 4 C rfl dX0_sumOfTube_34 ?_
        exact g_iret C hr rfl dX0_sumOfTube_36 (Nat.zero_le _) (Nat.zero_le _) rfl (by rw [show n = i by omega]) rfl
      ·
        have d_9_1 : ¬ (f + n) ≤ (f + i) := fun q => c_9_1 ((nI_leI (a := (f + n)) (b := (f + i)) (by omega) (by omega)).mpr q)
        refine g_iload 4 C rfl dX0_sumOfTube_12 ?_
        refine g_aload_n 0 C rfl dX0_sumOfTube_14 rfl ?_
        refine g_get (C0 := RX0) (T := TX0) (N := 17) 0 0 8 (.ref (h 4)) C hin rfl rfl (by decide) (by decide +kernel) rfl dX0_sumOfTube_15 ?_
        refine g_iload 5 C rfl dX0_sumOfTube_18 ?_
        refine g_iload_n 1 C rfl dX0_sumOfTube_20 rfl ?_
        refine g_callS0 (na := 2) (av := [.int (nI (f + i)), .int (nI (t))]) (c_place l D cI cJ _ (f + i) t) C gX0_sumOfTube_X0_place rfl (by decide +kernel) rfl ⟨Nat.le_of_ble_eq_true rfl, Nat.le_of_ble_eq_true rfl⟩ rfl (Nat.le_of_ble_eq_true rfl) ⟨Nat.zero_le _, Nat.zero_le _⟩ rfl dX0_sumOfTube_21 ?_
        refine g_ialdN (cA := cI) (n := 1284) (a := h 4) (f := σ.2 3) ((f + i) * 12 + t) 4 0 C rfl rfl (by omega) (by decide) dX0_sumOfTube_24 ?_
        refine g_iadd C dX0_sumOfTube_25 ?_
        refine g_istore [(4, .int ((tubS (σ.2 3) t f i) + (σ.2 3 ((f + i) * 12 + t)))), (0, .ref (h 0)), (1, .int (nI (t))), (2, .int (nI (f))), (3, .int (nI (f + n))), (5, .int (nI (f + i)))] C dX0_sumOfTube_26 (by decide) rfl ?_
        refine g_iincN 5 (f + i) 1 [(5, .int (nI ((f + i) + 1))), (4, .int ((tubS (σ.2 3) t f i) + (σ.2 3 ((f + i) * 12 + t)))), (0, .ref (h 0)), (1, .int (nI (t))), (2, .int (nI (f))), (3, .int (nI (f + n)))] C dX0_sumOfTube_28 rfl (by decide) (by decide) rfl ?_
        refine g_goto 6 C dX0_sumOfTube_31 (by decide) ?_
        refine g_lv [2, 3, 4, 5, 1, 0] [(0, .ref (h 0)), (1, .int (nI (t))), (2, .int (nI (f))), (3, .int (nI (f + n))), (4, .int ((tubS (σ.2 3) t f i) + (σ.2 3 ((f + i) * 12 + t)))), (5, .int (nI ((f + i) + 1)))] rfl ?_
        exact ih_6 (i + 1) (by omega) (by omega)
  refine g_lv [2, 3, 4, 5, 1, 0] [(0, .ref (h 0)), (1, .int (nI (t))), (2, .int (nI (f))), (3, .int (nI (f + n))), (4, .int (0)), (5, .int (nI (f)))] rfl ?_
  exact loop_6 (n + 1) 0 (by omega) (by omega)
set_option maxRecDepth 100000 in
set_option maxHeartbeats 4000000 in
theorem c_colourOfTube (l : Launch) (D : va_G) (cI cJ : ClassId) (h : Nat → Nat) (σ : gS) (np nt no ni : Nat) (hI : iA σ np nt no ni) (t ch : Nat) (ht : t < 12) (hc : ch < 3) : MC l yX0_colourOfTube wsX0_colourOfTube 0 0 D (tyIJ cI cJ) [.ref (h 0), .int (nI (t)), .int (nI (ch))] (wA cI h σ) (wA cI h σ) none (some (.int (colT σ t ch))) 0 := by
  have hI0 := hI
  obtain ⟨⟨hnp, hnp6⟩, ⟨hnt, hnt12⟩, ⟨hno, hno10⟩, ⟨hni, hni8⟩, hPT, hLC, hLH⟩ := hI
  refine MC.ofG (cc := cX0_colourOfTube) (maxL := 3) (ret := (some .int)) [(0, .ref (h 0)), (1, .int (nI (t))), (2, .int (nI (ch)))] (by decide) rfl (Nat.le_of_ble_eq_true rfl) rfl ?_
  intro p e s m args below meth c C hr hout
  have hin : ∀ w ∈ wsX00, w ∈ wsX0_colourOfTube := fun w h => by first | exact List.mem_cons_of_mem _ (List.mem_append_right _ h) | exact List.mem_cons_of_mem _ (List.mem_append_left _ (List.mem_append_right _ h)) | exact List.mem_cons_of_mem _ (List.mem_append_left _ (List.mem_append_left _ (List.mem_append_right _ h))) | exact List.mem_cons_of_mem _ (List.mem_append_left _ (List.mem_append_left _ (List.mem_append_left _ (List.mem_append_right _ h)))) | exact List.mem_cons_of_mem _ (List.mem_append_left _ (List.mem_append_left _ (List.mem_append_left _ (List.mem_append_left _ (List.mem_append_right _ h)))))
  refine g_aload_n 0 C rfl dX0_colourOfTube_0 rfl ?_
  refine g_get (C0 := RX0) (T := TX0) (N := 17) 0 0 5 (.ref (h 1)) C hin rfl rfl (by decide) (by decide +kernel) rfl dX0_colourOfTube_1 ?_
  refine g_aload_n 0 C rfl dX0_colourOfTube_4 rfl ?_
  refine g_get (C0 := RX0) (T := TX0) (N := 17) 0 0 6 (.ref (h 2)) C hin rfl rfl (by decide) (by decide +kernel) rfl dX0_colourOfTube_5 ?_
  refine g_iload_n 1 C rfl dX0_colourOfTube_8 rfl ?_
  refine g_ialdN (cA := cI) (n := 12) (a := h 2) (f := σ.2 1) t 2 0 C rfl rfl (by omega) (by decide) dX0_colourOfTube_9 ?_
  obtain ⟨j, hj, ej⟩ := hPT t
  refine g_is (nI j) ej ?_
  refine g_iconst 3 C dX0_colourOfTube_10 (by decide) ?_
  refine g_imulN j 3 C dX0_colourOfTube_11 ?_
  refine g_iload_n 2 C rfl dX0_colourOfTube_12 rfl ?_
  refine g_iaddN (j * 3) ch C dX0_colourOfTube_13 ?_
  refine g_ialdN (cA := cI) (n := 18) (a := h 1) (f := σ.2 0) ((j * 3) + ch) 1 0 C rfl rfl (by omega) (by decide) dX0_colourOfTube_14 ?_
  exact g_iret C hr rfl dX0_colourOfTube_15 (Nat.zero_le _) (Nat.zero_le _) rfl (by rw [colT, ej, cl_nI (by omega)]) rfl
set_option maxRecDepth 100000 in
set_option maxHeartbeats 4000000 in
theorem c_move_no (l : Launch) (D : va_G) (cI cJ : ClassId) (h : Nat → Nat) (σ : gS) (np nt no ni : Nat) (hI : iA σ np nt no ni) (f t : Nat) (g : Int32) (hf1 : f < 107) (ht1 : t < 107) (hlt : rowS (σ.2 3) f nt < g) : MC l yX0_move wsX0_move 2 44 D (tyIJ cI cJ) [.ref (h 0), .int (nI (f)), .int (nI (t)), .int (g)] (wA cI h σ) (wA cI h σ) none (some (.int 0)) 0 := by
  have hI0 := hI
  obtain ⟨⟨hnp, hnp6⟩, ⟨hnt, hnt12⟩, ⟨hno, hno10⟩, ⟨hni, hni8⟩, hPT, hLC, hLH⟩ := hI
  refine MC.ofG (cc := cX0_move) (maxL := 9) (ret := (some .boolean)) [(0, .ref (h 0)), (1, .int (nI (f))), (2, .int (nI (t))), (3, .int (g))] (by decide) rfl (Nat.le_of_ble_eq_true rfl) rfl ?_
  intro p e s m args below meth c C hr hout
  have hin : ∀ w ∈ wsX00, w ∈ wsX0_move := fun w h => by first | exact List.mem_cons_of_mem _ (List.mem_append_right _ h) | exact List.mem_cons_of_mem _ (List.mem_append_left _ (List.mem_append_right _ h)) | exact List.mem_cons_of_mem _ (List.mem_append_left _ (List.mem_append_left _ (List.mem_append_right _ h))) | exact List.mem_cons_of_mem _ (List.mem_append_left _ (List.mem_append_left _ (List.mem_append_left _ (List.mem_append_right _ h)))) | exact List.mem_cons_of_mem _ (List.mem_append_left _ (List.mem_append_left _ (List.mem_append_left _ (List.mem_append_left _ (List.mem_append_right _ h)))))
  refine g_aload_n 0 C rfl dX0_move_0 rfl ?_
  refine g_iload_n 1 C rfl dX0_move_1 rfl ?_
  refine g_callV0 (C0 := RX0) (T := TX0) (N := 17) (ci := 0) (na := 1) (As := [.int (nI (f))]) (c_sumOfRow l D cI cJ h σ np nt no ni hI0 f (by omega)) C gX0_move_X0_sumOfRow rfl (by decide +kernel) rfl ⟨Nat.le_of_ble_eq_true rfl, Nat.le_of_ble_eq_true rfl⟩ rfl rfl rfl (Nat.le_of_ble_eq_true rfl) ⟨Nat.zero_le _, Nat.zero_le _⟩ rfl dX0_move_2 ?_
  refine g_istore [(4, .int (rowS (σ.2 3) f nt)), (0, .ref (h 0)), (1, .int (nI (f))), (2, .int (nI (t))), (3, .int (g))] C dX0_move_5 (by decide) rfl ?_
  refine g_iload 0 C rfl dX0_move_7 ?_
  refine g_iconst 1 C dX0_move_9 (by decide) ?_
  refine g_icmp_lt 19 C dX0_move_10 (by decide) (fun c_10_1 => ?_) (fun c_10_1 => ?_)
  ·
    refine g_iconst 0 C dX0_move_19 (by decide) ?_
    exact g_iret C hr rfl dX0_move_20 (Nat.zero_le _) (Nat.zero_le _) rfl rfl rfl
  ·
    refine g_iload 0 C rfl dX0_move_13 ?_
    refine g_iload_n 4 C rfl dX0_move_15 rfl ?_
    refine g_icmp_ge 21 C dX0_move_16 (by decide) (fun q => absurd q (i32_nle hlt)) (fun _ => ?_)
    refine g_iconst 0 C dX0_move_19 (by decide) ?_
    exact g_iret C hr rfl dX0_move_20 (Nat.zero_le _) (Nat.zero_le _) rfl rfl rfl
set_option maxRecDepth 100000 in
set_option maxHeartbeats 4000000 in
theorem c_move_ok (l : Launch) (D : va_G) (cI cJ : ClassId) (h : Nat → Nat) (σ : gS) (np nt no ni : Nat) (hI : iA σ np nt no ni) (f t : Nat) (g : Int32) (hf1 : f < 107) (ht1 : t < 107) (hg : 1 ≤ g) (hge : ¬ rowS (σ.2 3) f nt < g) : MC l yX0_move wsX0_move 2 44 D (tyIJ cI cJ) [.ref (h 0), .int (nI (f)), .int (nI (t)), .int (g)] (wA cI h σ) (wA cI h (sA σ 3 (mvL (σ.2 3) f t (flw (σ.2 3) f g (rowS (σ.2 3) f nt)) nt))) none (some (.int 1)) 0 := by
  have hI0 := hI
  obtain ⟨⟨hnp, hnp6⟩, ⟨hnt, hnt12⟩, ⟨hno, hno10⟩, ⟨hni, hni8⟩, hPT, hLC, hLH⟩ := hI
  refine MC.ofG (cc := cX0_move) (maxL := 9) (ret := (some .boolean)) [(0, .ref (h 0)), (1, .int (nI (f))), (2, .int (nI (t))), (3, .int (g))] (by decide) rfl (Nat.le_of_ble_eq_true rfl) rfl ?_
  intro p e s m args below meth c C hr hout
  have hin : ∀ w ∈ wsX00, w ∈ wsX0_move := fun w h => by first | exact List.mem_cons_of_mem _ (List.mem_append_right _ h) | exact List.mem_cons_of_mem _ (List.mem_append_left _ (List.mem_append_right _ h)) | exact List.mem_cons_of_mem _ (List.mem_append_left _ (List.mem_append_left _ (List.mem_append_right _ h))) | exact List.mem_cons_of_mem _ (List.mem_append_left _ (List.mem_append_left _ (List.mem_append_left _ (List.mem_append_right _ h)))) | exact List.mem_cons_of_mem _ (List.mem_append_left _ (List.mem_append_left _ (List.mem_append_left _ (List.mem_append_left _ (List.mem_append_right _ h)))))
  refine g_aload_n 0 C rfl dX0_move_0 rfl ?_
  refine g_iload_n 1 C rfl dX0_move_1 rfl ?_
  refine g_callV0 (C0 := RX0) (T := TX0) (N := 17) (ci := 0) (na := 1) (As := [.int (nI (f))]) (c_sumOfRow l D cI cJ h σ np nt no ni hI0 f (by omega)) C gX0_move_X0_sumOfRow rfl (by decide +kernel) rfl ⟨Nat.le_of_ble_eq_true rfl, Nat.le_of_ble_eq_true rfl⟩ rfl rfl rfl (Nat.le_of_ble_eq_true rfl) ⟨Nat.zero_le _, Nat.zero_le _⟩ rfl dX0_move_2 ?_
  refine g_istore [(4, .int (rowS (σ.2 3) f nt)), (0, .ref (h 0)), (1, .int (nI (f))), (2, .int (nI (t))), (3, .int (g))] C dX0_move_5 (by decide) rfl ?_
  refine g_iload 0 C rfl dX0_move_7 ?_
  refine g_iconst 1 C dX0_move_9 (by decide) ?_
  refine g_icmp_lt 19 C dX0_move_10 (by decide) (fun q => absurd q (i32_n1 hg hge)) (fun _ => ?_)
  refine g_iload 0 C rfl dX0_move_13 ?_
  refine g_iload_n 4 C rfl dX0_move_15 rfl ?_
  refine g_icmp_ge 21 C dX0_move_16 (by decide) (fun _ => ?_) (fun q => absurd (i32_ge hge) q)
  refine g_iconst 0 C dX0_move_21 (by decide) ?_
  refine g_istore [(5, .int (0)), (4, .int (rowS (σ.2 3) f nt)), (0, .ref (h 0)), (1, .int (nI (f))), (2, .int (nI (t))), (3, .int (g))] C dX0_move_22 (by decide) rfl ?_
  refine g_iconst 0 C dX0_move_24 (by decide) ?_
  refine g_istore [(6, .int (0)), (5, .int (0)), (4, .int (rowS (σ.2 3) f nt)), (0, .ref (h 0)), (1, .int (nI (f))), (2, .int (nI (t))), (3, .int (g))] C dX0_move_25 (by decide) rfl ?_
  have loop_27 : ∀ (fu : Nat) (i : Nat), i ≤ nt → nt + 1 ≤ i + fu → G p l e ({ frames := 2, cells := 0, slots := 6 * 0, locals := 44 } : Room) s m args below meth c D (va_A (wA cI h σ) s.heap.size) 9 0 0 (gQ below D (wA cI h σ) (wA cI h (sA σ 3 (mvL (σ.2 3) f t (flw (σ.2 3) f g (rowS (σ.2 3) f nt)) nt))) none (some (.int 1)) 0 args s) (wA cI h (sA σ 3 (mvL (σ.2 3) f t (flw (σ.2 3) f g (rowS (σ.2 3) f nt)) i))) [(0, .ref (h 0)), (1, .int (nI (f))), (2, .int (nI (t))), (3, .int (g)), (4, .int (rowS (σ.2 3) f nt)), (5, .int (rowS (σ.2 3) f i)), (6, .int (nI (i)))] 27 [] := by
    intro fu
    induction fu with
    | zero => intro i hi hf; exact absurd True.intro (by omega)
    | succ fu ih_27 =>
      intro i hi hf
      refine g_iload 6 C rfl dX0_move_27 ?_
      refine g_aload_n 0 C rfl dX0_move_29 rfl ?_
      refine g_get (C0 := RX0) (T := TX0) (N := 17) 0 0 1 (.int (σ.1 1)) C hin rfl rfl (by decide) (by decide +kernel) rfl dX0_move_30 ?_
      refine g_is (nI nt) hnt ?_
      refine g_icmp_ge 114 C dX0_move_33 (by decide) (fun c_33_1 => ?_) (fun c_33_1 => ?_)
      ·
        have d_33_1 : nt ≤ i := (nI_leI (a := nt) (b := i) (by omega) (by omega)).mp c_33_1
        refine g_iconst 1 C dX0_move_114 (by decide) ?_
        exact g_iret C hr rfl dX0_move_115 (Nat.zero_le _) (Nat.zero_le _) rfl rfl (by rw [show nt = i by omega])
      ·
        have d_33_1 : ¬ nt ≤ i := fun q => c_33_1 ((nI_leI (a := nt) (b := i) (by omega) (by omega)).mpr q)
        refine g_aload_n 0 C rfl dX0_move_36 rfl ?_
        refine g_get (C0 := RX0) (T := TX0) (N := 17) 0 0 8 (.ref (h 4)) C hin rfl rfl (by decide) (by decide +kernel) rfl dX0_move_37 ?_
        refine g_iload_n 1 C rfl dX0_move_40 rfl ?_
        refine g_iload 6 C rfl dX0_move_41 ?_
        refine g_callS0 (na := 2) (av := [.int (nI (f)), .int (nI (i))]) (c_place l D cI cJ _ f i) C gX0_move_X0_place rfl (by decide +kernel) rfl ⟨Nat.le_of_ble_eq_true rfl, Nat.le_of_ble_eq_true rfl⟩ rfl (Nat.le_of_ble_eq_true rfl) ⟨Nat.zero_le _, Nat.zero_le _⟩ rfl dX0_move_43 ?_
        refine g_ialdN (cA := cI) (n := 1284) (a := h 4) (f := mvL (σ.2 3) f t (flw (σ.2 3) f g (rowS (σ.2 3) f nt)) i) (f * 12 + i) 4 0 C rfl rfl (by omega) (by decide) dX0_move_46 ?_
        refine g_is ((σ.2 3 (f * 12 + i))) (mvL_at _ f t _ i i (Nat.le_refl i) (by omega)) ?_
        refine g_istore [(7, .int (σ.2 3 (f * 12 + i))), (0, .ref (h 0)), (1, .int (nI (f))), (2, .int (nI (t))), (3, .int (g)), (4, .int (rowS (σ.2 3) f nt)), (5, .int (rowS (σ.2 3) f i)), (6, .int (nI (i)))] C dX0_move_47 (by decide) rfl ?_
        refine g_iload 6 C rfl dX0_move_49 ?_
        refine g_iload 0 C rfl dX0_move_51 ?_
        refine g_iadd C dX0_move_53 ?_
        refine g_iload_n 4 C rfl dX0_move_54 rfl ?_
        refine g_imul C dX0_move_55 ?_
        refine g_iload 5 C rfl dX0_move_56 ?_
        refine g_idiv C (i32_n0 hg hge) dX0_move_58 ?_
        refine g_iload 6 C rfl dX0_move_59 ?_
        refine g_iload_n 4 C rfl dX0_move_61 rfl ?_
        refine g_imul C dX0_move_62 ?_
        refine g_iload 5 C rfl dX0_move_63 ?_
        refine g_idiv C (i32_n0 hg hge) dX0_move_65 ?_
        refine g_isub C dX0_move_66 ?_
        refine g_is ((flw (σ.2 3) f g (rowS (σ.2 3) f nt) i)) rfl ?_
        refine g_istore [(8, .int (flw (σ.2 3) f g (rowS (σ.2 3) f nt) i)), (7, .int (σ.2 3 (f * 12 + i))), (0, .ref (h 0)), (1, .int (nI (f))), (2, .int (nI (t))), (3, .int (g)), (4, .int (rowS (σ.2 3) f nt)), (5, .int (rowS (σ.2 3) f i)), (6, .int (nI (i)))] C dX0_move_67 (by decide) rfl ?_
        refine g_aload_n 2 C rfl dX0_move_69 rfl ?_
        refine g_get (C0 := RX0) (T := TX0) (N := 17) 0 0 8 (.ref (h 4)) C hin rfl rfl (by decide) (by decide +kernel) rfl dX0_move_70 ?_
        refine g_iload_n 3 C rfl dX0_move_73 rfl ?_
        refine g_iload 8 C rfl dX0_move_74 ?_
        refine g_callS0 (na := 2) (av := [.int (nI (f)), .int (nI (i))]) (c_place l D cI cJ _ f i) C gX0_move_X0_place rfl (by decide +kernel) rfl ⟨Nat.le_of_ble_eq_true rfl, Nat.le_of_ble_eq_true rfl⟩ rfl (Nat.le_of_ble_eq_true rfl) ⟨Nat.zero_le _, Nat.zero_le _⟩ rfl dX0_move_76 ?_
        refine g_dup2 C dX0_move_79 rfl rfl ?_
        refine g_ialdN (cA := cI) (n := 1284) (a := h 4) (f := mvL (σ.2 3) f t (flw (σ.2 3) f g (rowS (σ.2 3) f nt)) i) (f * 12 + i) 4 0 C rfl rfl (by omega) (by decide) dX0_move_80 ?_
        refine g_iload 0 C rfl dX0_move_81 ?_
        refine g_isub C dX0_move_83 ?_
        refine g_iastN (cA := cI) (n := 1284) (a := h 4) (f := mvL (σ.2 3) f t (flw (σ.2 3) f g (rowS (σ.2 3) f nt)) i) (x := (((mvL (σ.2 3) f t (flw (σ.2 3) f g (rowS (σ.2 3) f nt)) i) (f * 12 + i)) - (flw (σ.2 3) f g (rowS (σ.2 3) f nt) i))) (f * 12 + i) 4 0 (wA cI h (sA σ 3 (upd (mvL (σ.2 3) f t (flw (σ.2 3) f g (rowS (σ.2 3) f nt)) i) (f * 12 + i) ((((mvL (σ.2 3) f t (flw (σ.2 3) f g (rowS (σ.2 3) f nt)) i) (f * 12 + i)) - (flw (σ.2 3) f g (rowS (σ.2 3) f nt) i)))))) C rfl rfl (by omega) (by decide) rfl dX0_move_84 ?_
        refine g_aload_n 2 C rfl dX0_move_85 rfl ?_
        refine g_get (C0 := RX0) (T := TX0) (N := 17) 0 0 8 (.ref (h 4)) C hin rfl rfl (by decide) (by decide +kernel) rfl dX0_move_86 ?_
        refine g_iload_n 4 C rfl dX0_move_89 rfl ?_
        refine g_iload 8 C rfl dX0_move_90 ?_
        refine g_callS0 (na := 2) (av := [.int (nI (t)), .int (nI (i))]) (c_place l D cI cJ _ t i) C gX0_move_X0_place rfl (by decide +kernel) rfl ⟨Nat.le_of_ble_eq_true rfl, Nat.le_of_ble_eq_true rfl⟩ rfl (Nat.le_of_ble_eq_true rfl) ⟨Nat.zero_le _, Nat.zero_le _⟩ rfl dX0_move_92 ?_
        refine g_dup2 C dX0_move_95 rfl rfl ?_
        refine g_ialdN (cA := cI) (n := 1284) (a := h 4) (f := upd (mvL (σ.2 3) f t (flw (σ.2 3) f g (rowS (σ.2 3) f nt)) i) (f * 12 + i) ((((mvL (σ.2 3) f t (flw (σ.2 3) f g (rowS (σ.2 3) f nt)) i) (f * 12 + i)) - (flw (σ.2 3) f g (rowS (σ.2 3) f nt) i)))) (t * 12 + i) 4 0 C rfl rfl (by omega) (by decide) dX0_move_96 ?_
        refine g_iload 0 C rfl dX0_move_97 ?_
        refine g_iadd C dX0_move_99 ?_
        refine g_iastN (cA := cI) (n := 1284) (a := h 4) (f := upd (mvL (σ.2 3) f t (flw (σ.2 3) f g (rowS (σ.2 3) f nt)) i) (f * 12 + i) ((((mvL (σ.2 3) f t (flw (σ.2 3) f g (rowS (σ.2 3) f nt)) i) (f * 12 + i)) - (flw (σ.2 3) f g (rowS (σ.2 3) f nt) i)))) (x := (((upd (mvL (σ.2 3) f t (flw (σ.2 3) f g (rowS (σ.2 3) f nt)) i) (f * 12 + i) ((((mvL (σ.2 3) f t (flw (σ.2 3) f g (rowS (σ.2 3) f nt)) i) (f * 12 + i)) - (flw (σ.2 3) f g (rowS (σ.2 3) f nt) i)))) (t * 12 + i)) + (flw (σ.2 3) f g (rowS (σ.2 3) f nt) i))) (t * 12 + i) 4 0 (wA cI h (sA σ 3 (upd (upd (mvL (σ.2 3) f t (flw (σ.2 3) f g (rowS (σ.2 3) f nt)) i) (f * 12 + i) ((((mvL (σ.2 3) f t (flw (σ.2 3) f g (rowS (σ.2 3) f nt)) i) (f * 12 + i)) - (flw (σ.2 3) f g (rowS (σ.2 3) f nt) i)))) (t * 12 + i) ((((upd (mvL (σ.2 3) f t (flw (σ.2 3) f g (rowS (σ.2 3) f nt)) i) (f * 12 + i) ((((mvL (σ.2 3) f t (flw (σ.2 3) f g (rowS (σ.2 3) f nt)) i) (f * 12 + i)) - (flw (σ.2 3) f g (rowS (σ.2 3) f nt) i)))) (t * 12 + i)) + (flw (σ.2 3) f g (rowS (σ.2 3) f nt) i)))))) C rfl rfl (by omega) (by decide) rfl dX0_move_100 ?_
        refine g_iload 7 C rfl dX0_move_101 ?_
        refine g_iload 1 C rfl dX0_move_103 ?_
        refine g_iadd C dX0_move_105 ?_
        refine g_istore [(5, .int ((rowS (σ.2 3) f i) + (σ.2 3 (f * 12 + i)))), (8, .int (flw (σ.2 3) f g (rowS (σ.2 3) f nt) i)), (7, .int (σ.2 3 (f * 12 + i))), (0, .ref (h 0)), (1, .int (nI (f))), (2, .int (nI (t))), (3, .int (g)), (4, .int (rowS (σ.2 3) f nt)), (6, .int (nI (i)))] C dX0_move_106 (by decide) rfl ?_
        refine g_iincN 8 i 1 [(6, .int (nI (i + 1))), (5, .int ((rowS (σ.2 3) f i) + (σ.2 3 (f * 12 + i)))), (8, .int (flw (σ.2 3) f g (rowS (σ.2 3) f nt) i)), (7, .int (σ.2 3 (f * 12 + i))), (0, .ref (h 0)), (1, .int (nI (f))), (2, .int (nI (t))), (3, .int (g)), (4, .int (rowS (σ.2 3) f nt))] C dX0_move_108 rfl (by decide) (by decide) rfl ?_
        refine g_goto 27 C dX0_move_111 (by decide) ?_
        refine g_lv [4, 5, 6, 7, 8, 1, 0] [(0, .ref (h 0)), (1, .int (nI (f))), (2, .int (nI (t))), (3, .int (g)), (4, .int (rowS (σ.2 3) f nt)), (5, .int ((rowS (σ.2 3) f i) + (σ.2 3 (f * 12 + i)))), (6, .int (nI (i + 1)))] rfl ?_
        exact ih_27 (i + 1) (by omega) (by omega)
  refine g_lv [3, 4, 5, 6, 2, 1, 0] [(0, .ref (h 0)), (1, .int (nI (f))), (2, .int (nI (t))), (3, .int (g)), (4, .int (rowS (σ.2 3) f nt)), (5, .int (0)), (6, .int (0))] rfl ?_
  exact loop_27 (nt + 1) 0 (by omega) (by omega)
set_option maxRecDepth 100000 in
set_option maxHeartbeats 4000000 in
theorem c_waste (l : Launch) (D : va_G) (cI cJ : ClassId) (h : Nat → Nat) (σ : gS) (np nt no ni : Nat) (hI : iA σ np nt no ni) (r : Nat) (hr1 : r < 106) : MC l yX0_waste wsX0_waste 1 21 D (tyIJ cI cJ) [.ref (h 0), .int (nI (r))] (wA cI h σ) (wA cI h (sA σ 3 (wsL (σ.2 3) r nt))) none (some (.int (rowS (σ.2 3) r nt))) 0 := by
  have hI0 := hI
  obtain ⟨⟨hnp, hnp6⟩, ⟨hnt, hnt12⟩, ⟨hno, hno10⟩, ⟨hni, hni8⟩, hPT, hLC, hLH⟩ := hI
  refine MC.ofG (cc := cX0_waste) (maxL := 5) (ret := (some .int)) [(0, .ref (h 0)), (1, .int (nI (r)))] (by decide) rfl (Nat.le_of_ble_eq_true rfl) rfl ?_
  intro p e s m args below meth c C hr hout
  have hin : ∀ w ∈ wsX00, w ∈ wsX0_waste := fun w h => by first | exact List.mem_cons_of_mem _ (List.mem_append_right _ h) | exact List.mem_cons_of_mem _ (List.mem_append_left _ (List.mem_append_right _ h)) | exact List.mem_cons_of_mem _ (List.mem_append_left _ (List.mem_append_left _ (List.mem_append_right _ h))) | exact List.mem_cons_of_mem _ (List.mem_append_left _ (List.mem_append_left _ (List.mem_append_left _ (List.mem_append_right _ h)))) | exact List.mem_cons_of_mem _ (List.mem_append_left _ (List.mem_append_left _ (List.mem_append_left _ (List.mem_append_left _ (List.mem_append_right _ h)))))
  refine g_iconst 0 C dX0_waste_0 (by decide) ?_
  refine g_istore_n [(2, .int (0)), (0, .ref (h 0)), (1, .int (nI (r)))] C dX0_waste_1 rfl (by decide) rfl ?_
  refine g_iconst 0 C dX0_waste_2 (by decide) ?_
  refine g_istore_n [(3, .int (0)), (2, .int (0)), (0, .ref (h 0)), (1, .int (nI (r)))] C dX0_waste_3 rfl (by decide) rfl ?_
  have loop_4 : ∀ (fu : Nat) (i : Nat), i ≤ nt → nt + 1 ≤ i + fu → G p l e ({ frames := 1, cells := 0, slots := 6 * 0, locals := 21 } : Room) s m args below meth c D (va_A (wA cI h σ) s.heap.size) 5 0 0 (gQ below D (wA cI h σ) (wA cI h (sA σ 3 (wsL (σ.2 3) r nt))) none (some (.int (rowS (σ.2 3) r nt))) 0 args s) (wA cI h (sA σ 3 (wsL (σ.2 3) r i))) [(0, .ref (h 0)), (1, .int (nI (r))), (2, .int (rowS (σ.2 3) r i)), (3, .int (nI (i)))] 4 [] := by
    intro fu
    induction fu with
    | zero => intro i hi hf; exact absurd True.intro (by omega)
    | succ fu ih_4 =>
      intro i hi hf
      refine g_iload_n 3 C rfl dX0_waste_4 rfl ?_
      refine g_aload_n 0 C rfl dX0_waste_5 rfl ?_
      refine g_get (C0 := RX0) (T := TX0) (N := 17) 0 0 1 (.int (σ.1 1)) C hin rfl rfl (by decide) (by decide +kernel) rfl dX0_waste_6 ?_
      refine g_is (nI nt) hnt ?_
      refine g_icmp_ge 62 C dX0_waste_9 (by decide) (fun c_9_1 => ?_) (fun c_9_1 => ?_)
      ·
        have d_9_1 : nt ≤ i := (nI_leI (a := nt) (b := i) (by omega) (by omega)).mp c_9_1
        refine g_iload_n 2 C rfl dX0_waste_62 rfl ?_
        exact g_iret C hr rfl dX0_waste_63 (Nat.zero_le _) (Nat.zero_le _) rfl (by rw [show nt = i by omega]) (by rw [show nt = i by omega])
      ·
        have d_9_1 : ¬ nt ≤ i := fun q => c_9_1 ((nI_leI (a := nt) (b := i) (by omega) (by omega)).mpr q)
        refine g_aload_n 0 C rfl dX0_waste_12 rfl ?_
        refine g_get (C0 := RX0) (T := TX0) (N := 17) 0 0 8 (.ref (h 4)) C hin rfl rfl (by decide) (by decide +kernel) rfl dX0_waste_13 ?_
        refine g_iload_n 1 C rfl dX0_waste_16 rfl ?_
        refine g_iload_n 3 C rfl dX0_waste_17 rfl ?_
        refine g_callS0 (na := 2) (av := [.int (nI (r)), .int (nI (i))]) (c_place l D cI cJ _ r i) C gX0_waste_X0_place rfl (by decide +kernel) rfl ⟨Nat.le_of_ble_eq_true rfl, Nat.le_of_ble_eq_true rfl⟩ rfl (Nat.le_of_ble_eq_true rfl) ⟨Nat.zero_le _, Nat.zero_le _⟩ rfl dX0_waste_18 ?_
        refine g_ialdN (cA := cI) (n := 1284) (a := h 4) (f := wsL (σ.2 3) r i) (r * 12 + i) 4 0 C rfl rfl (by omega) (by decide) dX0_waste_21 ?_
        refine g_is ((σ.2 3 (r * 12 + i))) (wsL_at _ r i i (Nat.le_refl i) (by omega) hr1) ?_
        refine g_istore [(4, .int (σ.2 3 (r * 12 + i))), (0, .ref (h 0)), (1, .int (nI (r))), (2, .int (rowS (σ.2 3) r i)), (3, .int (nI (i)))] C dX0_waste_22 (by decide) rfl ?_
        refine g_aload_n 1 C rfl dX0_waste_24 rfl ?_
        refine g_get (C0 := RX0) (T := TX0) (N := 17) 0 0 8 (.ref (h 4)) C hin rfl rfl (by decide) (by decide +kernel) rfl dX0_waste_25 ?_
        refine g_iload_n 2 C rfl dX0_waste_28 rfl ?_
        refine g_iload_n 4 C rfl dX0_waste_29 rfl ?_
        refine g_callS0 (na := 2) (av := [.int (nI (r)), .int (nI (i))]) (c_place l D cI cJ _ r i) C gX0_waste_X0_place rfl (by decide +kernel) rfl ⟨Nat.le_of_ble_eq_true rfl, Nat.le_of_ble_eq_true rfl⟩ rfl (Nat.le_of_ble_eq_true rfl) ⟨Nat.zero_le _, Nat.zero_le _⟩ rfl dX0_waste_30 ?_
        refine g_iconst 0 C dX0_waste_33 (by decide) ?_
        refine g_iastN (cA := cI) (n := 1284) (a := h 4) (f := wsL (σ.2 3) r i) (x := 0) (r * 12 + i) 4 0 (wA cI h (sA σ 3 (upd (wsL (σ.2 3) r i) (r * 12 + i) (0)))) C rfl rfl (by omega) (by decide) rfl dX0_waste_34 ?_
        refine g_aload_n 1 C rfl dX0_waste_35 rfl ?_
        refine g_get (C0 := RX0) (T := TX0) (N := 17) 0 0 8 (.ref (h 4)) C hin rfl rfl (by decide) (by decide +kernel) rfl dX0_waste_36 ?_
        refine g_bipush 106 C dX0_waste_39 (by decide) ?_
        refine g_iload_n 4 C rfl dX0_waste_41 rfl ?_
        refine g_callS0 (na := 2) (av := [.int (106), .int (nI (i))]) (c_place l D cI cJ _ 106 i) C gX0_waste_X0_place rfl (by decide +kernel) rfl ⟨Nat.le_of_ble_eq_true rfl, Nat.le_of_ble_eq_true rfl⟩ rfl (Nat.le_of_ble_eq_true rfl) ⟨Nat.zero_le _, Nat.zero_le _⟩ rfl dX0_waste_42 ?_
        refine g_dup2 C dX0_waste_45 rfl rfl ?_
        refine g_ialdN (cA := cI) (n := 1284) (a := h 4) (f := upd (wsL (σ.2 3) r i) (r * 12 + i) (0)) (106 * 12 + i) 4 0 C rfl rfl (by omega) (by decide) dX0_waste_46 ?_
        refine g_iload 0 C rfl dX0_waste_47 ?_
        refine g_iadd C dX0_waste_49 ?_
        refine g_iastN (cA := cI) (n := 1284) (a := h 4) (f := upd (wsL (σ.2 3) r i) (r * 12 + i) (0)) (x := (((upd (wsL (σ.2 3) r i) (r * 12 + i) (0)) (106 * 12 + i)) + (σ.2 3 (r * 12 + i)))) (106 * 12 + i) 4 0 (wA cI h (sA σ 3 (upd (upd (wsL (σ.2 3) r i) (r * 12 + i) (0)) (106 * 12 + i) ((((upd (wsL (σ.2 3) r i) (r * 12 + i) (0)) (106 * 12 + i)) + (σ.2 3 (r * 12 + i))))))) C rfl rfl (by omega) (by decide) rfl dX0_waste_50 ?_
        refine g_iload_n 3 C rfl dX0_waste_51 rfl ?_
        refine g_iload 0 C rfl dX0_waste_52 ?_
        refine g_iadd C dX0_waste_54 ?_
        refine g_istore_n [(2, .int ((rowS (σ.2 3) r i) + (σ.2 3 (r * 12 + i)))), (4, .int (σ.2 3 (r * 12 + i))), (0, .ref (h 0)), (1, .int (nI (r))), (3, .int (nI (i)))] C dX0_waste_55 rfl (by decide) rfl ?_
        refine g_iincN 4 i 1 [(3, .int (nI (i + 1))), (2, .int ((rowS (σ.2 3) r i) + (σ.2 3 (r * 12 + i)))), (4, .int (σ.2 3 (r * 12 + i))), (0, .ref (h 0)), (1, .int (nI (r)))] C dX0_waste_56 rfl (by decide) (by decide) rfl ?_
        refine g_goto 4 C dX0_waste_59 (by decide) ?_
        refine g_lv [3, 4, 1, 0] [(0, .ref (h 0)), (1, .int (nI (r))), (2, .int ((rowS (σ.2 3) r i) + (σ.2 3 (r * 12 + i)))), (3, .int (nI (i + 1)))] rfl ?_
        exact ih_4 (i + 1) (by omega) (by omega)
  refine g_lv [2, 3, 1, 0] [(0, .ref (h 0)), (1, .int (nI (r))), (2, .int (0)), (3, .int (0))] rfl ?_
  exact loop_4 (nt + 1) 0 (by omega) (by omega)
set_option maxRecDepth 100000 in
set_option maxHeartbeats 4000000 in
theorem c_colourOfRow (l : Launch) (D : va_G) (cI cJ : ClassId) (h : Nat → Nat) (σ : gS) (np nt no ni : Nat) (hI : iA σ np nt no ni) (r ch : Nat) (hr1 : r < 107) (hc : ch < 3) : MC l yX0_colourOfRow wsX0_colourOfRow 1 22 D (tyIJ cI cJ) [.ref (h 0), .int (nI (r)), .int (nI (ch))] (wA cI h σ) (wA cI h σ) none (some (.int (colR σ nt r ch))) 0 := by
  have hI0 := hI
  obtain ⟨⟨hnp, hnp6⟩, ⟨hnt, hnt12⟩, ⟨hno, hno10⟩, ⟨hni, hni8⟩, hPT, hLC, hLH⟩ := hI
  refine MC.ofG (cc := cX0_colourOfRow) (maxL := 7) (ret := (some .int)) [(0, .ref (h 0)), (1, .int (nI (r))), (2, .int (nI (ch)))] (by decide) rfl (Nat.le_of_ble_eq_true rfl) rfl ?_
  intro p e s m args below meth c C hr hout
  have hin : ∀ w ∈ wsX00, w ∈ wsX0_colourOfRow := fun w h => by first | exact List.mem_cons_of_mem _ (List.mem_append_right _ h) | exact List.mem_cons_of_mem _ (List.mem_append_left _ (List.mem_append_right _ h)) | exact List.mem_cons_of_mem _ (List.mem_append_left _ (List.mem_append_left _ (List.mem_append_right _ h))) | exact List.mem_cons_of_mem _ (List.mem_append_left _ (List.mem_append_left _ (List.mem_append_left _ (List.mem_append_right _ h)))) | exact List.mem_cons_of_mem _ (List.mem_append_left _ (List.mem_append_left _ (List.mem_append_left _ (List.mem_append_left _ (List.mem_append_right _ h)))))
  refine g_iconst 0 C dX0_colourOfRow_0 (by decide) ?_
  refine g_istore_n [(3, .int (0)), (0, .ref (h 0)), (1, .int (nI (r))), (2, .int (nI (ch)))] C dX0_colourOfRow_1 rfl (by decide) rfl ?_
  refine g_iconst 0 C dX0_colourOfRow_2 (by decide) ?_
  refine g_istore [(4, .int (0)), (3, .int (0)), (0, .ref (h 0)), (1, .int (nI (r))), (2, .int (nI (ch)))] C dX0_colourOfRow_3 (by decide) rfl ?_
  refine g_iconst 0 C dX0_colourOfRow_5 (by decide) ?_
  refine g_istore [(5, .int (0)), (4, .int (0)), (3, .int (0)), (0, .ref (h 0)), (1, .int (nI (r))), (2, .int (nI (ch)))] C dX0_colourOfRow_6 (by decide) rfl ?_
  have loop_8 : ∀ (fu : Nat) (i : Nat), i ≤ nt → nt + 1 ≤ i + fu → G p l e ({ frames := 1, cells := 0, slots := 6 * 0, locals := 22 } : Room) s m args below meth c D (va_A (wA cI h σ) s.heap.size) 7 0 0 (gQ below D (wA cI h σ) (wA cI h σ) none (some (.int (colR σ nt r ch))) 0 args s) (wA cI h σ) [(0, .ref (h 0)), (1, .int (nI (r))), (2, .int (nI (ch))), (3, .int (rowS (σ.2 3) r i)), (4, .int (isum (fun t => σ.2 3 (r * 12 + t) * colT σ t ch) i)), (5, .int (nI (i)))] 8 [] := by
    intro fu
    induction fu with
    | zero => intro i hi hf; exact absurd True.intro (by omega)
    | succ fu ih_8 =>
      intro i hi hf
      refine g_iload 5 C rfl dX0_colourOfRow_8 ?_
      refine g_aload_n 0 C rfl dX0_colourOfRow_10 rfl ?_
      refine g_get (C0 := RX0) (T := TX0) (N := 17) 0 0 1 (.int (σ.1 1)) C hin rfl rfl (by decide) (by decide +kernel) rfl dX0_colourOfRow_11 ?_
      refine g_is (nI nt) hnt ?_
      refine g_icmp_ge 56 C dX0_colourOfRow_14 (by decide) (fun c_14_1 => ?_) (fun c_14_1 => ?_)
      ·
        have d_14_1 : nt ≤ i := (nI_leI (a := nt) (b := i) (by omega) (by omega)).mp c_14_1
        refine g_iload_n 3 C rfl dX0_colourOfRow_56 rfl ?_
        refine g_if_ne 64 C dX0_colourOfRow_57 (by decide) (fun c_57_2 => ?_) (fun c_57_2 => ?_)
        ·
          have cz := c_57_2
          refine g_iload 4 C rfl dX0_colourOfRow_64 ?_
          refine g_iload_n 3 C rfl dX0_colourOfRow_66 rfl ?_
          refine g_idiv C cz dX0_colourOfRow_67 ?_
          exact g_iret C hr rfl dX0_colourOfRow_68 (Nat.zero_le _) (Nat.zero_le _) rfl (congrArg (fun x => some (Value.int x)) (by have e : nt = i := (by omega); subst e; rw [colR, if_neg cz])) rfl
        ·
          have cz := c_57_2
          refine g_iconst (-1) C dX0_colourOfRow_60 (by decide) ?_
          refine g_goto 68 C dX0_colourOfRow_61 (by decide) ?_
          exact g_iret C hr rfl dX0_colourOfRow_68 (Nat.zero_le _) (Nat.zero_le _) rfl (congrArg (fun x => some (Value.int x)) (by have e : nt = i := (by omega); subst e; rw [colR, if_pos cz])) rfl
      ·
        have d_14_1 : ¬ nt ≤ i := fun q => c_14_1 ((nI_leI (a := nt) (b := i) (by omega) (by omega)).mpr q)
        refine g_aload_n 0 C rfl dX0_colourOfRow_17 rfl ?_
        refine g_get (C0 := RX0) (T := TX0) (N := 17) 0 0 8 (.ref (h 4)) C hin rfl rfl (by decide) (by decide +kernel) rfl dX0_colourOfRow_18 ?_
        refine g_iload_n 1 C rfl dX0_colourOfRow_21 rfl ?_
        refine g_iload 5 C rfl dX0_colourOfRow_22 ?_
        refine g_callS0 (na := 2) (av := [.int (nI (r)), .int (nI (i))]) (c_place l D cI cJ _ r i) C gX0_colourOfRow_X0_place rfl (by decide +kernel) rfl ⟨Nat.le_of_ble_eq_true rfl, Nat.le_of_ble_eq_true rfl⟩ rfl (Nat.le_of_ble_eq_true rfl) ⟨Nat.zero_le _, Nat.zero_le _⟩ rfl dX0_colourOfRow_24 ?_
        refine g_ialdN (cA := cI) (n := 1284) (a := h 4) (f := σ.2 3) (r * 12 + i) 4 0 C rfl rfl (by omega) (by decide) dX0_colourOfRow_27 ?_
        refine g_istore [(6, .int (σ.2 3 (r * 12 + i))), (0, .ref (h 0)), (1, .int (nI (r))), (2, .int (nI (ch))), (3, .int (rowS (σ.2 3) r i)), (4, .int (isum (fun t => σ.2 3 (r * 12 + t) * colT σ t ch) i)), (5, .int (nI (i)))] C dX0_colourOfRow_28 (by decide) rfl ?_
        refine g_iload_n 4 C rfl dX0_colourOfRow_30 rfl ?_
        refine g_iload 0 C rfl dX0_colourOfRow_31 ?_
        refine g_iadd C dX0_colourOfRow_33 ?_
        refine g_istore_n [(3, .int ((rowS (σ.2 3) r i) + (σ.2 3 (r * 12 + i)))), (6, .int (σ.2 3 (r * 12 + i))), (0, .ref (h 0)), (1, .int (nI (r))), (2, .int (nI (ch))), (4, .int (isum (fun t => σ.2 3 (r * 12 + t) * colT σ t ch) i)), (5, .int (nI (i)))] C dX0_colourOfRow_34 rfl (by decide) rfl ?_
        refine g_iload 5 C rfl dX0_colourOfRow_35 ?_
        refine g_iload 1 C rfl dX0_colourOfRow_37 ?_
        refine g_aload_n 2 C rfl dX0_colourOfRow_39 rfl ?_
        refine g_iload 6 C rfl dX0_colourOfRow_40 ?_
        refine g_iload_n 4 C rfl dX0_colourOfRow_42 rfl ?_
        refine g_callV0 (C0 := RX0) (T := TX0) (N := 17) (ci := 0) (na := 2) (As := [.int (nI (i)), .int (nI (ch))]) (c_colourOfTube l D cI cJ h σ np nt no ni hI0 i ch (by omega) (by omega)) C gX0_colourOfRow_X0_colourOfTube rfl (by decide +kernel) rfl ⟨Nat.le_of_ble_eq_true rfl, Nat.le_of_ble_eq_true rfl⟩ rfl rfl rfl (Nat.le_of_ble_eq_true rfl) ⟨Nat.zero_le _, Nat.zero_le _⟩ rfl dX0_colourOfRow_43 ?_
        refine g_imul C dX0_colourOfRow_46 ?_
        refine g_iadd C dX0_colourOfRow_47 ?_
        refine g_istore [(4, .int ((isum (fun t => σ.2 3 (r * 12 + t) * colT σ t ch) i) + ((σ.2 3 (r * 12 + i)) * (colT σ i ch)))), (3, .int ((rowS (σ.2 3) r i) + (σ.2 3 (r * 12 + i)))), (6, .int (σ.2 3 (r * 12 + i))), (0, .ref (h 0)), (1, .int (nI (r))), (2, .int (nI (ch))), (5, .int (nI (i)))] C dX0_colourOfRow_48 (by decide) rfl ?_
        refine g_iincN 6 i 1 [(5, .int (nI (i + 1))), (4, .int ((isum (fun t => σ.2 3 (r * 12 + t) * colT σ t ch) i) + ((σ.2 3 (r * 12 + i)) * (colT σ i ch)))), (3, .int ((rowS (σ.2 3) r i) + (σ.2 3 (r * 12 + i)))), (6, .int (σ.2 3 (r * 12 + i))), (0, .ref (h 0)), (1, .int (nI (r))), (2, .int (nI (ch)))] C dX0_colourOfRow_50 rfl (by decide) (by decide) rfl ?_
        refine g_goto 8 C dX0_colourOfRow_53 (by decide) ?_
        refine g_lv [4, 5, 6, 2, 1, 0] [(0, .ref (h 0)), (1, .int (nI (r))), (2, .int (nI (ch))), (3, .int ((rowS (σ.2 3) r i) + (σ.2 3 (r * 12 + i)))), (4, .int ((isum (fun t => σ.2 3 (r * 12 + t) * colT σ t ch) i) + ((σ.2 3 (r * 12 + i)) * (colT σ i ch)))), (5, .int (nI (i + 1)))] rfl ?_
        exact ih_8 (i + 1) (by omega) (by omega)
  refine g_lv [3, 4, 5, 2, 1, 0] [(0, .ref (h 0)), (1, .int (nI (r))), (2, .int (nI (ch))), (3, .int (0)), (4, .int (0)), (5, .int (0))] rfl ?_
  exact loop_8 (nt + 1) 0 (by omega) (by omega)
set_option maxRecDepth 100000 in
set_option maxHeartbeats 4000000 in
theorem c_gramsOfPigment (l : Launch) (D : va_G) (cI cJ : ClassId) (h : Nat → Nat) (σ : gS) (np nt no ni : Nat) (hI : iA σ np nt no ni) (r : Nat) (k : Int32) (hr1 : r < 107) : MC l yX0_gramsOfPigment wsX0_gramsOfPigment 1 21 D (tyIJ cI cJ) [.ref (h 0), .int (nI (r)), .int (k)] (wA cI h σ) (wA cI h σ) none (some (.int (gopN σ r k nt))) 0 := by
  have hI0 := hI
  obtain ⟨⟨hnp, hnp6⟩, ⟨hnt, hnt12⟩, ⟨hno, hno10⟩, ⟨hni, hni8⟩, hPT, hLC, hLH⟩ := hI
  refine MC.ofG (cc := cX0_gramsOfPigment) (maxL := 5) (ret := (some .int)) [(0, .ref (h 0)), (1, .int (nI (r))), (2, .int (k))] (by decide) rfl (Nat.le_of_ble_eq_true rfl) rfl ?_
  intro p e s m args below meth c C hr hout
  have hin : ∀ w ∈ wsX00, w ∈ wsX0_gramsOfPigment := fun w h => by first | exact List.mem_cons_of_mem _ (List.mem_append_right _ h) | exact List.mem_cons_of_mem _ (List.mem_append_left _ (List.mem_append_right _ h)) | exact List.mem_cons_of_mem _ (List.mem_append_left _ (List.mem_append_left _ (List.mem_append_right _ h))) | exact List.mem_cons_of_mem _ (List.mem_append_left _ (List.mem_append_left _ (List.mem_append_left _ (List.mem_append_right _ h)))) | exact List.mem_cons_of_mem _ (List.mem_append_left _ (List.mem_append_left _ (List.mem_append_left _ (List.mem_append_left _ (List.mem_append_right _ h)))))
  refine g_iconst 0 C dX0_gramsOfPigment_0 (by decide) ?_
  refine g_istore_n [(3, .int (0)), (0, .ref (h 0)), (1, .int (nI (r))), (2, .int (k))] C dX0_gramsOfPigment_1 rfl (by decide) rfl ?_
  refine g_iconst 0 C dX0_gramsOfPigment_2 (by decide) ?_
  refine g_istore [(4, .int (0)), (3, .int (0)), (0, .ref (h 0)), (1, .int (nI (r))), (2, .int (k))] C dX0_gramsOfPigment_3 (by decide) rfl ?_
  have loop_5 : ∀ (fu : Nat) (i : Nat), i ≤ nt → nt + 1 ≤ i + fu → G p l e ({ frames := 1, cells := 0, slots := 6 * 0, locals := 21 } : Room) s m args below meth c D (va_A (wA cI h σ) s.heap.size) 5 0 0 (gQ below D (wA cI h σ) (wA cI h σ) none (some (.int (gopN σ r k nt))) 0 args s) (wA cI h σ) [(0, .ref (h 0)), (1, .int (nI (r))), (2, .int (k)), (3, .int (gopN σ r k i)), (4, .int (nI (i)))] 5 [] := by
    intro fu
    induction fu with
    | zero => intro i hi hf; exact absurd True.intro (by omega)
    | succ fu ih_5 =>
      intro i hi hf
      refine g_iload 4 C rfl dX0_gramsOfPigment_5 ?_
      refine g_aload_n 0 C rfl dX0_gramsOfPigment_7 rfl ?_
      refine g_get (C0 := RX0) (T := TX0) (N := 17) 0 0 1 (.int (σ.1 1)) C hin rfl rfl (by decide) (by decide +kernel) rfl dX0_gramsOfPigment_8 ?_
      refine g_is (nI nt) hnt ?_
      refine g_icmp_ge 45 C dX0_gramsOfPigment_11 (by decide) (fun c_11_1 => ?_) (fun c_11_1 => ?_)
      ·
        have d_11_1 : nt ≤ i := (nI_leI (a := nt) (b := i) (by omega) (by omega)).mp c_11_1
        refine g_iload_n 3 C rfl dX0_gramsOfPigment_45 rfl ?_
        exact g_iret C hr rfl dX0_gramsOfPigment_46 (Nat.zero_le _) (Nat.zero_le _) rfl (by rw [show nt = i by omega]) rfl
      ·
        have d_11_1 : ¬ nt ≤ i := fun q => c_11_1 ((nI_leI (a := nt) (b := i) (by omega) (by omega)).mpr q)
        refine g_aload_n 0 C rfl dX0_gramsOfPigment_14 rfl ?_
        refine g_get (C0 := RX0) (T := TX0) (N := 17) 0 0 6 (.ref (h 2)) C hin rfl rfl (by decide) (by decide +kernel) rfl dX0_gramsOfPigment_15 ?_
        refine g_iload 4 C rfl dX0_gramsOfPigment_18 ?_
        refine g_ialdN (cA := cI) (n := 12) (a := h 2) (f := σ.2 1) i 2 0 C rfl rfl (by omega) (by decide) dX0_gramsOfPigment_20 ?_
        refine g_iload_n 2 C rfl dX0_gramsOfPigment_21 rfl ?_
        refine g_icmp_ne 39 C dX0_gramsOfPigment_22 (by decide) (fun c_22_2 => ?_) (fun c_22_2 => ?_)
        ·
          have ek : gopN σ r k (i + 1) = gopN σ r k i := if_neg c_22_2
          refine g_iincN 4 i 1 [(4, .int (nI (i + 1))), (0, .ref (h 0)), (1, .int (nI (r))), (2, .int (k)), (3, .int (gopN σ r k i))] C dX0_gramsOfPigment_39 rfl (by decide) (by decide) rfl ?_
          refine g_goto 5 C dX0_gramsOfPigment_42 (by decide) ?_
          refine g_lv [1, 2, 3, 4, 0] [(0, .ref (h 0)), (1, .int (nI (r))), (2, .int (k)), (3, .int (gopN σ r k i)), (4, .int (nI (i + 1)))] rfl ?_
          have hx := ih_5 (i + 1) (by omega) (by omega)
          rw [ek] at hx
          exact hx
        ·
          have ek : gopN σ r k (i + 1) = gopN σ r k i + σ.2 3 (r * 12 + i) := if_pos c_22_2
          refine g_iload_n 3 C rfl dX0_gramsOfPigment_25 rfl ?_
          refine g_aload_n 0 C rfl dX0_gramsOfPigment_26 rfl ?_
          refine g_get (C0 := RX0) (T := TX0) (N := 17) 0 0 8 (.ref (h 4)) C hin rfl rfl (by decide) (by decide +kernel) rfl dX0_gramsOfPigment_27 ?_
          refine g_iload_n 1 C rfl dX0_gramsOfPigment_30 rfl ?_
          refine g_iload 4 C rfl dX0_gramsOfPigment_31 ?_
          refine g_callS0 (na := 2) (av := [.int (nI (r)), .int (nI (i))]) (c_place l D cI cJ _ r i) C gX0_gramsOfPigment_X0_place rfl (by decide +kernel) rfl ⟨Nat.le_of_ble_eq_true rfl, Nat.le_of_ble_eq_true rfl⟩ rfl (Nat.le_of_ble_eq_true rfl) ⟨Nat.zero_le _, Nat.zero_le _⟩ rfl dX0_gramsOfPigment_33 ?_
          refine g_ialdN (cA := cI) (n := 1284) (a := h 4) (f := σ.2 3) (r * 12 + i) 4 0 C rfl rfl (by omega) (by decide) dX0_gramsOfPigment_36 ?_
          refine g_iadd C dX0_gramsOfPigment_37 ?_
          refine g_istore_n [(3, .int ((gopN σ r k i) + (σ.2 3 (r * 12 + i)))), (0, .ref (h 0)), (1, .int (nI (r))), (2, .int (k)), (4, .int (nI (i)))] C dX0_gramsOfPigment_38 rfl (by decide) rfl ?_
          refine g_iincN 4 i 1 [(4, .int (nI (i + 1))), (3, .int ((gopN σ r k i) + (σ.2 3 (r * 12 + i)))), (0, .ref (h 0)), (1, .int (nI (r))), (2, .int (k))] C dX0_gramsOfPigment_39 rfl (by decide) (by decide) rfl ?_
          refine g_goto 5 C dX0_gramsOfPigment_42 (by decide) ?_
          refine g_lv [2, 3, 4, 1, 0] [(0, .ref (h 0)), (1, .int (nI (r))), (2, .int (k)), (3, .int ((gopN σ r k i) + (σ.2 3 (r * 12 + i)))), (4, .int (nI (i + 1)))] rfl ?_
          have hx := ih_5 (i + 1) (by omega) (by omega)
          rw [ek] at hx
          exact hx
  refine g_lv [2, 3, 4, 1, 0] [(0, .ref (h 0)), (1, .int (nI (r))), (2, .int (k)), (3, .int (0)), (4, .int (0))] rfl ?_
  exact loop_5 (nt + 1) 0 (by omega) (by omega)
set_option maxRecDepth 100000 in
set_option maxHeartbeats 4000000 in
theorem c_mainPigmentOfRow (l : Launch) (D : va_G) (cI cJ : ClassId) (h : Nat → Nat) (σ : gS) (np nt no ni : Nat) (hI : iA σ np nt no ni) (r : Nat) (hr1 : r < 107) : MC l yX0_mainPigmentOfRow wsX0_mainPigmentOfRow 2 45 D (tyIJ cI cJ) [.ref (h 0), .int (nI (r))] (wA cI h σ) (wA cI h σ) none (some (.int (mpr (fun k => gopN σ r (nI k) nt) np).1)) 0 := by
  have hI0 := hI
  obtain ⟨⟨hnp, hnp6⟩, ⟨hnt, hnt12⟩, ⟨hno, hno10⟩, ⟨hni, hni8⟩, hPT, hLC, hLH⟩ := hI
  refine MC.ofG (cc := cX0_mainPigmentOfRow) (maxL := 6) (ret := (some .int)) [(0, .ref (h 0)), (1, .int (nI (r)))] (by decide) rfl (Nat.le_of_ble_eq_true rfl) rfl ?_
  intro p e s m args below meth c C hr hout
  have hin : ∀ w ∈ wsX00, w ∈ wsX0_mainPigmentOfRow := fun w h => by first | exact List.mem_cons_of_mem _ (List.mem_append_right _ h) | exact List.mem_cons_of_mem _ (List.mem_append_left _ (List.mem_append_right _ h)) | exact List.mem_cons_of_mem _ (List.mem_append_left _ (List.mem_append_left _ (List.mem_append_right _ h))) | exact List.mem_cons_of_mem _ (List.mem_append_left _ (List.mem_append_left _ (List.mem_append_left _ (List.mem_append_right _ h)))) | exact List.mem_cons_of_mem _ (List.mem_append_left _ (List.mem_append_left _ (List.mem_append_left _ (List.mem_append_left _ (List.mem_append_right _ h)))))
  refine g_iconst (-1) C dX0_mainPigmentOfRow_0 (by decide) ?_
  refine g_istore_n [(2, .int ((-1))), (0, .ref (h 0)), (1, .int (nI (r)))] C dX0_mainPigmentOfRow_1 rfl (by decide) rfl ?_
  refine g_iconst 0 C dX0_mainPigmentOfRow_2 (by decide) ?_
  refine g_istore_n [(3, .int (0)), (2, .int ((-1))), (0, .ref (h 0)), (1, .int (nI (r)))] C dX0_mainPigmentOfRow_3 rfl (by decide) rfl ?_
  refine g_iconst 0 C dX0_mainPigmentOfRow_4 (by decide) ?_
  refine g_istore [(4, .int (0)), (3, .int (0)), (2, .int ((-1))), (0, .ref (h 0)), (1, .int (nI (r)))] C dX0_mainPigmentOfRow_5 (by decide) rfl ?_
  have loop_7 : ∀ (fu : Nat) (i : Nat), i ≤ np → np + 1 ≤ i + fu → G p l e ({ frames := 2, cells := 0, slots := 6 * 0, locals := 45 } : Room) s m args below meth c D (va_A (wA cI h σ) s.heap.size) 6 0 0 (gQ below D (wA cI h σ) (wA cI h σ) none (some (.int (mpr (fun k => gopN σ r (nI k) nt) np).1)) 0 args s) (wA cI h σ) [(0, .ref (h 0)), (1, .int (nI (r))), (2, .int ((mpr (fun k => gopN σ r (nI k) nt) i).1)), (3, .int ((mpr (fun k => gopN σ r (nI k) nt) i).2)), (4, .int (nI (i)))] 7 [] := by
    intro fu
    induction fu with
    | zero => intro i hi hf; exact absurd True.intro (by omega)
    | succ fu ih_7 =>
      intro i hi hf
      refine g_iload 4 C rfl dX0_mainPigmentOfRow_7 ?_
      refine g_aload_n 0 C rfl dX0_mainPigmentOfRow_9 rfl ?_
      refine g_get (C0 := RX0) (T := TX0) (N := 17) 0 0 0 (.int (σ.1 0)) C hin rfl rfl (by decide) (by decide +kernel) rfl dX0_mainPigmentOfRow_10 ?_
      refine g_is (nI np) hnp ?_
      refine g_icmp_ge 43 C dX0_mainPigmentOfRow_13 (by decide) (fun c_13_1 => ?_) (fun c_13_1 => ?_)
      ·
        have d_13_1 : np ≤ i := (nI_leI (a := np) (b := i) (by omega) (by omega)).mp c_13_1
        refine g_iload_n 2 C rfl dX0_mainPigmentOfRow_43 rfl ?_
        exact g_iret C hr rfl dX0_mainPigmentOfRow_44 (Nat.zero_le _) (Nat.zero_le _) rfl (by rw [show np = i by omega]) rfl
      ·
        have d_13_1 : ¬ np ≤ i := fun q => c_13_1 ((nI_leI (a := np) (b := i) (by omega) (by omega)).mpr q)
        refine g_aload_n 0 C rfl dX0_mainPigmentOfRow_16 rfl ?_
        refine g_iload_n 1 C rfl dX0_mainPigmentOfRow_17 rfl ?_
        refine g_iload 4 C rfl dX0_mainPigmentOfRow_18 ?_
        refine g_callV0 (C0 := RX0) (T := TX0) (N := 17) (ci := 0) (na := 2) (As := [.int (nI (r)), .int (nI (i))]) (c_gramsOfPigment l D cI cJ h σ np nt no ni hI0 r (nI (i)) (by omega)) C gX0_mainPigmentOfRow_X0_gramsOfPigment rfl (by decide +kernel) rfl ⟨Nat.le_of_ble_eq_true rfl, Nat.le_of_ble_eq_true rfl⟩ rfl rfl rfl (Nat.le_of_ble_eq_true rfl) ⟨Nat.zero_le _, Nat.zero_le _⟩ rfl dX0_mainPigmentOfRow_20 ?_
        refine g_istore [(5, .int (gopN σ r (nI (i)) nt)), (0, .ref (h 0)), (1, .int (nI (r))), (2, .int ((mpr (fun k => gopN σ r (nI k) nt) i).1)), (3, .int ((mpr (fun k => gopN σ r (nI k) nt) i).2)), (4, .int (nI (i)))] C dX0_mainPigmentOfRow_23 (by decide) rfl ?_
        refine g_iload 0 C rfl dX0_mainPigmentOfRow_25 ?_
        refine g_iload_n 4 C rfl dX0_mainPigmentOfRow_27 rfl ?_
        refine g_icmp_le 37 C dX0_mainPigmentOfRow_28 (by decide) (fun c_28_2 => ?_) (fun c_28_2 => ?_)
        ·
          have ek : mpr (fun k => gopN σ r (nI k) nt) (i + 1) = mpr (fun k => gopN σ r (nI k) nt) i := if_pos c_28_2
          refine g_iincN 5 i 1 [(4, .int (nI (i + 1))), (5, .int (gopN σ r (nI (i)) nt)), (0, .ref (h 0)), (1, .int (nI (r))), (2, .int ((mpr (fun k => gopN σ r (nI k) nt) i).1)), (3, .int ((mpr (fun k => gopN σ r (nI k) nt) i).2))] C dX0_mainPigmentOfRow_37 rfl (by decide) (by decide) rfl ?_
          refine g_goto 7 C dX0_mainPigmentOfRow_40 (by decide) ?_
          refine g_lv [2, 3, 4, 5, 0] [(0, .ref (h 0)), (1, .int (nI (r))), (2, .int ((mpr (fun k => gopN σ r (nI k) nt) i).1)), (3, .int ((mpr (fun k => gopN σ r (nI k) nt) i).2)), (4, .int (nI (i + 1)))] rfl ?_
          have hx := ih_7 (i + 1) (by omega) (by omega)
          rw [ek] at hx
          exact hx
        ·
          have ek : mpr (fun k => gopN σ r (nI k) nt) (i + 1) = (nI i, gopN σ r (nI i) nt) := if_neg c_28_2
          refine g_iload 5 C rfl dX0_mainPigmentOfRow_31 ?_
          refine g_istore_n [(2, .int (nI (i))), (5, .int (gopN σ r (nI (i)) nt)), (0, .ref (h 0)), (1, .int (nI (r))), (3, .int ((mpr (fun k => gopN σ r (nI k) nt) i).2)), (4, .int (nI (i)))] C dX0_mainPigmentOfRow_33 rfl (by decide) rfl ?_
          refine g_iload 1 C rfl dX0_mainPigmentOfRow_34 ?_
          refine g_istore_n [(3, .int (gopN σ r (nI (i)) nt)), (2, .int (nI (i))), (5, .int (gopN σ r (nI (i)) nt)), (0, .ref (h 0)), (1, .int (nI (r))), (4, .int (nI (i)))] C dX0_mainPigmentOfRow_36 rfl (by decide) rfl ?_
          refine g_iincN 5 i 1 [(4, .int (nI (i + 1))), (3, .int (gopN σ r (nI (i)) nt)), (2, .int (nI (i))), (5, .int (gopN σ r (nI (i)) nt)), (0, .ref (h 0)), (1, .int (nI (r)))] C dX0_mainPigmentOfRow_37 rfl (by decide) (by decide) rfl ?_
          refine g_goto 7 C dX0_mainPigmentOfRow_40 (by decide) ?_
          refine g_lv [4, 5, 2, 1, 0] [(0, .ref (h 0)), (1, .int (nI (r))), (2, .int (nI (i))), (3, .int (gopN σ r (nI (i)) nt)), (4, .int (nI (i + 1)))] rfl ?_
          have hx := ih_7 (i + 1) (by omega) (by omega)
          rw [ek] at hx
          exact hx
  refine g_lv [3, 4, 2, 1, 0] [(0, .ref (h 0)), (1, .int (nI (r))), (2, .int ((-1))), (3, .int (0)), (4, .int (0))] rfl ?_
  exact loop_7 (np + 1) 0 (by omega) (by omega)
set_option maxRecDepth 100000 in
set_option maxHeartbeats 4000000 in
theorem c_mixed (l : Launch) (D : va_G) (cI cJ : ClassId) (h : Nat → Nat) (σ : gS) (np nt no ni : Nat) (hI : iA σ np nt no ni) (a b : Nat) (q : Int32) (ch : Nat) (ha : a < 12) (hb : b < 12) (hc : ch < 3) : MC l yX0_mixed wsX0_mixed 1 22 D (tyIJ cI cJ) [.ref (h 0), .int (nI (a)), .int (nI (b)), .int (q), .int (nI (ch))] (wA cI h σ) (wA cI h σ) none (some (.int (mixd σ a b q ch))) 0 := by
  have hI0 := hI
  obtain ⟨⟨hnp, hnp6⟩, ⟨hnt, hnt12⟩, ⟨hno, hno10⟩, ⟨hni, hni8⟩, hPT, hLC, hLH⟩ := hI
  refine MC.ofG (cc := cX0_mixed) (maxL := 5) (ret := (some .int)) [(0, .ref (h 0)), (1, .int (nI (a))), (2, .int (nI (b))), (3, .int (q)), (4, .int (nI (ch)))] (by decide) rfl (Nat.le_of_ble_eq_true rfl) rfl ?_
  intro p e s m args below meth c C hr hout
  refine g_iload_n 3 C rfl dX0_mixed_0 rfl ?_
  refine g_aload_n 0 C rfl dX0_mixed_1 rfl ?_
  refine g_iload_n 1 C rfl dX0_mixed_2 rfl ?_
  refine g_iload 4 C rfl dX0_mixed_3 ?_
  refine g_callV0 (C0 := RX0) (T := TX0) (N := 17) (ci := 0) (na := 2) (As := [.int (nI (a)), .int (nI (ch))]) (c_colourOfTube l D cI cJ h σ np nt no ni hI0 a ch (by omega) (by omega)) C gX0_mixed_X0_colourOfTube rfl (by decide +kernel) rfl ⟨Nat.le_of_ble_eq_true rfl, Nat.le_of_ble_eq_true rfl⟩ rfl rfl rfl (Nat.le_of_ble_eq_true rfl) ⟨Nat.zero_le _, Nat.zero_le _⟩ rfl dX0_mixed_5 ?_
  refine g_imul C dX0_mixed_8 ?_
  refine g_iconst 4 C dX0_mixed_9 (by decide) ?_
  refine g_iload_n 3 C rfl dX0_mixed_10 rfl ?_
  refine g_isub C dX0_mixed_11 ?_
  refine g_aload_n 0 C rfl dX0_mixed_12 rfl ?_
  refine g_iload_n 2 C rfl dX0_mixed_13 rfl ?_
  refine g_iload 4 C rfl dX0_mixed_14 ?_
  refine g_callV0 (C0 := RX0) (T := TX0) (N := 17) (ci := 0) (na := 2) (As := [.int (nI (b)), .int (nI (ch))]) (c_colourOfTube l D cI cJ h σ np nt no ni hI0 b ch (by omega) (by omega)) C gX0_mixed_X0_colourOfTube rfl (by decide +kernel) rfl ⟨Nat.le_of_ble_eq_true rfl, Nat.le_of_ble_eq_true rfl⟩ rfl rfl rfl (Nat.le_of_ble_eq_true rfl) ⟨Nat.zero_le _, Nat.zero_le _⟩ rfl dX0_mixed_16 ?_
  refine g_imul C dX0_mixed_19 ?_
  refine g_iadd C dX0_mixed_20 ?_
  refine g_iconst 4 C dX0_mixed_21 (by decide) ?_
  refine g_idiv C (by decide) dX0_mixed_22 ?_
  exact g_iret C hr rfl dX0_mixed_23 (Nat.zero_le _) (Nat.zero_le _) rfl rfl rfl
set_option maxRecDepth 100000 in
set_option maxHeartbeats 4000000 in
theorem c_mainPigmentOf (l : Launch) (D : va_G) (cI cJ : ClassId) (h : Nat → Nat) (σ : gS) (np nt no ni : Nat) (hI : iA σ np nt no ni) (q : Nat) (hq : q < 8) : MC l yX0_mainPigmentOf wsX0_mainPigmentOf 3 70 D (tyIJ cI cJ) [.ref (h 0), .int (nI (q))] (wA cI h σ) (wA cI h σ) none (some (.int (mpo σ np nt q))) 0 := by
  have hI0 := hI
  obtain ⟨⟨hnp, hnp6⟩, ⟨hnt, hnt12⟩, ⟨hno, hno10⟩, ⟨hni, hni8⟩, hPT, hLC, hLH⟩ := hI
  refine MC.ofG (cc := cX0_mainPigmentOf) (maxL := 3) (ret := (some .int)) [(0, .ref (h 0)), (1, .int (nI (q)))] (by decide) rfl (Nat.le_of_ble_eq_true rfl) rfl ?_
  intro p e s m args below meth c C hr hout
  have hin : ∀ w ∈ wsX00, w ∈ wsX0_mainPigmentOf := fun w h => by first | exact List.mem_cons_of_mem _ (List.mem_append_right _ h) | exact List.mem_cons_of_mem _ (List.mem_append_left _ (List.mem_append_right _ h)) | exact List.mem_cons_of_mem _ (List.mem_append_left _ (List.mem_append_left _ (List.mem_append_right _ h))) | exact List.mem_cons_of_mem _ (List.mem_append_left _ (List.mem_append_left _ (List.mem_append_left _ (List.mem_append_right _ h)))) | exact List.mem_cons_of_mem _ (List.mem_append_left _ (List.mem_append_left _ (List.mem_append_left _ (List.mem_append_left _ (List.mem_append_right _ h)))))
  refine g_aload_n 0 C rfl dX0_mainPigmentOf_0 rfl ?_
  refine g_get (C0 := RX0) (T := TX0) (N := 17) 0 0 9 (.ref (h 5)) C hin rfl rfl (by decide) (by decide +kernel) rfl dX0_mainPigmentOf_1 ?_
  refine g_iload_n 1 C rfl dX0_mainPigmentOf_4 rfl ?_
  refine g_ialdN (cA := cI) (n := 8) (a := h 5) (f := σ.2 4) q 5 0 C rfl rfl (by omega) (by decide) dX0_mainPigmentOf_5 ?_
  obtain ⟨j, hj, ej⟩ := hLC q
  refine g_is (nI (j)) ej ?_
  refine g_istore_n [(2, .int (nI (j))), (0, .ref (h 0)), (1, .int (nI (q)))] C dX0_mainPigmentOf_6 rfl (by decide) rfl ?_
  refine g_iload_n 0 C rfl dX0_mainPigmentOf_7 rfl ?_
  refine g_if_ne 15 C dX0_mainPigmentOf_8 (by decide) (fun c_8_1 => ?_) (fun c_8_1 => ?_)
  ·
    have d_8_1 : ¬ j = 0 := fun q => c_8_1 ((nI_eq (a := j) (b := 0) (by omega) (by omega)).mpr q)
    refine g_aload_n 1 C rfl dX0_mainPigmentOf_15 rfl ?_
    refine g_iload_n 2 C rfl dX0_mainPigmentOf_16 rfl ?_
    refine g_iload_n 0 C rfl dX0_mainPigmentOf_17 rfl ?_
    refine g_iconst 1 C dX0_mainPigmentOf_18 (by decide) ?_
    refine g_isubN j 1 C (by omega) dX0_mainPigmentOf_19 ?_
    refine g_callS0 (na := 2) (av := [.int (nI (q)), .int (nI (j - 1))]) (c_layerRow l D cI cJ _ q (j - 1)) C gX0_mainPigmentOf_X0_layerRow rfl (by decide +kernel) rfl ⟨Nat.le_of_ble_eq_true rfl, Nat.le_of_ble_eq_true rfl⟩ rfl (Nat.le_of_ble_eq_true rfl) ⟨Nat.zero_le _, Nat.zero_le _⟩ rfl dX0_mainPigmentOf_20 ?_
    refine g_callV0 (C0 := RX0) (T := TX0) (N := 17) (ci := 0) (na := 1) (As := [.int (nI (10 + q * 12 + (j - 1)))]) (c_mainPigmentOfRow l D cI cJ h σ np nt no ni hI0 (10 + q * 12 + (j - 1)) (by omega)) C gX0_mainPigmentOf_X0_mainPigmentOfRow rfl (by decide +kernel) rfl ⟨Nat.le_of_ble_eq_true rfl, Nat.le_of_ble_eq_true rfl⟩ rfl rfl rfl (Nat.le_of_ble_eq_true rfl) ⟨Nat.zero_le _, Nat.zero_le _⟩ rfl dX0_mainPigmentOf_23 ?_
    exact g_iret C hr rfl dX0_mainPigmentOf_26 (Nat.zero_le _) (Nat.zero_le _) rfl (congrArg (fun x => some (Value.int x)) (by rw [mpo, if_neg (by rw [ej]; exact nI_ne0 (by omega) (by omega)), topR, ej, cl_nI (by omega)])) rfl
  ·
    have d_8_1 : j = 0 := (nI_eq (a := j) (b := 0) (by omega) (by omega)).mp c_8_1
    refine g_iconst (-1) C dX0_mainPigmentOf_11 (by decide) ?_
    refine g_goto 26 C dX0_mainPigmentOf_12 (by decide) ?_
    exact g_iret C hr rfl dX0_mainPigmentOf_26 (Nat.zero_le _) (Nat.zero_le _) rfl (congrArg (fun x => some (Value.int x)) (by rw [mpo, if_pos (by rw [ej, d_8_1]; rfl)])) rfl
set_option maxRecDepth 100000 in
set_option maxHeartbeats 4000000 in
theorem c_lookOf (l : Launch) (D : va_G) (cI cJ : ClassId) (h : Nat → Nat) (σ : gS) (np nt no ni : Nat) (hI : iA σ np nt no ni) (q ch : Nat) (hq : q < 8) (hc : ch < 3) : MC l yX0_lookOf wsX0_lookOf 2 48 D (tyIJ cI cJ) [.ref (h 0), .int (nI (q)), .int (nI (ch))] (wA cI h σ) (wA cI h σ) none (some (.int (lko σ nt q ch))) 0 := by
  have hI0 := hI
  obtain ⟨⟨hnp, hnp6⟩, ⟨hnt, hnt12⟩, ⟨hno, hno10⟩, ⟨hni, hni8⟩, hPT, hLC, hLH⟩ := hI
  refine MC.ofG (cc := cX0_lookOf) (maxL := 4) (ret := (some .int)) [(0, .ref (h 0)), (1, .int (nI (q))), (2, .int (nI (ch)))] (by decide) rfl (Nat.le_of_ble_eq_true rfl) rfl ?_
  intro p e s m args below meth c C hr hout
  have hin : ∀ w ∈ wsX00, w ∈ wsX0_lookOf := fun w h => by first | exact List.mem_cons_of_mem _ (List.mem_append_right _ h) | exact List.mem_cons_of_mem _ (List.mem_append_left _ (List.mem_append_right _ h)) | exact List.mem_cons_of_mem _ (List.mem_append_left _ (List.mem_append_left _ (List.mem_append_right _ h))) | exact List.mem_cons_of_mem _ (List.mem_append_left _ (List.mem_append_left _ (List.mem_append_left _ (List.mem_append_right _ h)))) | exact List.mem_cons_of_mem _ (List.mem_append_left _ (List.mem_append_left _ (List.mem_append_left _ (List.mem_append_left _ (List.mem_append_right _ h)))))
  refine g_aload_n 0 C rfl dX0_lookOf_0 rfl ?_
  refine g_get (C0 := RX0) (T := TX0) (N := 17) 0 0 9 (.ref (h 5)) C hin rfl rfl (by decide) (by decide +kernel) rfl dX0_lookOf_1 ?_
  refine g_iload_n 1 C rfl dX0_lookOf_4 rfl ?_
  refine g_ialdN (cA := cI) (n := 8) (a := h 5) (f := σ.2 4) q 5 0 C rfl rfl (by omega) (by decide) dX0_lookOf_5 ?_
  obtain ⟨j, hj, ej⟩ := hLC q
  refine g_is (nI (j)) ej ?_
  refine g_istore_n [(3, .int (nI (j))), (0, .ref (h 0)), (1, .int (nI (q))), (2, .int (nI (ch)))] C dX0_lookOf_6 rfl (by decide) rfl ?_
  refine g_iload_n 0 C rfl dX0_lookOf_7 rfl ?_
  refine g_if_ne 15 C dX0_lookOf_8 (by decide) (fun c_8_1 => ?_) (fun c_8_1 => ?_)
  ·
    have d_8_1 : ¬ j = 0 := fun q => c_8_1 ((nI_eq (a := j) (b := 0) (by omega) (by omega)).mpr q)
    refine g_aload_n 1 C rfl dX0_lookOf_15 rfl ?_
    refine g_iload_n 2 C rfl dX0_lookOf_16 rfl ?_
    refine g_iload_n 0 C rfl dX0_lookOf_17 rfl ?_
    refine g_iconst 1 C dX0_lookOf_18 (by decide) ?_
    refine g_isubN j 1 C (by omega) dX0_lookOf_19 ?_
    refine g_callS0 (na := 2) (av := [.int (nI (q)), .int (nI (j - 1))]) (c_layerRow l D cI cJ _ q (j - 1)) C gX0_lookOf_X0_layerRow rfl (by decide +kernel) rfl ⟨Nat.le_of_ble_eq_true rfl, Nat.le_of_ble_eq_true rfl⟩ rfl (Nat.le_of_ble_eq_true rfl) ⟨Nat.zero_le _, Nat.zero_le _⟩ rfl dX0_lookOf_20 ?_
    refine g_iload_n 3 C rfl dX0_lookOf_23 rfl ?_
    refine g_callV0 (C0 := RX0) (T := TX0) (N := 17) (ci := 0) (na := 2) (As := [.int (nI (10 + q * 12 + (j - 1))), .int (nI (ch))]) (c_colourOfRow l D cI cJ h σ np nt no ni hI0 (10 + q * 12 + (j - 1)) ch (by omega) (by omega)) C gX0_lookOf_X0_colourOfRow rfl (by decide +kernel) rfl ⟨Nat.le_of_ble_eq_true rfl, Nat.le_of_ble_eq_true rfl⟩ rfl rfl rfl (Nat.le_of_ble_eq_true rfl) ⟨Nat.zero_le _, Nat.zero_le _⟩ rfl dX0_lookOf_24 ?_
    exact g_iret C hr rfl dX0_lookOf_27 (Nat.zero_le _) (Nat.zero_le _) rfl (congrArg (fun x => some (Value.int x)) (by rw [lko, if_neg (by rw [ej]; exact nI_ne0 (by omega) (by omega)), topR, ej, cl_nI (by omega)])) rfl
  ·
    have d_8_1 : j = 0 := (nI_eq (a := j) (b := 0) (by omega) (by omega)).mp c_8_1
    refine g_iconst (-1) C dX0_lookOf_11 (by decide) ?_
    refine g_goto 27 C dX0_lookOf_12 (by decide) ?_
    exact g_iret C hr rfl dX0_lookOf_27 (Nat.zero_le _) (Nat.zero_le _) rfl (congrArg (fun x => some (Value.int x)) (by rw [lko, if_pos (by rw [ej, d_8_1]; rfl)])) rfl
set_option maxRecDepth 100000 in
set_option maxHeartbeats 4000000 in
theorem c_averagePriceOfAlike (l : Launch) (D : va_G) (cI cJ : ClassId) (h : Nat → Nat) (σ : gS) (np nt no ni : Nat) (hI : iA σ np nt no ni) (q : Nat) (hq : q < 8) : MC l yX0_averagePriceOfAlike wsX0_averagePriceOfAlike 4 92 D (tyIJ cI cJ) [.ref (h 0), .int (nI (q))] (wA cI h σ) (wA cI h σ) none (some (.int (avgA σ np nt ni q))) 0 := by
  have hI0 := hI
  obtain ⟨⟨hnp, hnp6⟩, ⟨hnt, hnt12⟩, ⟨hno, hno10⟩, ⟨hni, hni8⟩, hPT, hLC, hLH⟩ := hI
  refine MC.ofG (cc := cX0_averagePriceOfAlike) (maxL := 6) (ret := (some .int)) [(0, .ref (h 0)), (1, .int (nI (q)))] (by decide) rfl (Nat.le_of_ble_eq_true rfl) rfl ?_
  intro p e s m args below meth c C hr hout
  have hin : ∀ w ∈ wsX00, w ∈ wsX0_averagePriceOfAlike := fun w h => by first | exact List.mem_cons_of_mem _ (List.mem_append_right _ h) | exact List.mem_cons_of_mem _ (List.mem_append_left _ (List.mem_append_right _ h)) | exact List.mem_cons_of_mem _ (List.mem_append_left _ (List.mem_append_left _ (List.mem_append_right _ h))) | exact List.mem_cons_of_mem _ (List.mem_append_left _ (List.mem_append_left _ (List.mem_append_left _ (List.mem_append_right _ h)))) | exact List.mem_cons_of_mem _ (List.mem_append_left _ (List.mem_append_left _ (List.mem_append_left _ (List.mem_append_left _ (List.mem_append_right _ h)))))
  refine g_aload_n 0 C rfl dX0_averagePriceOfAlike_0 rfl ?_
  refine g_iload_n 1 C rfl dX0_averagePriceOfAlike_1 rfl ?_
  refine g_callV0 (C0 := RX0) (T := TX0) (N := 17) (ci := 0) (na := 1) (As := [.int (nI (q))]) (c_mainPigmentOf l D cI cJ h σ np nt no ni hI0 q (by omega)) C gX0_averagePriceOfAlike_X0_mainPigmentOf rfl (by decide +kernel) rfl ⟨Nat.le_of_ble_eq_true rfl, Nat.le_of_ble_eq_true rfl⟩ rfl rfl rfl (Nat.le_of_ble_eq_true rfl) ⟨Nat.zero_le _, Nat.zero_le _⟩ rfl dX0_averagePriceOfAlike_2 ?_
  refine g_istore_n [(2, .int (mpo σ np nt q)), (0, .ref (h 0)), (1, .int (nI (q)))] C dX0_averagePriceOfAlike_5 rfl (by decide) rfl ?_
  refine g_iload_n 0 C rfl dX0_averagePriceOfAlike_6 rfl ?_
  refine g_iconst (-1) C dX0_averagePriceOfAlike_7 (by decide) ?_
  refine g_icmp_ne 13 C dX0_averagePriceOfAlike_8 (by decide) (fun c_8_1 => ?_) (fun c_8_1 => ?_)
  ·
    have hm1 := c_8_1
    refine g_iconst 0 C dX0_averagePriceOfAlike_13 (by decide) ?_
    refine g_istore_n [(3, .int (0)), (2, .int (mpo σ np nt q)), (0, .ref (h 0)), (1, .int (nI (q)))] C dX0_averagePriceOfAlike_14 rfl (by decide) rfl ?_
    refine g_iconst 0 C dX0_averagePriceOfAlike_15 (by decide) ?_
    refine g_istore [(4, .int (0)), (3, .int (0)), (2, .int (mpo σ np nt q)), (0, .ref (h 0)), (1, .int (nI (q)))] C dX0_averagePriceOfAlike_16 (by decide) rfl ?_
    refine g_iconst 0 C dX0_averagePriceOfAlike_18 (by decide) ?_
    refine g_istore [(5, .int (0)), (4, .int (0)), (3, .int (0)), (2, .int (mpo σ np nt q)), (0, .ref (h 0)), (1, .int (nI (q)))] C dX0_averagePriceOfAlike_19 (by decide) rfl ?_
    have loop_21 : ∀ (fu : Nat) (i : Nat), i ≤ ni → ni + 1 ≤ i + fu → G p l e ({ frames := 4, cells := 0, slots := 6 * 0, locals := 92 } : Room) s m args below meth c D (va_A (wA cI h σ) s.heap.size) 6 0 0 (gQ below D (wA cI h σ) (wA cI h σ) none (some (.int (avgA σ np nt ni q))) 0 args s) (wA cI h σ) [(0, .ref (h 0)), (1, .int (nI (q))), (2, .int (mpo σ np nt q)), (3, .int ((alk σ np nt (mpo σ np nt q) i).1)), (4, .int ((alk σ np nt (mpo σ np nt q) i).2)), (5, .int (nI (i)))] 21 [] := by
      intro fu
      induction fu with
      | zero => intro i hi hf; exact absurd True.intro (by omega)
      | succ fu ih_21 =>
        intro i hi hf
        refine g_iload 5 C rfl dX0_averagePriceOfAlike_21 ?_
        refine g_aload_n 0 C rfl dX0_averagePriceOfAlike_23 rfl ?_
        refine g_get (C0 := RX0) (T := TX0) (N := 17) 0 0 3 (.int (σ.1 3)) C hin rfl rfl (by decide) (by decide +kernel) rfl dX0_averagePriceOfAlike_24 ?_
        refine g_is (nI ni) hni ?_
        refine g_icmp_ge 69 C dX0_averagePriceOfAlike_27 (by decide) (fun c_27_2 => ?_) (fun c_27_2 => ?_)
        ·
          have d_27_2 : ni ≤ i := (nI_leI (a := ni) (b := i) (by omega) (by omega)).mp c_27_2
          refine g_iload 4 C rfl dX0_averagePriceOfAlike_69 ?_
          refine g_if_ne 78 C dX0_averagePriceOfAlike_71 (by decide) (fun c_71_3 => ?_) (fun c_71_3 => ?_)
          ·
            have cz := c_71_3
            refine g_iload_n 3 C rfl dX0_averagePriceOfAlike_78 rfl ?_
            refine g_iload 4 C rfl dX0_averagePriceOfAlike_79 ?_
            refine g_idiv C cz dX0_averagePriceOfAlike_81 ?_
            exact g_iret C hr rfl dX0_averagePriceOfAlike_82 (Nat.zero_le _) (Nat.zero_le _) rfl (congrArg (fun x => some (Value.int x)) (by have e : ni = i := (by omega); subst e; rw [avgA, if_neg hm1, if_neg cz])) rfl
          ·
            have cz := c_71_3
            refine g_iconst 0 C dX0_averagePriceOfAlike_74 (by decide) ?_
            refine g_goto 82 C dX0_averagePriceOfAlike_75 (by decide) ?_
            exact g_iret C hr rfl dX0_averagePriceOfAlike_82 (Nat.zero_le _) (Nat.zero_le _) rfl (congrArg (fun x => some (Value.int x)) (by have e : ni = i := (by omega); subst e; rw [avgA, if_neg hm1, if_pos cz])) rfl
        ·
          have d_27_2 : ¬ ni ≤ i := fun q => c_27_2 ((nI_leI (a := ni) (b := i) (by omega) (by omega)).mpr q)
          refine g_aload_n 0 C rfl dX0_averagePriceOfAlike_30 rfl ?_
          refine g_get (C0 := RX0) (T := TX0) (N := 17) 0 0 11 (.ref (h 7)) C hin rfl rfl (by decide) (by decide +kernel) rfl dX0_averagePriceOfAlike_31 ?_
          refine g_iload 5 C rfl dX0_averagePriceOfAlike_34 ?_
          refine g_ialdN (cA := cI) (n := 8) (a := h 7) (f := σ.2 6) i 7 0 C rfl rfl (by omega) (by decide) dX0_averagePriceOfAlike_36 ?_
          refine g_if_le 63 C dX0_averagePriceOfAlike_37 (by decide) (fun c_37_4 => ?_) (fun c_37_4 => ?_)
          ·
            have ek : alk σ np nt (mpo σ np nt q) (i + 1) = alk σ np nt (mpo σ np nt q) i := if_neg (fun q => q.1 c_37_4)
            refine g_iincN 5 i 1 [(5, .int (nI (i + 1))), (0, .ref (h 0)), (1, .int (nI (q))), (2, .int (mpo σ np nt q)), (3, .int ((alk σ np nt (mpo σ np nt q) i).1)), (4, .int ((alk σ np nt (mpo σ np nt q) i).2))] C dX0_averagePriceOfAlike_63 rfl (by decide) (by decide) rfl ?_
            refine g_goto 21 C dX0_averagePriceOfAlike_66 (by decide) ?_
            refine g_lv [1, 2, 3, 4, 5, 0] [(0, .ref (h 0)), (1, .int (nI (q))), (2, .int (mpo σ np nt q)), (3, .int ((alk σ np nt (mpo σ np nt q) i).1)), (4, .int ((alk σ np nt (mpo σ np nt q) i).2)), (5, .int (nI (i + 1)))] rfl ?_
            have hx := ih_21 (i + 1) (by omega) (by omega)
            rw [ek] at hx
            exact hx
          ·
            have cp := c_37_4
            refine g_aload_n 0 C rfl dX0_averagePriceOfAlike_40 rfl ?_
            refine g_iload 5 C rfl dX0_averagePriceOfAlike_41 ?_
            refine g_callV0 (C0 := RX0) (T := TX0) (N := 17) (ci := 0) (na := 1) (As := [.int (nI (i))]) (c_mainPigmentOf l D cI cJ h σ np nt no ni hI0 i (by omega)) C gX0_averagePriceOfAlike_X0_mainPigmentOf rfl (by decide +kernel) rfl ⟨Nat.le_of_ble_eq_true rfl, Nat.le_of_ble_eq_true rfl⟩ rfl rfl rfl (Nat.le_of_ble_eq_true rfl) ⟨Nat.zero_le _, Nat.zero_le _⟩ rfl dX0_averagePriceOfAlike_43 ?_
            refine g_iload_n 2 C rfl dX0_averagePriceOfAlike_46 rfl ?_
            refine g_icmp_ne 63 C dX0_averagePriceOfAlike_47 (by decide) (fun c_47_5 => ?_) (fun c_47_5 => ?_)
            ·
              have ek : alk σ np nt (mpo σ np nt q) (i + 1) = alk σ np nt (mpo σ np nt q) i := if_neg (fun q => c_47_5 q.2)
              refine g_iincN 5 i 1 [(5, .int (nI (i + 1))), (0, .ref (h 0)), (1, .int (nI (q))), (2, .int (mpo σ np nt q)), (3, .int ((alk σ np nt (mpo σ np nt q) i).1)), (4, .int ((alk σ np nt (mpo σ np nt q) i).2))] C dX0_averagePriceOfAlike_63 rfl (by decide) (by decide) rfl ?_
              refine g_goto 21 C dX0_averagePriceOfAlike_66 (by decide) ?_
              refine g_lv [1, 2, 3, 4, 5, 0] [(0, .ref (h 0)), (1, .int (nI (q))), (2, .int (mpo σ np nt q)), (3, .int ((alk σ np nt (mpo σ np nt q) i).1)), (4, .int ((alk σ np nt (mpo σ np nt q) i).2)), (5, .int (nI (i + 1)))] rfl ?_
              have hx := ih_21 (i + 1) (by omega) (by omega)
              rw [ek] at hx
              exact hx
            ·
              have ek : alk σ np nt (mpo σ np nt q) (i + 1) = ((alk σ np nt (mpo σ np nt q) i).1 + σ.2 6 i, (alk σ np nt (mpo σ np nt q) i).2 + 1) := if_pos ⟨cp, c_47_5⟩
              refine g_iload_n 3 C rfl dX0_averagePriceOfAlike_50 rfl ?_
              refine g_aload_n 0 C rfl dX0_averagePriceOfAlike_51 rfl ?_
              refine g_get (C0 := RX0) (T := TX0) (N := 17) 0 0 11 (.ref (h 7)) C hin rfl rfl (by decide) (by decide +kernel) rfl dX0_averagePriceOfAlike_52 ?_
              refine g_iload 5 C rfl dX0_averagePriceOfAlike_55 ?_
              refine g_ialdN (cA := cI) (n := 8) (a := h 7) (f := σ.2 6) i 7 0 C rfl rfl (by omega) (by decide) dX0_averagePriceOfAlike_57 ?_
              refine g_iadd C dX0_averagePriceOfAlike_58 ?_
              refine g_istore_n [(3, .int (((alk σ np nt (mpo σ np nt q) i).1) + (σ.2 6 i))), (0, .ref (h 0)), (1, .int (nI (q))), (2, .int (mpo σ np nt q)), (4, .int ((alk σ np nt (mpo σ np nt q) i).2)), (5, .int (nI (i)))] C dX0_averagePriceOfAlike_59 rfl (by decide) rfl ?_
              refine g_iinc 4 (((alk σ np nt (mpo σ np nt q) i).2) + 1) [(4, .int (((alk σ np nt (mpo σ np nt q) i).2) + 1)), (3, .int (((alk σ np nt (mpo σ np nt q) i).1) + (σ.2 6 i))), (0, .ref (h 0)), (1, .int (nI (q))), (2, .int (mpo σ np nt q)), (5, .int (nI (i)))] C dX0_averagePriceOfAlike_60 rfl rfl (by decide) rfl ?_
              refine g_iincN 5 i 1 [(5, .int (nI (i + 1))), (4, .int (((alk σ np nt (mpo σ np nt q) i).2) + 1)), (3, .int (((alk σ np nt (mpo σ np nt q) i).1) + (σ.2 6 i))), (0, .ref (h 0)), (1, .int (nI (q))), (2, .int (mpo σ np nt q))] C dX0_averagePriceOfAlike_63 rfl (by decide) (by decide) rfl ?_
              refine g_goto 21 C dX0_averagePriceOfAlike_66 (by decide) ?_
              refine g_lv [3, 4, 5, 2, 1, 0] [(0, .ref (h 0)), (1, .int (nI (q))), (2, .int (mpo σ np nt q)), (3, .int (((alk σ np nt (mpo σ np nt q) i).1) + (σ.2 6 i))), (4, .int (((alk σ np nt (mpo σ np nt q) i).2) + 1)), (5, .int (nI (i + 1)))] rfl ?_
              have hx := ih_21 (i + 1) (by omega) (by omega)
              rw [ek] at hx
              exact hx
    refine g_lv [4, 5, 3, 2, 1, 0] [(0, .ref (h 0)), (1, .int (nI (q))), (2, .int (mpo σ np nt q)), (3, .int (0)), (4, .int (0)), (5, .int (0))] rfl ?_
    exact loop_21 (ni + 1) 0 (by omega) (by omega)
  ·
    refine g_iconst 0 C dX0_averagePriceOfAlike_11 (by decide) ?_
    exact g_iret C hr rfl dX0_averagePriceOfAlike_12 (Nat.zero_le _) (Nat.zero_le _) rfl (congrArg (fun x => some (Value.int x)) (by rw [avgA, if_pos (by assumption)])) rfl
set_option maxRecDepth 100000 in
set_option maxHeartbeats 4000000 in
theorem c_valueOf (l : Launch) (D : va_G) (cI cJ : ClassId) (h : Nat → Nat) (σ : gS) (np nt no ni : Nat) (hI : iA σ np nt no ni) (q : Nat) (hq : q < 8) : MC l yX0_valueOf wsX0_valueOf 5 117 D (tyIJ cI cJ) [.ref (h 0), .int (nI (q))] (wA cI h σ) (wA cI h σ) none (some (.int (valA σ np nt ni q))) 0 := by
  have hI0 := hI
  obtain ⟨⟨hnp, hnp6⟩, ⟨hnt, hnt12⟩, ⟨hno, hno10⟩, ⟨hni, hni8⟩, hPT, hLC, hLH⟩ := hI
  refine MC.ofG (cc := cX0_valueOf) (maxL := 3) (ret := (some .int)) [(0, .ref (h 0)), (1, .int (nI (q)))] (by decide) rfl (Nat.le_of_ble_eq_true rfl) rfl ?_
  intro p e s m args below meth c C hr hout
  have hin : ∀ w ∈ wsX00, w ∈ wsX0_valueOf := fun w h => by first | exact List.mem_cons_of_mem _ (List.mem_append_right _ h) | exact List.mem_cons_of_mem _ (List.mem_append_left _ (List.mem_append_right _ h)) | exact List.mem_cons_of_mem _ (List.mem_append_left _ (List.mem_append_left _ (List.mem_append_right _ h))) | exact List.mem_cons_of_mem _ (List.mem_append_left _ (List.mem_append_left _ (List.mem_append_left _ (List.mem_append_right _ h)))) | exact List.mem_cons_of_mem _ (List.mem_append_left _ (List.mem_append_left _ (List.mem_append_left _ (List.mem_append_left _ (List.mem_append_right _ h)))))
  refine g_aload_n 0 C rfl dX0_valueOf_0 rfl ?_
  refine g_iload_n 1 C rfl dX0_valueOf_1 rfl ?_
  refine g_callV0 (C0 := RX0) (T := TX0) (N := 17) (ci := 0) (na := 1) (As := [.int (nI (q))]) (c_averagePriceOfAlike l D cI cJ h σ np nt no ni hI0 q (by omega)) C gX0_valueOf_X0_averagePriceOfAlike rfl (by decide +kernel) rfl ⟨Nat.le_of_ble_eq_true rfl, Nat.le_of_ble_eq_true rfl⟩ rfl rfl rfl (Nat.le_of_ble_eq_true rfl) ⟨Nat.zero_le _, Nat.zero_le _⟩ rfl dX0_valueOf_2 ?_
  refine g_istore_n [(2, .int (avgA σ np nt ni q)), (0, .ref (h 0)), (1, .int (nI (q)))] C dX0_valueOf_5 rfl (by decide) rfl ?_
  refine g_iconst 0 C dX0_valueOf_6 (by decide) ?_
  refine g_iload_n 0 C rfl dX0_valueOf_7 rfl ?_
  refine g_aload_n 1 C rfl dX0_valueOf_8 rfl ?_
  refine g_get (C0 := RX0) (T := TX0) (N := 17) 0 0 10 (.ref (h 6)) C hin rfl rfl (by decide) (by decide +kernel) rfl dX0_valueOf_9 ?_
  refine g_iload_n 2 C rfl dX0_valueOf_12 rfl ?_
  refine g_ialdN (cA := cI) (n := 8) (a := h 6) (f := σ.2 5) q 6 0 C rfl rfl (by omega) (by decide) dX0_valueOf_13 ?_
  refine g_iload_n 0 C rfl dX0_valueOf_14 rfl ?_
  refine g_bipush 20 C dX0_valueOf_15 (by decide) ?_
  refine g_idiv C (by decide) dX0_valueOf_17 ?_
  refine g_imul C dX0_valueOf_18 ?_
  refine g_isub C dX0_valueOf_19 ?_
  refine g_max C (by decide +kernel) (by decide +kernel) (by decide +kernel) (by decide +kernel) (Nat.le_of_ble_eq_true rfl) (Nat.le_of_ble_eq_true rfl) (Nat.zero_le _) (Nat.zero_le _) dX0_valueOf_20 ?_
  exact g_iret C hr rfl dX0_valueOf_23 (Nat.zero_le _) (Nat.zero_le _) rfl rfl rfl
set_option maxRecDepth 100000 in
set_option maxHeartbeats 4000000 in
theorem c_passForLoan (l : Launch) (D : va_G) (cI cJ : ClassId) (h : Nat → Nat) (σ : gS) (np nt no ni : Nat) (hI : iA σ np nt no ni) (q : Nat) (d : Int32) (hq : q < 8) : MC l yX0_passForLoan wsX0_passForLoan 2 60 D (tyIJ cI cJ) [.ref (h 0), .int (nI (q)), .int (d)] (wA cI h σ) (wA cI h (pfl σ d q)) none none 0 := by
  have hI0 := hI
  obtain ⟨⟨hnp, hnp6⟩, ⟨hnt, hnt12⟩, ⟨hno, hno10⟩, ⟨hni, hni8⟩, hPT, hLC, hLH⟩ := hI
  refine MC.ofG (cc := cX0_passForLoan) (maxL := 5) (ret := none) [(0, .ref (h 0)), (1, .int (nI (q))), (2, .int (d))] (by decide) rfl (Nat.le_of_ble_eq_true rfl) rfl ?_
  intro p e s m args below meth c C hr hout
  have hin : ∀ w ∈ wsX00, w ∈ wsX0_passForLoan := fun w h => by first | exact List.mem_cons_of_mem _ (List.mem_append_right _ h) | exact List.mem_cons_of_mem _ (List.mem_append_left _ (List.mem_append_right _ h)) | exact List.mem_cons_of_mem _ (List.mem_append_left _ (List.mem_append_left _ (List.mem_append_right _ h))) | exact List.mem_cons_of_mem _ (List.mem_append_left _ (List.mem_append_left _ (List.mem_append_left _ (List.mem_append_right _ h)))) | exact List.mem_cons_of_mem _ (List.mem_append_left _ (List.mem_append_left _ (List.mem_append_left _ (List.mem_append_left _ (List.mem_append_right _ h)))))
  refine g_iload_n 2 C rfl dX0_passForLoan_0 rfl ?_
  refine g_aload_n 0 C rfl dX0_passForLoan_1 rfl ?_
  refine g_get (C0 := RX0) (T := TX0) (N := 17) 0 0 12 (.ref (h 8)) C hin rfl rfl (by decide) (by decide +kernel) rfl dX0_passForLoan_2 ?_
  refine g_iload_n 1 C rfl dX0_passForLoan_5 rfl ?_
  refine g_ialdN (cA := cI) (n := 8) (a := h 8) (f := σ.2 7) q 8 0 C rfl rfl (by omega) (by decide) dX0_passForLoan_6 ?_
  refine g_min C (by decide +kernel) (by decide +kernel) (by decide +kernel) (by decide +kernel) (Nat.le_of_ble_eq_true rfl) (Nat.le_of_ble_eq_true rfl) (Nat.zero_le _) (Nat.zero_le _) dX0_passForLoan_7 ?_
  refine g_is ((lentD σ d q)) rfl ?_
  refine g_istore_n [(3, .int (lentD σ d q)), (0, .ref (h 0)), (1, .int (nI (q))), (2, .int (d))] C dX0_passForLoan_10 rfl (by decide) rfl ?_
  refine g_aload_n 1 C rfl dX0_passForLoan_11 rfl ?_
  refine g_get (C0 := RX0) (T := TX0) (N := 17) 0 0 13 (.ref (h 9)) C hin rfl rfl (by decide) (by decide +kernel) rfl dX0_passForLoan_12 ?_
  refine g_iload_n 2 C rfl dX0_passForLoan_15 rfl ?_
  refine g_ialdN (cA := cI) (n := 8) (a := h 9) (f := σ.2 8) q 9 0 C rfl rfl (by omega) (by decide) dX0_passForLoan_16 ?_
  obtain ⟨j, hj, ej⟩ := hLH q
  refine g_is (nI (j)) ej ?_
  refine g_istore [(4, .int (nI (j))), (3, .int (lentD σ d q)), (0, .ref (h 0)), (1, .int (nI (q))), (2, .int (d))] C dX0_passForLoan_17 (by decide) rfl ?_
  refine g_aload_n 2 C rfl dX0_passForLoan_19 rfl ?_
  refine g_get (C0 := RX0) (T := TX0) (N := 17) 0 0 15 (.ref (h 11)) C hin rfl rfl (by decide) (by decide +kernel) rfl dX0_passForLoan_20 ?_
  refine g_iload 0 C rfl dX0_passForLoan_23 ?_
  refine g_ialdN (cA := cI) (n := 4) (a := h 11) (f := σ.2 10) j 11 0 C rfl rfl (by omega) (by decide) dX0_passForLoan_25 ?_
  refine g_bipush 50 C dX0_passForLoan_26 (by decide) ?_
  refine g_isub C dX0_passForLoan_28 ?_
  refine g_abs C (by decide +kernel) (by decide +kernel) (by decide +kernel) (by decide +kernel) (Nat.le_of_ble_eq_true rfl) (Nat.le_of_ble_eq_true rfl) (Nat.zero_le _) (Nat.zero_le _) dX0_passForLoan_29 ?_
  refine g_bipush 10 C dX0_passForLoan_32 (by decide) ?_
  refine g_icmp_le 47 C dX0_passForLoan_34 (by decide) (fun c_34_1 => ?_) (fun c_34_1 => ?_)
  ·
    refine g_aload_n 2 C rfl dX0_passForLoan_47 rfl ?_
    refine g_get (C0 := RX0) (T := TX0) (N := 17) 0 0 16 (.ref (h 12)) C hin rfl rfl (by decide) (by decide +kernel) rfl dX0_passForLoan_48 ?_
    refine g_iload 0 C rfl dX0_passForLoan_51 ?_
    refine g_dup2 C dX0_passForLoan_53 rfl rfl ?_
    refine g_ialdN (cA := cI) (n := 4) (a := h 12) (f := σ.2 11) j 12 0 C rfl rfl (by omega) (by decide) dX0_passForLoan_54 ?_
    refine g_iload_n 1 C rfl dX0_passForLoan_55 rfl ?_
    refine g_aload_n 2 C rfl dX0_passForLoan_56 rfl ?_
    refine g_get (C0 := RX0) (T := TX0) (N := 17) 0 0 14 (.ref (h 10)) C hin rfl rfl (by decide) (by decide +kernel) rfl dX0_passForLoan_57 ?_
    refine g_iload_n 3 C rfl dX0_passForLoan_60 rfl ?_
    refine g_ialdN (cA := cI) (n := 8) (a := h 10) (f := σ.2 9) q 10 0 C rfl rfl (by omega) (by decide) dX0_passForLoan_61 ?_
    refine g_imul C dX0_passForLoan_62 ?_
    refine g_iadd C dX0_passForLoan_63 ?_
    refine g_iastN (cA := cI) (n := 4) (a := h 12) (f := σ.2 11) (x := ((σ.2 11 j) + ((lentD σ d q) * (σ.2 9 q)))) j 12 0 (wA cI h (sA σ 11 (upd (σ.2 11) j (((σ.2 11 j) + ((lentD σ d q) * (σ.2 9 q))))))) C rfl rfl (by omega) (by decide) rfl dX0_passForLoan_64 ?_
    refine g_aload_n 2 C rfl dX0_passForLoan_65 rfl ?_
    refine g_get (C0 := RX0) (T := TX0) (N := 17) 0 0 12 (.ref (h 8)) C hin rfl rfl (by decide) (by decide +kernel) rfl dX0_passForLoan_66 ?_
    refine g_iload_n 3 C rfl dX0_passForLoan_69 rfl ?_
    refine g_dup2 C dX0_passForLoan_70 rfl rfl ?_
    refine g_ialdN (cA := cI) (n := 8) (a := h 8) (f := σ.2 7) q 8 0 C rfl rfl (by omega) (by decide) dX0_passForLoan_71 ?_
    refine g_iload_n 1 C rfl dX0_passForLoan_72 rfl ?_
    refine g_isub C dX0_passForLoan_73 ?_
    refine g_iastN (cA := cI) (n := 8) (a := h 8) (f := σ.2 7) (x := ((σ.2 7 q) - (lentD σ d q))) q 8 0 (wA cI h (sA (sA σ 11 (upd (σ.2 11) j (((σ.2 11 j) + ((lentD σ d q) * (σ.2 9 q)))))) 7 (upd (σ.2 7) q (((σ.2 7 q) - (lentD σ d q)))))) C rfl rfl (by omega) (by decide) rfl dX0_passForLoan_74 ?_
    exact g_vret C hr dX0_passForLoan_75 (Nat.zero_le _) (Nat.zero_le _) rfl rfl (by rw [pfl, ej, cl_nI (by omega), if_pos c_34_1])
  ·
    refine g_aload_n 2 C rfl dX0_passForLoan_37 rfl ?_
    refine g_get (C0 := RX0) (T := TX0) (N := 17) 0 0 10 (.ref (h 6)) C hin rfl rfl (by decide) (by decide +kernel) rfl dX0_passForLoan_38 ?_
    refine g_iload_n 3 C rfl dX0_passForLoan_41 rfl ?_
    refine g_dup2 C dX0_passForLoan_42 rfl rfl ?_
    refine g_ialdN (cA := cI) (n := 8) (a := h 6) (f := σ.2 5) q 6 0 C rfl rfl (by omega) (by decide) dX0_passForLoan_43 ?_
    refine g_iload_n 1 C rfl dX0_passForLoan_44 rfl ?_
    refine g_iadd C dX0_passForLoan_45 ?_
    refine g_iastN (cA := cI) (n := 8) (a := h 6) (f := σ.2 5) (x := ((σ.2 5 q) + (lentD σ d q))) q 6 0 (wA cI h (sA σ 5 (upd (σ.2 5) q (((σ.2 5 q) + (lentD σ d q)))))) C rfl rfl (by omega) (by decide) rfl dX0_passForLoan_46 ?_
    refine g_aload_n 2 C rfl dX0_passForLoan_47 rfl ?_
    refine g_get (C0 := RX0) (T := TX0) (N := 17) 0 0 16 (.ref (h 12)) C hin rfl rfl (by decide) (by decide +kernel) rfl dX0_passForLoan_48 ?_
    refine g_iload 0 C rfl dX0_passForLoan_51 ?_
    refine g_dup2 C dX0_passForLoan_53 rfl rfl ?_
    refine g_ialdN (cA := cI) (n := 4) (a := h 12) (f := σ.2 11) j 12 0 C rfl rfl (by omega) (by decide) dX0_passForLoan_54 ?_
    refine g_iload_n 1 C rfl dX0_passForLoan_55 rfl ?_
    refine g_aload_n 2 C rfl dX0_passForLoan_56 rfl ?_
    refine g_get (C0 := RX0) (T := TX0) (N := 17) 0 0 14 (.ref (h 10)) C hin rfl rfl (by decide) (by decide +kernel) rfl dX0_passForLoan_57 ?_
    refine g_iload_n 3 C rfl dX0_passForLoan_60 rfl ?_
    refine g_ialdN (cA := cI) (n := 8) (a := h 10) (f := σ.2 9) q 10 0 C rfl rfl (by omega) (by decide) dX0_passForLoan_61 ?_
    refine g_imul C dX0_passForLoan_62 ?_
    refine g_iadd C dX0_passForLoan_63 ?_
    refine g_iastN (cA := cI) (n := 4) (a := h 12) (f := σ.2 11) (x := ((σ.2 11 j) + ((lentD σ d q) * (σ.2 9 q)))) j 12 0 (wA cI h (sA (sA σ 5 (upd (σ.2 5) q (((σ.2 5 q) + (lentD σ d q))))) 11 (upd (σ.2 11) j (((σ.2 11 j) + ((lentD σ d q) * (σ.2 9 q))))))) C rfl rfl (by omega) (by decide) rfl dX0_passForLoan_64 ?_
    refine g_aload_n 2 C rfl dX0_passForLoan_65 rfl ?_
    refine g_get (C0 := RX0) (T := TX0) (N := 17) 0 0 12 (.ref (h 8)) C hin rfl rfl (by decide) (by decide +kernel) rfl dX0_passForLoan_66 ?_
    refine g_iload_n 3 C rfl dX0_passForLoan_69 rfl ?_
    refine g_dup2 C dX0_passForLoan_70 rfl rfl ?_
    refine g_ialdN (cA := cI) (n := 8) (a := h 8) (f := σ.2 7) q 8 0 C rfl rfl (by omega) (by decide) dX0_passForLoan_71 ?_
    refine g_iload_n 1 C rfl dX0_passForLoan_72 rfl ?_
    refine g_isub C dX0_passForLoan_73 ?_
    refine g_iastN (cA := cI) (n := 8) (a := h 8) (f := σ.2 7) (x := ((σ.2 7 q) - (lentD σ d q))) q 8 0 (wA cI h (sA (sA (sA σ 5 (upd (σ.2 5) q (((σ.2 5 q) + (lentD σ d q))))) 11 (upd (σ.2 11) j (((σ.2 11 j) + ((lentD σ d q) * (σ.2 9 q)))))) 7 (upd (σ.2 7) q (((σ.2 7 q) - (lentD σ d q)))))) C rfl rfl (by omega) (by decide) rfl dX0_passForLoan_74 ?_
    exact g_vret C hr dX0_passForLoan_75 (Nat.zero_le _) (Nat.zero_le _) rfl rfl (by rw [pfl, ej, cl_nI (by omega), if_neg c_34_1])
end
section
/-! The book, its calls (1). -/
set_option maxRecDepth 100000 in
set_option maxHeartbeats 4000000 in
theorem c_checkColour (l : Launch) (D : va_G) (cI cJ : ClassId) (hst : l.stackTraces = false) (w : va_W) (r g b : Int32) (K : Nat) (hK : K = if out r 0 255 ∨ out g 0 255 ∨ out b 0 255 then 2 else 0) : MC l yX0_checkColour wsX0_checkColour 7 112 D (tyIJ cI cJ) [.int (r), .int (g), .int (b)] w w (exT K) none (nT K) := by
  refine MC.ofG (cc := cX0_checkColour) (maxL := 3) (ret := none) [(0, .int (r)), (1, .int (g)), (2, .int (b))] (by decide) rfl (Nat.le_of_ble_eq_true rfl) rfl ?_
  intro p e s m args below meth c C hr hout
  refine g_iload_n 0 C rfl dX0_checkColour_0 rfl ?_
  refine g_iconst 0 C dX0_checkColour_1 (by decide) ?_
  refine g_sipush 255 C dX0_checkColour_2 (by decide) ?_
  by_cases c_5_1 : out (r) (0) (255)
  ·
    obtain rfl : K = 2 := hK.trans (by simp only [c_5_1, if_true, if_false, or_true, true_or, or_false, false_or, or_self])
    exact g_callSX (na := 3) (av := [.int (r), .int (0), .int (255)]) (c_checkRange l D cI cJ hst _ (r) (0) (255) 2 (if_pos c_5_1).symm) C gX0_checkColour_X0_checkRange rfl (by decide +kernel) rfl ⟨by decide, by decide⟩ rfl (Nat.le_of_ble_eq_true rfl) ⟨by decide, by decide⟩ hout (by decide) (by decide) rfl dX0_checkColour_5
  refine g_callS0 (na := 3) (av := [.int (r), .int (0), .int (255)]) (c_checkRange l D cI cJ hst _ (r) (0) (255) 0 (if_neg c_5_1).symm) C gX0_checkColour_X0_checkRange rfl (by decide +kernel) rfl ⟨Nat.le_of_ble_eq_true rfl, Nat.le_of_ble_eq_true rfl⟩ rfl (Nat.le_of_ble_eq_true rfl) ⟨Nat.zero_le _, Nat.zero_le _⟩ rfl dX0_checkColour_5 ?_
  have hr1 := out_lo c_5_1
  refine g_iload_n 1 C rfl dX0_checkColour_8 rfl ?_
  refine g_iconst 0 C dX0_checkColour_9 (by decide) ?_
  refine g_sipush 255 C dX0_checkColour_10 (by decide) ?_
  by_cases c_13_2 : out (g) (0) (255)
  ·
    obtain rfl : K = 2 := hK.trans (by simp only [c_5_1, c_13_2, if_true, if_false, or_true, true_or, or_false, false_or, or_self])
    exact g_callSX (na := 3) (av := [.int (g), .int (0), .int (255)]) (c_checkRange l D cI cJ hst _ (g) (0) (255) 2 (if_pos c_13_2).symm) C gX0_checkColour_X0_checkRange rfl (by decide +kernel) rfl ⟨by decide, by decide⟩ rfl (Nat.le_of_ble_eq_true rfl) ⟨by decide, by decide⟩ hout (by decide) (by decide) rfl dX0_checkColour_13
  refine g_callS0 (na := 3) (av := [.int (g), .int (0), .int (255)]) (c_checkRange l D cI cJ hst _ (g) (0) (255) 0 (if_neg c_13_2).symm) C gX0_checkColour_X0_checkRange rfl (by decide +kernel) rfl ⟨Nat.le_of_ble_eq_true rfl, Nat.le_of_ble_eq_true rfl⟩ rfl (Nat.le_of_ble_eq_true rfl) ⟨Nat.zero_le _, Nat.zero_le _⟩ rfl dX0_checkColour_13 ?_
  have hg1 := out_lo c_13_2
  refine g_iload_n 2 C rfl dX0_checkColour_16 rfl ?_
  refine g_iconst 0 C dX0_checkColour_17 (by decide) ?_
  refine g_sipush 255 C dX0_checkColour_18 (by decide) ?_
  by_cases c_21_3 : out (b) (0) (255)
  ·
    obtain rfl : K = 2 := hK.trans (by simp only [c_5_1, c_13_2, c_21_3, if_true, if_false, or_true, true_or, or_false, false_or, or_self])
    exact g_callSX (na := 3) (av := [.int (b), .int (0), .int (255)]) (c_checkRange l D cI cJ hst _ (b) (0) (255) 2 (if_pos c_21_3).symm) C gX0_checkColour_X0_checkRange rfl (by decide +kernel) rfl ⟨by decide, by decide⟩ rfl (Nat.le_of_ble_eq_true rfl) ⟨by decide, by decide⟩ hout (by decide) (by decide) rfl dX0_checkColour_21
  refine g_callS0 (na := 3) (av := [.int (b), .int (0), .int (255)]) (c_checkRange l D cI cJ hst _ (b) (0) (255) 0 (if_neg c_21_3).symm) C gX0_checkColour_X0_checkRange rfl (by decide +kernel) rfl ⟨Nat.le_of_ble_eq_true rfl, Nat.le_of_ble_eq_true rfl⟩ rfl (Nat.le_of_ble_eq_true rfl) ⟨Nat.zero_le _, Nat.zero_le _⟩ rfl dX0_checkColour_21 ?_
  have hb1 := out_lo c_21_3
  obtain rfl : K = 0 := hK.trans (by simp only [c_5_1, c_13_2, c_21_3, if_true, if_false, or_true, true_or, or_false, false_or, or_self])
  exact g_vret C hr dX0_checkColour_24 (Nat.zero_le _) (Nat.zero_le _) rfl rfl rfl
set_option maxRecDepth 100000 in
set_option maxHeartbeats 4000000 in
theorem c_checkAtHome (l : Launch) (D : va_G) (cI cJ : ClassId) (hst : l.stackTraces = false) (h : Nat → Nat) (σ : gS) (np nt no ni : Nat) (hI : iA σ np nt no ni) (q : Nat) (hq : q < 8) (K : Nat) (hK : K = if ¬ σ.2 7 q ≤ 0 then 3 else 0) : MC l yX0_checkAtHome wsX0_checkAtHome 6 90 D (tyIJ cI cJ) [.ref (h 0), .int (nI (q))] (wA cI h σ) (wA cI h σ) (exT K) none (nT K) := by
  have hI0 := hI
  obtain ⟨⟨hnp, hnp6⟩, ⟨hnt, hnt12⟩, ⟨hno, hno10⟩, ⟨hni, hni8⟩, hPT, hLC, hLH⟩ := hI
  refine MC.ofG (cc := cX0_checkAtHome) (maxL := 2) (ret := none) [(0, .ref (h 0)), (1, .int (nI (q)))] (by decide) rfl (Nat.le_of_ble_eq_true rfl) rfl ?_
  intro p e s m args below meth c C hr hout
  refine g_aload_n 0 C rfl dX0_checkAtHome_0 rfl ?_
  refine g_iload_n 1 C rfl dX0_checkAtHome_1 rfl ?_
  refine g_callV0 (C0 := RX0) (T := TX0) (N := 17) (ci := 0) (na := 1) (As := [.int (nI (q))]) (c_isLent l D cI cJ h σ np nt no ni hI0 q (by omega)) C gX0_checkAtHome_X0_isLent rfl (by decide +kernel) rfl ⟨Nat.le_of_ble_eq_true rfl, Nat.le_of_ble_eq_true rfl⟩ rfl rfl rfl (Nat.le_of_ble_eq_true rfl) ⟨Nat.zero_le _, Nat.zero_le _⟩ rfl dX0_checkAtHome_2 ?_
  refine g_if_eq 18 C dX0_checkAtHome_5 (by decide) (fun c_5_1 => ?_) (fun c_5_1 => ?_)
  ·
    obtain rfl : K = 0 := hK.trans (if_neg (bI_eq c_5_1))
    exact g_vret C hr dX0_checkAtHome_18 (Nat.zero_le _) (Nat.zero_le _) rfl rfl rfl
  ·
    obtain rfl : K = 3 := hK.trans (if_pos (bI_ne c_5_1))
    exact g_throw (cls := eISE) (text := "the picture is lent") C hst rfl (by decide +kernel) (by decide +kernel) (by decide +kernel) (by decide +kernel) (by decide +kernel) (by decide +kernel) (by decide +kernel) hout dX0_checkAtHome_8 dX0_checkAtHome_11 dX0_checkAtHome_12 dX0_checkAtHome_14 dX0_checkAtHome_17 (by decide) (by decide) (by decide) (by decide) (by decide) (by decide) rfl
set_option maxRecDepth 100000 in
set_option maxHeartbeats 4000000 in
theorem c_pigment (l : Launch) (D : va_G) (cI cJ : ClassId) (hst : l.stackTraces = false) (h : Nat → Nat) (σ : gS) (np nt no ni : Nat) (hI : iA σ np nt no ni) (r g b : Int32) (K : Nat) (hK : K = th_pigment np r g b) : MC l yX0_pigment wsX0_pigment 8 134 D (tyIJ cI cJ) [.ref (h 0), .int (r), .int (g), .int (b)] (wA cI h σ) (wA cI h (s_pigment σ np r g b)) (exT K) (some (.int (nI np))) (nT K) := by
  have hI0 := hI
  obtain ⟨⟨hnp, hnp6⟩, ⟨hnt, hnt12⟩, ⟨hno, hno10⟩, ⟨hni, hni8⟩, hPT, hLC, hLH⟩ := hI
  refine MC.ofG (cc := cX0_pigment) (maxL := 5) (ret := (some .int)) [(0, .ref (h 0)), (1, .int (r)), (2, .int (g)), (3, .int (b))] (by decide) rfl (Nat.le_of_ble_eq_true rfl) rfl ?_
  intro p e s m args below meth c C hr hout
  have hin : ∀ w ∈ wsX00, w ∈ wsX0_pigment := fun w h => by first | exact List.mem_cons_of_mem _ (List.mem_append_right _ h) | exact List.mem_cons_of_mem _ (List.mem_append_left _ (List.mem_append_right _ h)) | exact List.mem_cons_of_mem _ (List.mem_append_left _ (List.mem_append_left _ (List.mem_append_right _ h))) | exact List.mem_cons_of_mem _ (List.mem_append_left _ (List.mem_append_left _ (List.mem_append_left _ (List.mem_append_right _ h)))) | exact List.mem_cons_of_mem _ (List.mem_append_left _ (List.mem_append_left _ (List.mem_append_left _ (List.mem_append_left _ (List.mem_append_right _ h)))))
  refine g_iload_n 1 C rfl dX0_pigment_0 rfl ?_
  refine g_iload_n 2 C rfl dX0_pigment_1 rfl ?_
  refine g_iload_n 3 C rfl dX0_pigment_2 rfl ?_
  by_cases c_3_1 : out (r) 0 255 ∨ out (g) 0 255 ∨ out (b) 0 255
  ·
    obtain rfl : K = 2 := hK.trans (by simp only [th_pigment, c_3_1, if_true, if_false, not_true, not_false_iff])
    exact g_callSX (na := 3) (av := [.int (r), .int (g), .int (b)]) (c_checkColour l D cI cJ hst _ (r) (g) (b) 2 (if_pos c_3_1).symm) C gX0_pigment_X0_checkColour rfl (by decide +kernel) rfl ⟨by decide, by decide⟩ rfl (Nat.le_of_ble_eq_true rfl) ⟨by decide, by decide⟩ hout (by decide) (by decide) rfl dX0_pigment_3
  refine g_callS0 (na := 3) (av := [.int (r), .int (g), .int (b)]) (c_checkColour l D cI cJ hst _ (r) (g) (b) 0 (if_neg c_3_1).symm) C gX0_pigment_X0_checkColour rfl (by decide +kernel) rfl ⟨Nat.le_of_ble_eq_true rfl, Nat.le_of_ble_eq_true rfl⟩ rfl (Nat.le_of_ble_eq_true rfl) ⟨Nat.zero_le _, Nat.zero_le _⟩ rfl dX0_pigment_3 ?_
  refine g_aload_n 0 C rfl dX0_pigment_6 rfl ?_
  refine g_get (C0 := RX0) (T := TX0) (N := 17) 0 0 0 (.int (σ.1 0)) C hin rfl rfl (by decide) (by decide +kernel) rfl dX0_pigment_7 ?_
  refine g_is (nI np) hnp ?_
  refine g_bipush 6 C dX0_pigment_10 (by decide) ?_
  refine g_icmp_lt 25 C dX0_pigment_12 (by decide) (fun c_12_2 => ?_) (fun c_12_2 => ?_)
  ·
    have d_12_2 : np < 6 := (nI_ltI (a := np) (b := 6) (by omega) (by omega)).mp c_12_2
    refine g_aload_n 0 C rfl dX0_pigment_25 rfl ?_
    refine g_get (C0 := RX0) (T := TX0) (N := 17) 0 0 0 (.int (σ.1 0)) C hin rfl rfl (by decide) (by decide +kernel) rfl dX0_pigment_26 ?_
    refine g_is (nI np) hnp ?_
    refine g_iconst 3 C dX0_pigment_29 (by decide) ?_
    refine g_imulN np 3 C dX0_pigment_30 ?_
    refine g_istore [(4, .int (nI (np * 3))), (0, .ref (h 0)), (1, .int (r)), (2, .int (g)), (3, .int (b))] C dX0_pigment_31 (by decide) rfl ?_
    refine g_aload_n 1 C rfl dX0_pigment_33 rfl ?_
    refine g_get (C0 := RX0) (T := TX0) (N := 17) 0 0 5 (.ref (h 1)) C hin rfl rfl (by decide) (by decide +kernel) rfl dX0_pigment_34 ?_
    refine g_iload 0 C rfl dX0_pigment_37 ?_
    refine g_iload_n 2 C rfl dX0_pigment_39 rfl ?_
    refine g_iastN (cA := cI) (n := 18) (a := h 1) (f := σ.2 0) (x := r) (np * 3) 1 0 (wA cI h (sA σ 0 (upd (σ.2 0) (np * 3) (r)))) C rfl rfl (by omega) (by decide) rfl dX0_pigment_40 ?_
    refine g_aload_n 1 C rfl dX0_pigment_41 rfl ?_
    refine g_get (C0 := RX0) (T := TX0) (N := 17) 0 0 5 (.ref (h 1)) C hin rfl rfl (by decide) (by decide +kernel) rfl dX0_pigment_42 ?_
    refine g_iload 0 C rfl dX0_pigment_45 ?_
    refine g_iconst 1 C dX0_pigment_47 (by decide) ?_
    refine g_iaddN (np * 3) 1 C dX0_pigment_48 ?_
    refine g_iload_n 3 C rfl dX0_pigment_49 rfl ?_
    refine g_iastN (cA := cI) (n := 18) (a := h 1) (f := upd (σ.2 0) (np * 3) (r)) (x := g) ((np * 3) + 1) 1 0 (wA cI h (sA σ 0 (upd (upd (σ.2 0) (np * 3) (r)) ((np * 3) + 1) (g)))) C rfl rfl (by omega) (by decide) rfl dX0_pigment_50 ?_
    refine g_aload_n 1 C rfl dX0_pigment_51 rfl ?_
    refine g_get (C0 := RX0) (T := TX0) (N := 17) 0 0 5 (.ref (h 1)) C hin rfl rfl (by decide) (by decide +kernel) rfl dX0_pigment_52 ?_
    refine g_iload 0 C rfl dX0_pigment_55 ?_
    refine g_iconst 2 C dX0_pigment_57 (by decide) ?_
    refine g_iaddN (np * 3) 2 C dX0_pigment_58 ?_
    refine g_iload_n 4 C rfl dX0_pigment_59 rfl ?_
    refine g_iastN (cA := cI) (n := 18) (a := h 1) (f := upd (upd (σ.2 0) (np * 3) (r)) ((np * 3) + 1) (g)) (x := b) ((np * 3) + 2) 1 0 (wA cI h (sA σ 0 (upd (upd (upd (σ.2 0) (np * 3) (r)) ((np * 3) + 1) (g)) ((np * 3) + 2) (b)))) C rfl rfl (by omega) (by decide) rfl dX0_pigment_60 ?_
    refine g_aload_n 1 C rfl dX0_pigment_61 rfl ?_
    refine g_dup C dX0_pigment_62 rfl ?_
    refine g_get (C0 := RX0) (T := TX0) (N := 17) 0 0 0 (.int (σ.1 0)) C hin rfl rfl (by decide) (by decide +kernel) rfl dX0_pigment_63 ?_
    refine g_is (nI np) hnp ?_
    refine g_iconst 1 C dX0_pigment_66 (by decide) ?_
    refine g_iaddN np 1 C dX0_pigment_67 ?_
    refine g_put (C0 := RX0) (T := TX0) (N := 17) 0 0 0 (wA cI h (sS (sA σ 0 (upd (upd (upd (σ.2 0) (np * 3) (r)) ((np * 3) + 1) (g)) ((np * 3) + 2) (b))) 0 (nI (np + 1)))) C hin tyX0_ok nmX0 rfl rfl (by decide) (by decide +kernel) rfl (by decide +kernel) (Nat.le_of_ble_eq_true rfl) rfl dX0_pigment_68 ?_
    refine g_aload_n 1 C rfl dX0_pigment_71 rfl ?_
    refine g_get (C0 := RX0) (T := TX0) (N := 17) 0 0 0 (.int (nI (np + 1))) C hin rfl rfl (by decide) (by decide +kernel) rfl dX0_pigment_72 ?_
    refine g_iconst 1 C dX0_pigment_75 (by decide) ?_
    refine g_isubN (np + 1) 1 C (by omega) dX0_pigment_76 ?_
    obtain rfl : K = 0 := hK.trans (by simp only [th_pigment, c_3_1, c_12_2, if_true, if_false, not_true, not_false_iff])
    exact g_iret C hr rfl dX0_pigment_77 (Nat.zero_le _) (Nat.zero_le _) rfl rfl rfl
  ·
    have d_12_2 : ¬ np < 6 := fun q => c_12_2 ((nI_ltI (a := np) (b := 6) (by omega) (by omega)).mpr q)
    obtain rfl : K = 3 := hK.trans (by simp only [th_pigment, c_3_1, c_12_2, if_true, if_false, not_true, not_false_iff])
    exact g_throw (cls := eISE) (text := "no more pigments") C hst rfl (by decide +kernel) (by decide +kernel) (by decide +kernel) (by decide +kernel) (by decide +kernel) (by decide +kernel) (by decide +kernel) hout dX0_pigment_15 dX0_pigment_18 dX0_pigment_19 dX0_pigment_21 dX0_pigment_24 (by decide) (by decide) (by decide) (by decide) (by decide) (by decide) rfl
set_option maxRecDepth 100000 in
set_option maxHeartbeats 4000000 in
theorem c_tube (l : Launch) (D : va_G) (cI cJ : ClassId) (hst : l.stackTraces = false) (h : Nat → Nat) (σ : gS) (np nt no ni : Nat) (hI : iA σ np nt no ni) (x g : Int32) (K : Nat) (hK : K = th_tube np nt x g) : MC l yX0_tube wsX0_tube 7 112 D (tyIJ cI cJ) [.ref (h 0), .int (x), .int (g)] (wA cI h σ) (wA cI h (s_tube σ nt x g)) (exT K) (some (.int (nI nt))) (nT K) := by
  have hI0 := hI
  obtain ⟨⟨hnp, hnp6⟩, ⟨hnt, hnt12⟩, ⟨hno, hno10⟩, ⟨hni, hni8⟩, hPT, hLC, hLH⟩ := hI
  refine MC.ofG (cc := cX0_tube) (maxL := 3) (ret := (some .int)) [(0, .ref (h 0)), (1, .int (x)), (2, .int (g))] (by decide) rfl (Nat.le_of_ble_eq_true rfl) rfl ?_
  intro p e s m args below meth c C hr hout
  have hin : ∀ w ∈ wsX00, w ∈ wsX0_tube := fun w h => by first | exact List.mem_cons_of_mem _ (List.mem_append_right _ h) | exact List.mem_cons_of_mem _ (List.mem_append_left _ (List.mem_append_right _ h)) | exact List.mem_cons_of_mem _ (List.mem_append_left _ (List.mem_append_left _ (List.mem_append_right _ h))) | exact List.mem_cons_of_mem _ (List.mem_append_left _ (List.mem_append_left _ (List.mem_append_left _ (List.mem_append_right _ h)))) | exact List.mem_cons_of_mem _ (List.mem_append_left _ (List.mem_append_left _ (List.mem_append_left _ (List.mem_append_left _ (List.mem_append_right _ h)))))
  refine g_iload_n 1 C rfl dX0_tube_0 rfl ?_
  refine g_aload_n 0 C rfl dX0_tube_1 rfl ?_
  refine g_get (C0 := RX0) (T := TX0) (N := 17) 0 0 0 (.int (σ.1 0)) C hin rfl rfl (by decide) (by decide +kernel) rfl dX0_tube_2 ?_
  refine g_is (nI np) hnp ?_
  by_cases c_5_1 : bad x (nI (np))
  ·
    obtain rfl : K = 1 := hK.trans (by simp [th_tube, c_5_1])
    exact g_callSX (na := 2) (av := [.int (x), .int (nI (np))]) (c_checkNumber l D cI cJ hst _ x (nI (np)) 1 (if_pos c_5_1).symm) C gX0_tube_X0_checkNumber rfl (by decide +kernel) rfl ⟨by decide, by decide⟩ rfl (Nat.le_of_ble_eq_true rfl) ⟨by decide, by decide⟩ hout (by decide) (by decide) rfl dX0_tube_5
  refine g_callS0 (na := 2) (av := [.int (x), .int (nI (np))]) (c_checkNumber l D cI cJ hst _ x (nI (np)) 0 (if_neg c_5_1).symm) C gX0_tube_X0_checkNumber rfl (by decide +kernel) rfl ⟨Nat.le_of_ble_eq_true rfl, Nat.le_of_ble_eq_true rfl⟩ rfl (Nat.le_of_ble_eq_true rfl) ⟨Nat.zero_le _, Nat.zero_le _⟩ rfl dX0_tube_5 ?_
  obtain ⟨x', hx', rfl⟩ := nb_of (N := np) rfl (by omega) c_5_1
  have kx' : cl (nI x') = x' := cl_nI (by omega)
  refine g_iload_n 2 C rfl dX0_tube_8 rfl ?_
  refine g_iconst 1 C dX0_tube_9 (by decide) ?_
  refine g_sipush 1000 C dX0_tube_10 (by decide) ?_
  by_cases c_13_2 : out (g) (1) (1000)
  ·
    obtain rfl : K = 2 := hK.trans (by simp [th_tube, c_5_1, c_13_2, kx'])
    exact g_callSX (na := 3) (av := [.int (g), .int (1), .int (1000)]) (c_checkRange l D cI cJ hst _ (g) (1) (1000) 2 (if_pos c_13_2).symm) C gX0_tube_X0_checkRange rfl (by decide +kernel) rfl ⟨by decide, by decide⟩ rfl (Nat.le_of_ble_eq_true rfl) ⟨by decide, by decide⟩ hout (by decide) (by decide) rfl dX0_tube_13
  refine g_callS0 (na := 3) (av := [.int (g), .int (1), .int (1000)]) (c_checkRange l D cI cJ hst _ (g) (1) (1000) 0 (if_neg c_13_2).symm) C gX0_tube_X0_checkRange rfl (by decide +kernel) rfl ⟨Nat.le_of_ble_eq_true rfl, Nat.le_of_ble_eq_true rfl⟩ rfl (Nat.le_of_ble_eq_true rfl) ⟨Nat.zero_le _, Nat.zero_le _⟩ rfl dX0_tube_13 ?_
  have hg1 := out_lo c_13_2
  refine g_aload_n 0 C rfl dX0_tube_16 rfl ?_
  refine g_get (C0 := RX0) (T := TX0) (N := 17) 0 0 1 (.int (σ.1 1)) C hin rfl rfl (by decide) (by decide +kernel) rfl dX0_tube_17 ?_
  refine g_is (nI nt) hnt ?_
  refine g_bipush 12 C dX0_tube_20 (by decide) ?_
  refine g_icmp_lt 35 C dX0_tube_22 (by decide) (fun c_22_3 => ?_) (fun c_22_3 => ?_)
  ·
    have d_22_3 : nt < 12 := (nI_ltI (a := nt) (b := 12) (by omega) (by omega)).mp c_22_3
    refine g_aload_n 0 C rfl dX0_tube_35 rfl ?_
    refine g_get (C0 := RX0) (T := TX0) (N := 17) 0 0 6 (.ref (h 2)) C hin rfl rfl (by decide) (by decide +kernel) rfl dX0_tube_36 ?_
    refine g_aload_n 0 C rfl dX0_tube_39 rfl ?_
    refine g_get (C0 := RX0) (T := TX0) (N := 17) 0 0 1 (.int (σ.1 1)) C hin rfl rfl (by decide) (by decide +kernel) rfl dX0_tube_40 ?_
    refine g_is (nI nt) hnt ?_
    refine g_iload_n 1 C rfl dX0_tube_43 rfl ?_
    refine g_iastN (cA := cI) (n := 12) (a := h 2) (f := σ.2 1) (x := nI (x')) nt 2 0 (wA cI h (sA σ 1 (upd (σ.2 1) nt (nI (x'))))) C rfl rfl (by omega) (by decide) rfl dX0_tube_44 ?_
    refine g_aload_n 0 C rfl dX0_tube_45 rfl ?_
    refine g_get (C0 := RX0) (T := TX0) (N := 17) 0 0 7 (.ref (h 3)) C hin rfl rfl (by decide) (by decide +kernel) rfl dX0_tube_46 ?_
    refine g_aload_n 0 C rfl dX0_tube_49 rfl ?_
    refine g_get (C0 := RX0) (T := TX0) (N := 17) 0 0 1 (.int (σ.1 1)) C hin rfl rfl (by decide) (by decide +kernel) rfl dX0_tube_50 ?_
    refine g_is (nI nt) hnt ?_
    refine g_iload_n 2 C rfl dX0_tube_53 rfl ?_
    refine g_iastN (cA := cI) (n := 12) (a := h 3) (f := σ.2 2) (x := g) nt 3 0 (wA cI h (sA (sA σ 1 (upd (σ.2 1) nt (nI (x')))) 2 (upd (σ.2 2) nt (g)))) C rfl rfl (by omega) (by decide) rfl dX0_tube_54 ?_
    refine g_aload_n 0 C rfl dX0_tube_55 rfl ?_
    refine g_dup C dX0_tube_56 rfl ?_
    refine g_get (C0 := RX0) (T := TX0) (N := 17) 0 0 1 (.int (σ.1 1)) C hin rfl rfl (by decide) (by decide +kernel) rfl dX0_tube_57 ?_
    refine g_is (nI nt) hnt ?_
    refine g_iconst 1 C dX0_tube_60 (by decide) ?_
    refine g_iaddN nt 1 C dX0_tube_61 ?_
    refine g_put (C0 := RX0) (T := TX0) (N := 17) 0 0 1 (wA cI h (sS (sA (sA σ 1 (upd (σ.2 1) nt (nI (x')))) 2 (upd (σ.2 2) nt (g))) 1 (nI (nt + 1)))) C hin tyX0_ok nmX0 rfl rfl (by decide) (by decide +kernel) rfl (by decide +kernel) (Nat.le_of_ble_eq_true rfl) rfl dX0_tube_62 ?_
    refine g_aload_n 0 C rfl dX0_tube_65 rfl ?_
    refine g_get (C0 := RX0) (T := TX0) (N := 17) 0 0 1 (.int (nI (nt + 1))) C hin rfl rfl (by decide) (by decide +kernel) rfl dX0_tube_66 ?_
    refine g_iconst 1 C dX0_tube_69 (by decide) ?_
    refine g_isubN (nt + 1) 1 C (by omega) dX0_tube_70 ?_
    obtain rfl : K = 0 := hK.trans (by simp [th_tube, c_5_1, c_13_2, c_22_3, kx'])
    exact g_iret C hr rfl dX0_tube_71 (Nat.zero_le _) (Nat.zero_le _) rfl rfl rfl
  ·
    have d_22_3 : ¬ nt < 12 := fun q => c_22_3 ((nI_ltI (a := nt) (b := 12) (by omega) (by omega)).mpr q)
    obtain rfl : K = 3 := hK.trans (by simp [th_tube, c_5_1, c_13_2, c_22_3, kx'])
    exact g_throw (cls := eISE) (text := "no more tubes") C hst rfl (by decide +kernel) (by decide +kernel) (by decide +kernel) (by decide +kernel) (by decide +kernel) (by decide +kernel) (by decide +kernel) hout dX0_tube_25 dX0_tube_28 dX0_tube_29 dX0_tube_31 dX0_tube_34 (by decide) (by decide) (by decide) (by decide) (by decide) (by decide) rfl
set_option maxRecDepth 100000 in
set_option maxHeartbeats 4000000 in
theorem c_pot (l : Launch) (D : va_G) (cI cJ : ClassId) (hst : l.stackTraces = false) (h : Nat → Nat) (σ : gS) (np nt no ni : Nat) (hI : iA σ np nt no ni)  (K : Nat) (hK : K = th_pot no) : MC l yX0_pot wsX0_pot 6 90 D (tyIJ cI cJ) [.ref (h 0)] (wA cI h σ) (wA cI h (sS σ 2 (nI (no + 1)))) (exT K) (some (.int (nI no))) (nT K) := by
  have hI0 := hI
  obtain ⟨⟨hnp, hnp6⟩, ⟨hnt, hnt12⟩, ⟨hno, hno10⟩, ⟨hni, hni8⟩, hPT, hLC, hLH⟩ := hI
  refine MC.ofG (cc := cX0_pot) (maxL := 1) (ret := (some .int)) [(0, .ref (h 0))] (by decide) rfl (Nat.le_of_ble_eq_true rfl) rfl ?_
  intro p e s m args below meth c C hr hout
  have hin : ∀ w ∈ wsX00, w ∈ wsX0_pot := fun w h => by first | exact List.mem_cons_of_mem _ (List.mem_append_right _ h) | exact List.mem_cons_of_mem _ (List.mem_append_left _ (List.mem_append_right _ h)) | exact List.mem_cons_of_mem _ (List.mem_append_left _ (List.mem_append_left _ (List.mem_append_right _ h))) | exact List.mem_cons_of_mem _ (List.mem_append_left _ (List.mem_append_left _ (List.mem_append_left _ (List.mem_append_right _ h)))) | exact List.mem_cons_of_mem _ (List.mem_append_left _ (List.mem_append_left _ (List.mem_append_left _ (List.mem_append_left _ (List.mem_append_right _ h)))))
  refine g_aload_n 0 C rfl dX0_pot_0 rfl ?_
  refine g_get (C0 := RX0) (T := TX0) (N := 17) 0 0 2 (.int (σ.1 2)) C hin rfl rfl (by decide) (by decide +kernel) rfl dX0_pot_1 ?_
  refine g_is (nI no) hno ?_
  refine g_bipush 10 C dX0_pot_4 (by decide) ?_
  refine g_icmp_lt 19 C dX0_pot_6 (by decide) (fun c_6_1 => ?_) (fun c_6_1 => ?_)
  ·
    have d_6_1 : no < 10 := (nI_ltI (a := no) (b := 10) (by omega) (by omega)).mp c_6_1
    refine g_aload_n 0 C rfl dX0_pot_19 rfl ?_
    refine g_dup C dX0_pot_20 rfl ?_
    refine g_get (C0 := RX0) (T := TX0) (N := 17) 0 0 2 (.int (σ.1 2)) C hin rfl rfl (by decide) (by decide +kernel) rfl dX0_pot_21 ?_
    refine g_is (nI no) hno ?_
    refine g_iconst 1 C dX0_pot_24 (by decide) ?_
    refine g_iaddN no 1 C dX0_pot_25 ?_
    refine g_put (C0 := RX0) (T := TX0) (N := 17) 0 0 2 (wA cI h (sS σ 2 (nI (no + 1)))) C hin tyX0_ok nmX0 rfl rfl (by decide) (by decide +kernel) rfl (by decide +kernel) (Nat.le_of_ble_eq_true rfl) rfl dX0_pot_26 ?_
    refine g_aload_n 0 C rfl dX0_pot_29 rfl ?_
    refine g_get (C0 := RX0) (T := TX0) (N := 17) 0 0 2 (.int (nI (no + 1))) C hin rfl rfl (by decide) (by decide +kernel) rfl dX0_pot_30 ?_
    refine g_iconst 1 C dX0_pot_33 (by decide) ?_
    refine g_isubN (no + 1) 1 C (by omega) dX0_pot_34 ?_
    obtain rfl : K = 0 := hK.trans (by simp [th_pot, c_6_1])
    exact g_iret C hr rfl dX0_pot_35 (Nat.zero_le _) (Nat.zero_le _) rfl rfl rfl
  ·
    have d_6_1 : ¬ no < 10 := fun q => c_6_1 ((nI_ltI (a := no) (b := 10) (by omega) (by omega)).mpr q)
    obtain rfl : K = 3 := hK.trans (by simp [th_pot, c_6_1])
    exact g_throw (cls := eISE) (text := "no more pots") C hst rfl (by decide +kernel) (by decide +kernel) (by decide +kernel) (by decide +kernel) (by decide +kernel) (by decide +kernel) (by decide +kernel) hout dX0_pot_9 dX0_pot_12 dX0_pot_13 dX0_pot_15 dX0_pot_18 (by decide) (by decide) (by decide) (by decide) (by decide) (by decide) rfl
set_option maxRecDepth 100000 in
set_option maxHeartbeats 4000000 in
theorem c_picture (l : Launch) (D : va_G) (cI cJ : ClassId) (hst : l.stackTraces = false) (h : Nat → Nat) (σ : gS) (np nt no ni : Nat) (hI : iA σ np nt no ni)  (K : Nat) (hK : K = th_picture ni) : MC l yX0_picture wsX0_picture 6 90 D (tyIJ cI cJ) [.ref (h 0)] (wA cI h σ) (wA cI h (sS σ 3 (nI (ni + 1)))) (exT K) (some (.int (nI ni))) (nT K) := by
  have hI0 := hI
  obtain ⟨⟨hnp, hnp6⟩, ⟨hnt, hnt12⟩, ⟨hno, hno10⟩, ⟨hni, hni8⟩, hPT, hLC, hLH⟩ := hI
  refine MC.ofG (cc := cX0_picture) (maxL := 1) (ret := (some .int)) [(0, .ref (h 0))] (by decide) rfl (Nat.le_of_ble_eq_true rfl) rfl ?_
  intro p e s m args below meth c C hr hout
  have hin : ∀ w ∈ wsX00, w ∈ wsX0_picture := fun w h => by first | exact List.mem_cons_of_mem _ (List.mem_append_right _ h) | exact List.mem_cons_of_mem _ (List.mem_append_left _ (List.mem_append_right _ h)) | exact List.mem_cons_of_mem _ (List.mem_append_left _ (List.mem_append_left _ (List.mem_append_right _ h))) | exact List.mem_cons_of_mem _ (List.mem_append_left _ (List.mem_append_left _ (List.mem_append_left _ (List.mem_append_right _ h)))) | exact List.mem_cons_of_mem _ (List.mem_append_left _ (List.mem_append_left _ (List.mem_append_left _ (List.mem_append_left _ (List.mem_append_right _ h)))))
  refine g_aload_n 0 C rfl dX0_picture_0 rfl ?_
  refine g_get (C0 := RX0) (T := TX0) (N := 17) 0 0 3 (.int (σ.1 3)) C hin rfl rfl (by decide) (by decide +kernel) rfl dX0_picture_1 ?_
  refine g_is (nI ni) hni ?_
  refine g_bipush 8 C dX0_picture_4 (by decide) ?_
  refine g_icmp_lt 19 C dX0_picture_6 (by decide) (fun c_6_1 => ?_) (fun c_6_1 => ?_)
  ·
    have d_6_1 : ni < 8 := (nI_ltI (a := ni) (b := 8) (by omega) (by omega)).mp c_6_1
    refine g_aload_n 0 C rfl dX0_picture_19 rfl ?_
    refine g_dup C dX0_picture_20 rfl ?_
    refine g_get (C0 := RX0) (T := TX0) (N := 17) 0 0 3 (.int (σ.1 3)) C hin rfl rfl (by decide) (by decide +kernel) rfl dX0_picture_21 ?_
    refine g_is (nI ni) hni ?_
    refine g_iconst 1 C dX0_picture_24 (by decide) ?_
    refine g_iaddN ni 1 C dX0_picture_25 ?_
    refine g_put (C0 := RX0) (T := TX0) (N := 17) 0 0 3 (wA cI h (sS σ 3 (nI (ni + 1)))) C hin tyX0_ok nmX0 rfl rfl (by decide) (by decide +kernel) rfl (by decide +kernel) (Nat.le_of_ble_eq_true rfl) rfl dX0_picture_26 ?_
    refine g_aload_n 0 C rfl dX0_picture_29 rfl ?_
    refine g_get (C0 := RX0) (T := TX0) (N := 17) 0 0 3 (.int (nI (ni + 1))) C hin rfl rfl (by decide) (by decide +kernel) rfl dX0_picture_30 ?_
    refine g_iconst 1 C dX0_picture_33 (by decide) ?_
    refine g_isubN (ni + 1) 1 C (by omega) dX0_picture_34 ?_
    obtain rfl : K = 0 := hK.trans (by simp [th_picture, c_6_1])
    exact g_iret C hr rfl dX0_picture_35 (Nat.zero_le _) (Nat.zero_le _) rfl rfl rfl
  ·
    have d_6_1 : ¬ ni < 8 := fun q => c_6_1 ((nI_ltI (a := ni) (b := 8) (by omega) (by omega)).mpr q)
    obtain rfl : K = 3 := hK.trans (by simp [th_picture, c_6_1])
    exact g_throw (cls := eISE) (text := "no more pictures") C hst rfl (by decide +kernel) (by decide +kernel) (by decide +kernel) (by decide +kernel) (by decide +kernel) (by decide +kernel) (by decide +kernel) hout dX0_picture_9 dX0_picture_12 dX0_picture_13 dX0_picture_15 dX0_picture_18 (by decide) (by decide) (by decide) (by decide) (by decide) (by decide) rfl
set_option maxRecDepth 100000 in
set_option maxHeartbeats 4000000 in
theorem c_squeeze (l : Launch) (D : va_G) (cI cJ : ClassId) (hst : l.stackTraces = false) (h : Nat → Nat) (σ : gS) (np nt no ni : Nat) (hI : iA σ np nt no ni) (x t g : Int32) (K : Nat) (hK : K = th_squeeze σ nt no x t g) : MC l yX0_squeeze wsX0_squeeze 7 112 D (tyIJ cI cJ) [.ref (h 0), .int (x), .int (t), .int (g)] (wA cI h σ) (wA cI h (s_squeeze σ (cl x) (cl t) g)) (exT K) (some (.int (σ.2 2 (cl t) - g))) (nT K) := by
  have hI0 := hI
  obtain ⟨⟨hnp, hnp6⟩, ⟨hnt, hnt12⟩, ⟨hno, hno10⟩, ⟨hni, hni8⟩, hPT, hLC, hLH⟩ := hI
  refine MC.ofG (cc := cX0_squeeze) (maxL := 4) (ret := (some .int)) [(0, .ref (h 0)), (1, .int (x)), (2, .int (t)), (3, .int (g))] (by decide) rfl (Nat.le_of_ble_eq_true rfl) rfl ?_
  intro p e s m args below meth c C hr hout
  have hin : ∀ w ∈ wsX00, w ∈ wsX0_squeeze := fun w h => by first | exact List.mem_cons_of_mem _ (List.mem_append_right _ h) | exact List.mem_cons_of_mem _ (List.mem_append_left _ (List.mem_append_right _ h)) | exact List.mem_cons_of_mem _ (List.mem_append_left _ (List.mem_append_left _ (List.mem_append_right _ h))) | exact List.mem_cons_of_mem _ (List.mem_append_left _ (List.mem_append_left _ (List.mem_append_left _ (List.mem_append_right _ h)))) | exact List.mem_cons_of_mem _ (List.mem_append_left _ (List.mem_append_left _ (List.mem_append_left _ (List.mem_append_left _ (List.mem_append_right _ h)))))
  refine g_iload_n 1 C rfl dX0_squeeze_0 rfl ?_
  refine g_aload_n 0 C rfl dX0_squeeze_1 rfl ?_
  refine g_get (C0 := RX0) (T := TX0) (N := 17) 0 0 2 (.int (σ.1 2)) C hin rfl rfl (by decide) (by decide +kernel) rfl dX0_squeeze_2 ?_
  refine g_is (nI no) hno ?_
  by_cases c_5_1 : bad x (nI (no))
  ·
    obtain rfl : K = 1 := hK.trans (by simp [th_squeeze, c_5_1])
    exact g_callSX (na := 2) (av := [.int (x), .int (nI (no))]) (c_checkNumber l D cI cJ hst _ x (nI (no)) 1 (if_pos c_5_1).symm) C gX0_squeeze_X0_checkNumber rfl (by decide +kernel) rfl ⟨by decide, by decide⟩ rfl (Nat.le_of_ble_eq_true rfl) ⟨by decide, by decide⟩ hout (by decide) (by decide) rfl dX0_squeeze_5
  refine g_callS0 (na := 2) (av := [.int (x), .int (nI (no))]) (c_checkNumber l D cI cJ hst _ x (nI (no)) 0 (if_neg c_5_1).symm) C gX0_squeeze_X0_checkNumber rfl (by decide +kernel) rfl ⟨Nat.le_of_ble_eq_true rfl, Nat.le_of_ble_eq_true rfl⟩ rfl (Nat.le_of_ble_eq_true rfl) ⟨Nat.zero_le _, Nat.zero_le _⟩ rfl dX0_squeeze_5 ?_
  obtain ⟨x', hx', rfl⟩ := nb_of (N := no) rfl (by omega) c_5_1
  have kx' : cl (nI x') = x' := cl_nI (by omega)
  refine g_iload_n 2 C rfl dX0_squeeze_8 rfl ?_
  refine g_aload_n 0 C rfl dX0_squeeze_9 rfl ?_
  refine g_get (C0 := RX0) (T := TX0) (N := 17) 0 0 1 (.int (σ.1 1)) C hin rfl rfl (by decide) (by decide +kernel) rfl dX0_squeeze_10 ?_
  refine g_is (nI nt) hnt ?_
  by_cases c_13_2 : bad t (nI (nt))
  ·
    obtain rfl : K = 1 := hK.trans (by simp [th_squeeze, c_5_1, c_13_2, kx'])
    exact g_callSX (na := 2) (av := [.int (t), .int (nI (nt))]) (c_checkNumber l D cI cJ hst _ t (nI (nt)) 1 (if_pos c_13_2).symm) C gX0_squeeze_X0_checkNumber rfl (by decide +kernel) rfl ⟨by decide, by decide⟩ rfl (Nat.le_of_ble_eq_true rfl) ⟨by decide, by decide⟩ hout (by decide) (by decide) rfl dX0_squeeze_13
  refine g_callS0 (na := 2) (av := [.int (t), .int (nI (nt))]) (c_checkNumber l D cI cJ hst _ t (nI (nt)) 0 (if_neg c_13_2).symm) C gX0_squeeze_X0_checkNumber rfl (by decide +kernel) rfl ⟨Nat.le_of_ble_eq_true rfl, Nat.le_of_ble_eq_true rfl⟩ rfl (Nat.le_of_ble_eq_true rfl) ⟨Nat.zero_le _, Nat.zero_le _⟩ rfl dX0_squeeze_13 ?_
  obtain ⟨t', ht', rfl⟩ := nb_of (N := nt) rfl (by omega) c_13_2
  have kt' : cl (nI t') = t' := cl_nI (by omega)
  refine g_iload_n 3 C rfl dX0_squeeze_16 rfl ?_
  refine g_iconst 1 C dX0_squeeze_17 (by decide) ?_
  refine g_sipush 1000 C dX0_squeeze_18 (by decide) ?_
  by_cases c_21_3 : out (g) (1) (1000)
  ·
    obtain rfl : K = 2 := hK.trans (by simp [th_squeeze, c_5_1, c_13_2, c_21_3, kx', kt'])
    exact g_callSX (na := 3) (av := [.int (g), .int (1), .int (1000)]) (c_checkRange l D cI cJ hst _ (g) (1) (1000) 2 (if_pos c_21_3).symm) C gX0_squeeze_X0_checkRange rfl (by decide +kernel) rfl ⟨by decide, by decide⟩ rfl (Nat.le_of_ble_eq_true rfl) ⟨by decide, by decide⟩ hout (by decide) (by decide) rfl dX0_squeeze_21
  refine g_callS0 (na := 3) (av := [.int (g), .int (1), .int (1000)]) (c_checkRange l D cI cJ hst _ (g) (1) (1000) 0 (if_neg c_21_3).symm) C gX0_squeeze_X0_checkRange rfl (by decide +kernel) rfl ⟨Nat.le_of_ble_eq_true rfl, Nat.le_of_ble_eq_true rfl⟩ rfl (Nat.le_of_ble_eq_true rfl) ⟨Nat.zero_le _, Nat.zero_le _⟩ rfl dX0_squeeze_21 ?_
  have hg1 := out_lo c_21_3
  refine g_aload_n 0 C rfl dX0_squeeze_24 rfl ?_
  refine g_get (C0 := RX0) (T := TX0) (N := 17) 0 0 7 (.ref (h 3)) C hin rfl rfl (by decide) (by decide +kernel) rfl dX0_squeeze_25 ?_
  refine g_iload_n 2 C rfl dX0_squeeze_28 rfl ?_
  refine g_ialdN (cA := cI) (n := 12) (a := h 3) (f := σ.2 2) t' 3 0 C rfl rfl (by omega) (by decide) dX0_squeeze_29 ?_
  refine g_iload_n 3 C rfl dX0_squeeze_30 rfl ?_
  refine g_icmp_ge 44 C dX0_squeeze_31 (by decide) (fun c_31_4 => ?_) (fun c_31_4 => ?_)
  ·
    refine g_aload_n 0 C rfl dX0_squeeze_44 rfl ?_
    refine g_get (C0 := RX0) (T := TX0) (N := 17) 0 0 7 (.ref (h 3)) C hin rfl rfl (by decide) (by decide +kernel) rfl dX0_squeeze_45 ?_
    refine g_iload_n 2 C rfl dX0_squeeze_48 rfl ?_
    refine g_dup2 C dX0_squeeze_49 rfl rfl ?_
    refine g_ialdN (cA := cI) (n := 12) (a := h 3) (f := σ.2 2) t' 3 0 C rfl rfl (by omega) (by decide) dX0_squeeze_50 ?_
    refine g_iload_n 3 C rfl dX0_squeeze_51 rfl ?_
    refine g_isub C dX0_squeeze_52 ?_
    refine g_iastN (cA := cI) (n := 12) (a := h 3) (f := σ.2 2) (x := ((σ.2 2 t') - g)) t' 3 0 (wA cI h (sA σ 2 (upd (σ.2 2) t' (((σ.2 2 t') - g))))) C rfl rfl (by omega) (by decide) rfl dX0_squeeze_53 ?_
    refine g_aload_n 0 C rfl dX0_squeeze_54 rfl ?_
    refine g_get (C0 := RX0) (T := TX0) (N := 17) 0 0 8 (.ref (h 4)) C hin rfl rfl (by decide) (by decide +kernel) rfl dX0_squeeze_55 ?_
    refine g_iload_n 1 C rfl dX0_squeeze_58 rfl ?_
    refine g_callS0 (na := 1) (av := [.int (nI (x'))]) (c_potRow l D cI cJ _ (nI (x'))) C gX0_squeeze_X0_potRow rfl (by decide +kernel) rfl ⟨Nat.le_of_ble_eq_true rfl, Nat.le_of_ble_eq_true rfl⟩ rfl (Nat.le_of_ble_eq_true rfl) ⟨Nat.zero_le _, Nat.zero_le _⟩ rfl dX0_squeeze_59 ?_
    refine g_iload_n 2 C rfl dX0_squeeze_62 rfl ?_
    refine g_callS0 (na := 2) (av := [.int (nI (x')), .int (nI (t'))]) (c_place l D cI cJ _ x' t') C gX0_squeeze_X0_place rfl (by decide +kernel) rfl ⟨Nat.le_of_ble_eq_true rfl, Nat.le_of_ble_eq_true rfl⟩ rfl (Nat.le_of_ble_eq_true rfl) ⟨Nat.zero_le _, Nat.zero_le _⟩ rfl dX0_squeeze_63 ?_
    refine g_dup2 C dX0_squeeze_66 rfl rfl ?_
    refine g_ialdN (cA := cI) (n := 1284) (a := h 4) (f := σ.2 3) (x' * 12 + t') 4 0 C rfl rfl (by omega) (by decide) dX0_squeeze_67 ?_
    refine g_iload_n 3 C rfl dX0_squeeze_68 rfl ?_
    refine g_iadd C dX0_squeeze_69 ?_
    refine g_iastN (cA := cI) (n := 1284) (a := h 4) (f := σ.2 3) (x := ((σ.2 3 (x' * 12 + t')) + g)) (x' * 12 + t') 4 0 (wA cI h (sA (sA σ 2 (upd (σ.2 2) t' (((σ.2 2 t') - g)))) 3 (upd (σ.2 3) (x' * 12 + t') (((σ.2 3 (x' * 12 + t')) + g))))) C rfl rfl (by omega) (by decide) rfl dX0_squeeze_70 ?_
    refine g_aload_n 0 C rfl dX0_squeeze_71 rfl ?_
    refine g_get (C0 := RX0) (T := TX0) (N := 17) 0 0 7 (.ref (h 3)) C hin rfl rfl (by decide) (by decide +kernel) rfl dX0_squeeze_72 ?_
    refine g_iload_n 2 C rfl dX0_squeeze_75 rfl ?_
    refine g_ialdN (cA := cI) (n := 12) (a := h 3) (f := upd (σ.2 2) t' (((σ.2 2 t') - g))) t' 3 0 C rfl rfl (by omega) (by decide) dX0_squeeze_76 ?_
    refine g_is (((σ.2 2 t') - g)) pk_us ?_
    obtain rfl : K = 0 := hK.trans (by simp [th_squeeze, c_5_1, c_13_2, c_21_3, c_31_4, kx', kt'])
    exact g_iret C hr rfl dX0_squeeze_77 (Nat.zero_le _) (Nat.zero_le _) rfl (by rw [kt']) (by rw [kx', kt']; rfl)
  ·
    obtain rfl : K = 3 := hK.trans (by simp [th_squeeze, c_5_1, c_13_2, c_21_3, c_31_4, kx', kt'])
    exact g_throw (cls := eISE) (text := "the tube has not so much") C hst rfl (by decide +kernel) (by decide +kernel) (by decide +kernel) (by decide +kernel) (by decide +kernel) (by decide +kernel) (by decide +kernel) hout dX0_squeeze_34 dX0_squeeze_37 dX0_squeeze_38 dX0_squeeze_40 dX0_squeeze_43 (by decide) (by decide) (by decide) (by decide) (by decide) (by decide) rfl
set_option maxRecDepth 100000 in
set_option maxHeartbeats 4000000 in
theorem c_pour (l : Launch) (D : va_G) (cI cJ : ClassId) (hst : l.stackTraces = false) (h : Nat → Nat) (σ : gS) (np nt no ni : Nat) (hI : iA σ np nt no ni) (x y g : Int32) (K : Nat) (hK : K = th_pour σ nt no x y g) : MC l yX0_pour wsX0_pour 7 112 D (tyIJ cI cJ) [.ref (h 0), .int (x), .int (y), .int (g)] (wA cI h σ) (wA cI h (sA σ 3 (mvS σ nt (cl x) (cl y) g))) (exT K) (some (.int (rowS (mvS σ nt (cl x) (cl y) g) (cl y) nt))) (nT K) := by
  have hI0 := hI
  obtain ⟨⟨hnp, hnp6⟩, ⟨hnt, hnt12⟩, ⟨hno, hno10⟩, ⟨hni, hni8⟩, hPT, hLC, hLH⟩ := hI
  refine MC.ofG (cc := cX0_pour) (maxL := 4) (ret := (some .int)) [(0, .ref (h 0)), (1, .int (x)), (2, .int (y)), (3, .int (g))] (by decide) rfl (Nat.le_of_ble_eq_true rfl) rfl ?_
  intro p e s m args below meth c C hr hout
  have hin : ∀ w ∈ wsX00, w ∈ wsX0_pour := fun w h => by first | exact List.mem_cons_of_mem _ (List.mem_append_right _ h) | exact List.mem_cons_of_mem _ (List.mem_append_left _ (List.mem_append_right _ h)) | exact List.mem_cons_of_mem _ (List.mem_append_left _ (List.mem_append_left _ (List.mem_append_right _ h))) | exact List.mem_cons_of_mem _ (List.mem_append_left _ (List.mem_append_left _ (List.mem_append_left _ (List.mem_append_right _ h)))) | exact List.mem_cons_of_mem _ (List.mem_append_left _ (List.mem_append_left _ (List.mem_append_left _ (List.mem_append_left _ (List.mem_append_right _ h)))))
  refine g_iload_n 1 C rfl dX0_pour_0 rfl ?_
  refine g_aload_n 0 C rfl dX0_pour_1 rfl ?_
  refine g_get (C0 := RX0) (T := TX0) (N := 17) 0 0 2 (.int (σ.1 2)) C hin rfl rfl (by decide) (by decide +kernel) rfl dX0_pour_2 ?_
  refine g_is (nI no) hno ?_
  by_cases c_5_1 : bad x (nI (no))
  ·
    obtain rfl : K = 1 := hK.trans (by simp [th_pour, c_5_1])
    exact g_callSX (na := 2) (av := [.int (x), .int (nI (no))]) (c_checkNumber l D cI cJ hst _ x (nI (no)) 1 (if_pos c_5_1).symm) C gX0_pour_X0_checkNumber rfl (by decide +kernel) rfl ⟨by decide, by decide⟩ rfl (Nat.le_of_ble_eq_true rfl) ⟨by decide, by decide⟩ hout (by decide) (by decide) rfl dX0_pour_5
  refine g_callS0 (na := 2) (av := [.int (x), .int (nI (no))]) (c_checkNumber l D cI cJ hst _ x (nI (no)) 0 (if_neg c_5_1).symm) C gX0_pour_X0_checkNumber rfl (by decide +kernel) rfl ⟨Nat.le_of_ble_eq_true rfl, Nat.le_of_ble_eq_true rfl⟩ rfl (Nat.le_of_ble_eq_true rfl) ⟨Nat.zero_le _, Nat.zero_le _⟩ rfl dX0_pour_5 ?_
  obtain ⟨x', hx', rfl⟩ := nb_of (N := no) rfl (by omega) c_5_1
  have kx' : cl (nI x') = x' := cl_nI (by omega)
  refine g_iload_n 2 C rfl dX0_pour_8 rfl ?_
  refine g_aload_n 0 C rfl dX0_pour_9 rfl ?_
  refine g_get (C0 := RX0) (T := TX0) (N := 17) 0 0 2 (.int (σ.1 2)) C hin rfl rfl (by decide) (by decide +kernel) rfl dX0_pour_10 ?_
  refine g_is (nI no) hno ?_
  by_cases c_13_2 : bad y (nI (no))
  ·
    obtain rfl : K = 1 := hK.trans (by simp [th_pour, c_5_1, c_13_2, kx'])
    exact g_callSX (na := 2) (av := [.int (y), .int (nI (no))]) (c_checkNumber l D cI cJ hst _ y (nI (no)) 1 (if_pos c_13_2).symm) C gX0_pour_X0_checkNumber rfl (by decide +kernel) rfl ⟨by decide, by decide⟩ rfl (Nat.le_of_ble_eq_true rfl) ⟨by decide, by decide⟩ hout (by decide) (by decide) rfl dX0_pour_13
  refine g_callS0 (na := 2) (av := [.int (y), .int (nI (no))]) (c_checkNumber l D cI cJ hst _ y (nI (no)) 0 (if_neg c_13_2).symm) C gX0_pour_X0_checkNumber rfl (by decide +kernel) rfl ⟨Nat.le_of_ble_eq_true rfl, Nat.le_of_ble_eq_true rfl⟩ rfl (Nat.le_of_ble_eq_true rfl) ⟨Nat.zero_le _, Nat.zero_le _⟩ rfl dX0_pour_13 ?_
  obtain ⟨y', hy', rfl⟩ := nb_of (N := no) rfl (by omega) c_13_2
  have ky' : cl (nI y') = y' := cl_nI (by omega)
  refine g_iload_n 1 C rfl dX0_pour_16 rfl ?_
  refine g_iload_n 2 C rfl dX0_pour_17 rfl ?_
  refine g_icmp_ne 31 C dX0_pour_18 (by decide) (fun c_18_3 => ?_) (fun c_18_3 => ?_)
  ·
    have d_18_3 : ¬ x' = y' := fun q => c_18_3 ((nI_eq (a := x') (b := y') (by omega) (by omega)).mpr q)
    refine g_iload_n 3 C rfl dX0_pour_31 rfl ?_
    refine g_iconst 1 C dX0_pour_32 (by decide) ?_
    refine g_sipush 12000 C dX0_pour_33 (by decide) ?_
    by_cases c_36_4 : out (g) (1) (12000)
    ·
      obtain rfl : K = 2 := hK.trans (by simp [th_pour, c_5_1, c_13_2, c_18_3, c_36_4, kx', ky'])
      exact g_callSX (na := 3) (av := [.int (g), .int (1), .int (12000)]) (c_checkRange l D cI cJ hst _ (g) (1) (12000) 2 (if_pos c_36_4).symm) C gX0_pour_X0_checkRange rfl (by decide +kernel) rfl ⟨by decide, by decide⟩ rfl (Nat.le_of_ble_eq_true rfl) ⟨by decide, by decide⟩ hout (by decide) (by decide) rfl dX0_pour_36
    refine g_callS0 (na := 3) (av := [.int (g), .int (1), .int (12000)]) (c_checkRange l D cI cJ hst _ (g) (1) (12000) 0 (if_neg c_36_4).symm) C gX0_pour_X0_checkRange rfl (by decide +kernel) rfl ⟨Nat.le_of_ble_eq_true rfl, Nat.le_of_ble_eq_true rfl⟩ rfl (Nat.le_of_ble_eq_true rfl) ⟨Nat.zero_le _, Nat.zero_le _⟩ rfl dX0_pour_36 ?_
    have hg1 := out_lo c_36_4
    refine g_aload_n 0 C rfl dX0_pour_39 rfl ?_
    refine g_iload_n 1 C rfl dX0_pour_40 rfl ?_
    refine g_callS0 (na := 1) (av := [.int (nI (x'))]) (c_potRow l D cI cJ _ (nI (x'))) C gX0_pour_X0_potRow rfl (by decide +kernel) rfl ⟨Nat.le_of_ble_eq_true rfl, Nat.le_of_ble_eq_true rfl⟩ rfl (Nat.le_of_ble_eq_true rfl) ⟨Nat.zero_le _, Nat.zero_le _⟩ rfl dX0_pour_41 ?_
    refine g_iload_n 2 C rfl dX0_pour_44 rfl ?_
    refine g_callS0 (na := 1) (av := [.int (nI (y'))]) (c_potRow l D cI cJ _ (nI (y'))) C gX0_pour_X0_potRow rfl (by decide +kernel) rfl ⟨Nat.le_of_ble_eq_true rfl, Nat.le_of_ble_eq_true rfl⟩ rfl (Nat.le_of_ble_eq_true rfl) ⟨Nat.zero_le _, Nat.zero_le _⟩ rfl dX0_pour_45 ?_
    refine g_iload_n 3 C rfl dX0_pour_48 rfl ?_
    by_cases c_49_5 : rowS (σ.2 3) x' nt < g
    ·
      refine g_callV0 (C0 := RX0) (T := TX0) (N := 17) (ci := 0) (na := 3) (As := [.int (nI (x')), .int (nI (y')), .int (g)]) (c_move_no l D cI cJ h σ np nt no ni hI0 x' y' g (by omega) (by omega) c_49_5) C gX0_pour_X0_move rfl (by decide +kernel) rfl ⟨Nat.le_of_ble_eq_true rfl, Nat.le_of_ble_eq_true rfl⟩ rfl rfl rfl (Nat.le_of_ble_eq_true rfl) ⟨Nat.zero_le _, Nat.zero_le _⟩ rfl dX0_pour_49 ?_
      refine g_if_ne 65 C dX0_pour_52 (by decide) (fun q => absurd q (by decide)) (fun _ => ?_)
      obtain rfl : K = 3 := hK.trans (by simp [th_pour, c_5_1, c_13_2, c_18_3, c_36_4, c_49_5, kx', ky'])
      exact g_throw (cls := eISE) (text := "the pot has not so much") C hst rfl (by decide +kernel) (by decide +kernel) (by decide +kernel) (by decide +kernel) (by decide +kernel) (by decide +kernel) (by decide +kernel) hout dX0_pour_55 dX0_pour_58 dX0_pour_59 dX0_pour_61 dX0_pour_64 (by decide) (by decide) (by decide) (by decide) (by decide) (by decide) rfl
    ·
      refine g_callV0 (C0 := RX0) (T := TX0) (N := 17) (ci := 0) (na := 3) (As := [.int (nI (x')), .int (nI (y')), .int (g)]) (c_move_ok l D cI cJ h σ np nt no ni hI0 x' y' g (by omega) (by omega) hg1 c_49_5) C gX0_pour_X0_move rfl (by decide +kernel) rfl ⟨Nat.le_of_ble_eq_true rfl, Nat.le_of_ble_eq_true rfl⟩ rfl rfl rfl (Nat.le_of_ble_eq_true rfl) ⟨Nat.zero_le _, Nat.zero_le _⟩ rfl dX0_pour_49 ?_
      refine g_w (wA cI h (sA σ 3 (mvS σ nt x' y' g))) rfl ?_
      refine g_if_ne 65 C dX0_pour_52 (by decide) (fun _ => ?_) (fun q => absurd q (by decide))
      refine g_aload_n 0 C rfl dX0_pour_65 rfl ?_
      refine g_iload_n 2 C rfl dX0_pour_66 rfl ?_
      refine g_callS0 (na := 1) (av := [.int (nI (y'))]) (c_potRow l D cI cJ _ (nI (y'))) C gX0_pour_X0_potRow rfl (by decide +kernel) rfl ⟨Nat.le_of_ble_eq_true rfl, Nat.le_of_ble_eq_true rfl⟩ rfl (Nat.le_of_ble_eq_true rfl) ⟨Nat.zero_le _, Nat.zero_le _⟩ rfl dX0_pour_67 ?_
      refine g_callV0 (C0 := RX0) (T := TX0) (N := 17) (ci := 0) (na := 1) (As := [.int (nI (y'))]) (c_sumOfRow l D cI cJ h (sA σ 3 (mvS σ nt x' y' g)) np nt no ni hI0 y' (by omega)) C gX0_pour_X0_sumOfRow rfl (by decide +kernel) rfl ⟨Nat.le_of_ble_eq_true rfl, Nat.le_of_ble_eq_true rfl⟩ rfl rfl rfl (Nat.le_of_ble_eq_true rfl) ⟨Nat.zero_le _, Nat.zero_le _⟩ rfl dX0_pour_70 ?_
      obtain rfl : K = 0 := hK.trans (by simp [th_pour, c_5_1, c_13_2, c_18_3, c_36_4, c_49_5, kx', ky'])
      exact g_iret C hr rfl dX0_pour_73 (Nat.zero_le _) (Nat.zero_le _) rfl (by rw [kx', ky']; rfl) (by rw [kx', ky'])
  ·
    have d_18_3 : x' = y' := (nI_eq (a := x') (b := y') (by omega) (by omega)).mp c_18_3
    obtain rfl : K = 2 := hK.trans (by simp [th_pour, c_5_1, c_13_2, c_18_3, kx', ky'])
    exact g_throw (cls := eIAE) (text := "the pots are the same") C hst rfl (by decide +kernel) (by decide +kernel) (by decide +kernel) (by decide +kernel) (by decide +kernel) (by decide +kernel) (by decide +kernel) hout dX0_pour_21 dX0_pour_24 dX0_pour_25 dX0_pour_27 dX0_pour_30 (by decide) (by decide) (by decide) (by decide) (by decide) (by decide) rfl
set_option maxRecDepth 100000 in
set_option maxHeartbeats 4000000 in
theorem c_scrape (l : Launch) (D : va_G) (cI cJ : ClassId) (hst : l.stackTraces = false) (h : Nat → Nat) (σ : gS) (np nt no ni : Nat) (hI : iA σ np nt no ni) (x : Int32) (K : Nat) (hK : K = th_scrape no x) : MC l yX0_scrape wsX0_scrape 7 111 D (tyIJ cI cJ) [.ref (h 0), .int (x)] (wA cI h σ) (wA cI h (sA σ 3 (wsL (σ.2 3) (cl x) nt))) (exT K) (some (.int (rowS (σ.2 3) (cl x) nt))) (nT K) := by
  have hI0 := hI
  obtain ⟨⟨hnp, hnp6⟩, ⟨hnt, hnt12⟩, ⟨hno, hno10⟩, ⟨hni, hni8⟩, hPT, hLC, hLH⟩ := hI
  refine MC.ofG (cc := cX0_scrape) (maxL := 2) (ret := (some .int)) [(0, .ref (h 0)), (1, .int (x))] (by decide) rfl (Nat.le_of_ble_eq_true rfl) rfl ?_
  intro p e s m args below meth c C hr hout
  have hin : ∀ w ∈ wsX00, w ∈ wsX0_scrape := fun w h => by first | exact List.mem_cons_of_mem _ (List.mem_append_right _ h) | exact List.mem_cons_of_mem _ (List.mem_append_left _ (List.mem_append_right _ h)) | exact List.mem_cons_of_mem _ (List.mem_append_left _ (List.mem_append_left _ (List.mem_append_right _ h))) | exact List.mem_cons_of_mem _ (List.mem_append_left _ (List.mem_append_left _ (List.mem_append_left _ (List.mem_append_right _ h)))) | exact List.mem_cons_of_mem _ (List.mem_append_left _ (List.mem_append_left _ (List.mem_append_left _ (List.mem_append_left _ (List.mem_append_right _ h)))))
  refine g_iload_n 1 C rfl dX0_scrape_0 rfl ?_
  refine g_aload_n 0 C rfl dX0_scrape_1 rfl ?_
  refine g_get (C0 := RX0) (T := TX0) (N := 17) 0 0 2 (.int (σ.1 2)) C hin rfl rfl (by decide) (by decide +kernel) rfl dX0_scrape_2 ?_
  refine g_is (nI no) hno ?_
  by_cases c_5_1 : bad x (nI (no))
  ·
    obtain rfl : K = 1 := hK.trans (by simp [th_scrape, c_5_1])
    exact g_callSX (na := 2) (av := [.int (x), .int (nI (no))]) (c_checkNumber l D cI cJ hst _ x (nI (no)) 1 (if_pos c_5_1).symm) C gX0_scrape_X0_checkNumber rfl (by decide +kernel) rfl ⟨by decide, by decide⟩ rfl (Nat.le_of_ble_eq_true rfl) ⟨by decide, by decide⟩ hout (by decide) (by decide) rfl dX0_scrape_5
  refine g_callS0 (na := 2) (av := [.int (x), .int (nI (no))]) (c_checkNumber l D cI cJ hst _ x (nI (no)) 0 (if_neg c_5_1).symm) C gX0_scrape_X0_checkNumber rfl (by decide +kernel) rfl ⟨Nat.le_of_ble_eq_true rfl, Nat.le_of_ble_eq_true rfl⟩ rfl (Nat.le_of_ble_eq_true rfl) ⟨Nat.zero_le _, Nat.zero_le _⟩ rfl dX0_scrape_5 ?_
  obtain ⟨x', hx', rfl⟩ := nb_of (N := no) rfl (by omega) c_5_1
  have kx' : cl (nI x') = x' := cl_nI (by omega)
  refine g_aload_n 0 C rfl dX0_scrape_8 rfl ?_
  refine g_iload_n 1 C rfl dX0_scrape_9 rfl ?_
  refine g_callS0 (na := 1) (av := [.int (nI (x'))]) (c_potRow l D cI cJ _ (nI (x'))) C gX0_scrape_X0_potRow rfl (by decide +kernel) rfl ⟨Nat.le_of_ble_eq_true rfl, Nat.le_of_ble_eq_true rfl⟩ rfl (Nat.le_of_ble_eq_true rfl) ⟨Nat.zero_le _, Nat.zero_le _⟩ rfl dX0_scrape_10 ?_
  refine g_callV0 (C0 := RX0) (T := TX0) (N := 17) (ci := 0) (na := 1) (As := [.int (nI (x'))]) (c_waste l D cI cJ h σ np nt no ni hI0 x' (by omega)) C gX0_scrape_X0_waste rfl (by decide +kernel) rfl ⟨Nat.le_of_ble_eq_true rfl, Nat.le_of_ble_eq_true rfl⟩ rfl rfl rfl (Nat.le_of_ble_eq_true rfl) ⟨Nat.zero_le _, Nat.zero_le _⟩ rfl dX0_scrape_13 ?_
  refine g_w (wA cI h (sA σ 3 (wsL (σ.2 3) x' nt))) rfl ?_
  obtain rfl : K = 0 := hK.trans (by simp [th_scrape, c_5_1, kx'])
  exact g_iret C hr rfl dX0_scrape_16 (Nat.zero_le _) (Nat.zero_le _) rfl (by rw [kx']) (by rw [kx'])
set_option maxRecDepth 100000 in
set_option maxHeartbeats 4000000 in
theorem c_paint (l : Launch) (D : va_G) (cI cJ : ClassId) (hst : l.stackTraces = false) (h : Nat → Nat) (σ : gS) (np nt no ni : Nat) (hI : iA σ np nt no ni) (q x g : Int32) (K : Nat) (hK : K = th_paint σ nt no ni q x g) : MC l yX0_paint wsX0_paint 7 112 D (tyIJ cI cJ) [.ref (h 0), .int (q), .int (x), .int (g)] (wA cI h σ) (wA cI h (s_paint σ nt (cl q) (cl x) g)) (exT K) (some (.int (nI (cl (σ.2 4 (cl q)) + 1)))) (nT K) := by
  have hI0 := hI
  obtain ⟨⟨hnp, hnp6⟩, ⟨hnt, hnt12⟩, ⟨hno, hno10⟩, ⟨hni, hni8⟩, hPT, hLC, hLH⟩ := hI
  refine MC.ofG (cc := cX0_paint) (maxL := 4) (ret := (some .int)) [(0, .ref (h 0)), (1, .int (q)), (2, .int (x)), (3, .int (g))] (by decide) rfl (Nat.le_of_ble_eq_true rfl) rfl ?_
  intro p e s m args below meth c C hr hout
  have hin : ∀ w ∈ wsX00, w ∈ wsX0_paint := fun w h => by first | exact List.mem_cons_of_mem _ (List.mem_append_right _ h) | exact List.mem_cons_of_mem _ (List.mem_append_left _ (List.mem_append_right _ h)) | exact List.mem_cons_of_mem _ (List.mem_append_left _ (List.mem_append_left _ (List.mem_append_right _ h))) | exact List.mem_cons_of_mem _ (List.mem_append_left _ (List.mem_append_left _ (List.mem_append_left _ (List.mem_append_right _ h)))) | exact List.mem_cons_of_mem _ (List.mem_append_left _ (List.mem_append_left _ (List.mem_append_left _ (List.mem_append_left _ (List.mem_append_right _ h)))))
  refine g_iload_n 1 C rfl dX0_paint_0 rfl ?_
  refine g_aload_n 0 C rfl dX0_paint_1 rfl ?_
  refine g_get (C0 := RX0) (T := TX0) (N := 17) 0 0 3 (.int (σ.1 3)) C hin rfl rfl (by decide) (by decide +kernel) rfl dX0_paint_2 ?_
  refine g_is (nI ni) hni ?_
  by_cases c_5_1 : bad q (nI (ni))
  ·
    obtain rfl : K = 1 := hK.trans (by simp [th_paint, c_5_1])
    exact g_callSX (na := 2) (av := [.int (q), .int (nI (ni))]) (c_checkNumber l D cI cJ hst _ q (nI (ni)) 1 (if_pos c_5_1).symm) C gX0_paint_X0_checkNumber rfl (by decide +kernel) rfl ⟨by decide, by decide⟩ rfl (Nat.le_of_ble_eq_true rfl) ⟨by decide, by decide⟩ hout (by decide) (by decide) rfl dX0_paint_5
  refine g_callS0 (na := 2) (av := [.int (q), .int (nI (ni))]) (c_checkNumber l D cI cJ hst _ q (nI (ni)) 0 (if_neg c_5_1).symm) C gX0_paint_X0_checkNumber rfl (by decide +kernel) rfl ⟨Nat.le_of_ble_eq_true rfl, Nat.le_of_ble_eq_true rfl⟩ rfl (Nat.le_of_ble_eq_true rfl) ⟨Nat.zero_le _, Nat.zero_le _⟩ rfl dX0_paint_5 ?_
  obtain ⟨q', hq', rfl⟩ := nb_of (N := ni) rfl (by omega) c_5_1
  have kq' : cl (nI q') = q' := cl_nI (by omega)
  refine g_iload_n 2 C rfl dX0_paint_8 rfl ?_
  refine g_aload_n 0 C rfl dX0_paint_9 rfl ?_
  refine g_get (C0 := RX0) (T := TX0) (N := 17) 0 0 2 (.int (σ.1 2)) C hin rfl rfl (by decide) (by decide +kernel) rfl dX0_paint_10 ?_
  refine g_is (nI no) hno ?_
  by_cases c_13_2 : bad x (nI (no))
  ·
    obtain rfl : K = 1 := hK.trans (by simp [th_paint, c_5_1, c_13_2, kq'])
    exact g_callSX (na := 2) (av := [.int (x), .int (nI (no))]) (c_checkNumber l D cI cJ hst _ x (nI (no)) 1 (if_pos c_13_2).symm) C gX0_paint_X0_checkNumber rfl (by decide +kernel) rfl ⟨by decide, by decide⟩ rfl (Nat.le_of_ble_eq_true rfl) ⟨by decide, by decide⟩ hout (by decide) (by decide) rfl dX0_paint_13
  refine g_callS0 (na := 2) (av := [.int (x), .int (nI (no))]) (c_checkNumber l D cI cJ hst _ x (nI (no)) 0 (if_neg c_13_2).symm) C gX0_paint_X0_checkNumber rfl (by decide +kernel) rfl ⟨Nat.le_of_ble_eq_true rfl, Nat.le_of_ble_eq_true rfl⟩ rfl (Nat.le_of_ble_eq_true rfl) ⟨Nat.zero_le _, Nat.zero_le _⟩ rfl dX0_paint_13 ?_
  obtain ⟨x', hx', rfl⟩ := nb_of (N := no) rfl (by omega) c_13_2
  have kx' : cl (nI x') = x' := cl_nI (by omega)
  refine g_iload_n 3 C rfl dX0_paint_16 rfl ?_
  refine g_iconst 1 C dX0_paint_17 (by decide) ?_
  refine g_sipush 1000 C dX0_paint_18 (by decide) ?_
  by_cases c_21_3 : out (g) (1) (1000)
  ·
    obtain rfl : K = 2 := hK.trans (by simp [th_paint, c_5_1, c_13_2, c_21_3, kq', kx'])
    exact g_callSX (na := 3) (av := [.int (g), .int (1), .int (1000)]) (c_checkRange l D cI cJ hst _ (g) (1) (1000) 2 (if_pos c_21_3).symm) C gX0_paint_X0_checkRange rfl (by decide +kernel) rfl ⟨by decide, by decide⟩ rfl (Nat.le_of_ble_eq_true rfl) ⟨by decide, by decide⟩ hout (by decide) (by decide) rfl dX0_paint_21
  refine g_callS0 (na := 3) (av := [.int (g), .int (1), .int (1000)]) (c_checkRange l D cI cJ hst _ (g) (1) (1000) 0 (if_neg c_21_3).symm) C gX0_paint_X0_checkRange rfl (by decide +kernel) rfl ⟨Nat.le_of_ble_eq_true rfl, Nat.le_of_ble_eq_true rfl⟩ rfl (Nat.le_of_ble_eq_true rfl) ⟨Nat.zero_le _, Nat.zero_le _⟩ rfl dX0_paint_21 ?_
  have hg1 := out_lo c_21_3
  refine g_aload_n 0 C rfl dX0_paint_24 rfl ?_
  refine g_iload_n 1 C rfl dX0_paint_25 rfl ?_
  by_cases c_26_4 : ¬ σ.2 7 q' ≤ 0
  ·
    obtain rfl : K = 3 := hK.trans (by simp [th_paint, c_5_1, c_13_2, c_21_3, c_26_4, kq', kx'])
    exact g_callVX (C0 := RX0) (T := TX0) (N := 17) (ci := 0) (na := 1) (As := [.int (nI (q'))]) (c_checkAtHome l D cI cJ hst h σ np nt no ni hI0 q' (by omega) 3 (if_pos c_26_4).symm) C gX0_paint_X0_checkAtHome rfl (by decide +kernel) rfl ⟨by decide, by decide⟩ rfl rfl rfl (Nat.le_of_ble_eq_true rfl) ⟨by decide, by decide⟩ hout (by decide) (by decide) rfl dX0_paint_26
  refine g_callV0 (C0 := RX0) (T := TX0) (N := 17) (ci := 0) (na := 1) (As := [.int (nI (q'))]) (c_checkAtHome l D cI cJ hst h σ np nt no ni hI0 q' (by omega) 0 (if_neg c_26_4).symm) C gX0_paint_X0_checkAtHome rfl (by decide +kernel) rfl ⟨Nat.le_of_ble_eq_true rfl, Nat.le_of_ble_eq_true rfl⟩ rfl rfl rfl (Nat.le_of_ble_eq_true rfl) ⟨Nat.zero_le _, Nat.zero_le _⟩ rfl dX0_paint_26 ?_
  refine g_aload_n 0 C rfl dX0_paint_29 rfl ?_
  refine g_get (C0 := RX0) (T := TX0) (N := 17) 0 0 9 (.ref (h 5)) C hin rfl rfl (by decide) (by decide +kernel) rfl dX0_paint_30 ?_
  refine g_iload_n 1 C rfl dX0_paint_33 rfl ?_
  refine g_ialdN (cA := cI) (n := 8) (a := h 5) (f := σ.2 4) q' 5 0 C rfl rfl (by omega) (by decide) dX0_paint_34 ?_
  obtain ⟨jL, hjL, ejL⟩ := hLC q'
  refine g_is (nI (jL)) ejL ?_
  refine g_bipush 12 C dX0_paint_35 (by decide) ?_
  refine g_icmp_lt 50 C dX0_paint_37 (by decide) (fun c_37_5 => ?_) (fun c_37_5 => ?_)
  ·
    have d_37_5 : jL < 12 := (nI_ltI (a := jL) (b := 12) (by omega) (by omega)).mp c_37_5
    refine g_aload_n 0 C rfl dX0_paint_50 rfl ?_
    refine g_iload_n 2 C rfl dX0_paint_51 rfl ?_
    refine g_callS0 (na := 1) (av := [.int (nI (x'))]) (c_potRow l D cI cJ _ (nI (x'))) C gX0_paint_X0_potRow rfl (by decide +kernel) rfl ⟨Nat.le_of_ble_eq_true rfl, Nat.le_of_ble_eq_true rfl⟩ rfl (Nat.le_of_ble_eq_true rfl) ⟨Nat.zero_le _, Nat.zero_le _⟩ rfl dX0_paint_52 ?_
    refine g_iload_n 1 C rfl dX0_paint_55 rfl ?_
    refine g_aload_n 0 C rfl dX0_paint_56 rfl ?_
    refine g_get (C0 := RX0) (T := TX0) (N := 17) 0 0 9 (.ref (h 5)) C hin rfl rfl (by decide) (by decide +kernel) rfl dX0_paint_57 ?_
    refine g_iload_n 1 C rfl dX0_paint_60 rfl ?_
    refine g_ialdN (cA := cI) (n := 8) (a := h 5) (f := σ.2 4) q' 5 0 C rfl rfl (by omega) (by decide) dX0_paint_61 ?_
    refine g_is (nI (jL)) ejL ?_
    refine g_callS0 (na := 2) (av := [.int (nI (q')), .int (nI (jL))]) (c_layerRow l D cI cJ _ q' jL) C gX0_paint_X0_layerRow rfl (by decide +kernel) rfl ⟨Nat.le_of_ble_eq_true rfl, Nat.le_of_ble_eq_true rfl⟩ rfl (Nat.le_of_ble_eq_true rfl) ⟨Nat.zero_le _, Nat.zero_le _⟩ rfl dX0_paint_62 ?_
    refine g_iload_n 3 C rfl dX0_paint_65 rfl ?_
    by_cases c_66_6 : rowS (σ.2 3) x' nt < g
    ·
      refine g_callV0 (C0 := RX0) (T := TX0) (N := 17) (ci := 0) (na := 3) (As := [.int (nI (x')), .int (nI (10 + q' * 12 + jL)), .int (g)]) (c_move_no l D cI cJ h σ np nt no ni hI0 x' (10 + q' * 12 + jL) g (by omega) (by omega) c_66_6) C gX0_paint_X0_move rfl (by decide +kernel) rfl ⟨Nat.le_of_ble_eq_true rfl, Nat.le_of_ble_eq_true rfl⟩ rfl rfl rfl (Nat.le_of_ble_eq_true rfl) ⟨Nat.zero_le _, Nat.zero_le _⟩ rfl dX0_paint_66 ?_
      refine g_if_ne 82 C dX0_paint_69 (by decide) (fun q => absurd q (by decide)) (fun _ => ?_)
      obtain rfl : K = 3 := hK.trans (by simp [th_paint, c_5_1, c_13_2, c_21_3, c_26_4, c_37_5, c_66_6, kq', kx', ejL])
      exact g_throw (cls := eISE) (text := "the pot has not so much") C hst rfl (by decide +kernel) (by decide +kernel) (by decide +kernel) (by decide +kernel) (by decide +kernel) (by decide +kernel) (by decide +kernel) hout dX0_paint_72 dX0_paint_75 dX0_paint_76 dX0_paint_78 dX0_paint_81 (by decide) (by decide) (by decide) (by decide) (by decide) (by decide) rfl
    ·
      refine g_callV0 (C0 := RX0) (T := TX0) (N := 17) (ci := 0) (na := 3) (As := [.int (nI (x')), .int (nI (10 + q' * 12 + jL)), .int (g)]) (c_move_ok l D cI cJ h σ np nt no ni hI0 x' (10 + q' * 12 + jL) g (by omega) (by omega) hg1 c_66_6) C gX0_paint_X0_move rfl (by decide +kernel) rfl ⟨Nat.le_of_ble_eq_true rfl, Nat.le_of_ble_eq_true rfl⟩ rfl rfl rfl (Nat.le_of_ble_eq_true rfl) ⟨Nat.zero_le _, Nat.zero_le _⟩ rfl dX0_paint_66 ?_
      refine g_w (wA cI h (sA σ 3 (mvS σ nt x' (10 + q' * 12 + jL) g))) rfl ?_
      refine g_if_ne 82 C dX0_paint_69 (by decide) (fun _ => ?_) (fun q => absurd q (by decide))
      refine g_aload_n 0 C rfl dX0_paint_82 rfl ?_
      refine g_get (C0 := RX0) (T := TX0) (N := 17) 0 0 9 (.ref (h 5)) C hin rfl rfl (by decide) (by decide +kernel) rfl dX0_paint_83 ?_
      refine g_iload_n 1 C rfl dX0_paint_86 rfl ?_
      refine g_dup2 C dX0_paint_87 rfl rfl ?_
      refine g_ialdN (cA := cI) (n := 8) (a := h 5) (f := σ.2 4) q' 5 0 C rfl rfl (by omega) (by decide) dX0_paint_88 ?_
      refine g_is (nI (jL)) ejL ?_
      refine g_iconst 1 C dX0_paint_89 (by decide) ?_
      refine g_iaddN jL 1 C dX0_paint_90 ?_
      refine g_iastN (cA := cI) (n := 8) (a := h 5) (f := σ.2 4) (x := nI (jL + 1)) q' 5 0 (wA cI h (sA (sA σ 3 (mvS σ nt x' (10 + q' * 12 + jL) g)) 4 (upd (σ.2 4) q' (nI (jL + 1))))) C rfl rfl (by omega) (by decide) rfl dX0_paint_91 ?_
      refine g_aload_n 0 C rfl dX0_paint_92 rfl ?_
      refine g_get (C0 := RX0) (T := TX0) (N := 17) 0 0 9 (.ref (h 5)) C hin rfl rfl (by decide) (by decide +kernel) rfl dX0_paint_93 ?_
      refine g_iload_n 1 C rfl dX0_paint_96 rfl ?_
      refine g_ialdN (cA := cI) (n := 8) (a := h 5) (f := upd (σ.2 4) q' (nI (jL + 1))) q' 5 0 C rfl rfl (by omega) (by decide) dX0_paint_97 ?_
      refine g_is (nI (jL + 1)) pk_us ?_
      obtain rfl : K = 0 := hK.trans (by simp [th_paint, c_5_1, c_13_2, c_21_3, c_26_4, c_37_5, c_66_6, kq', kx', ejL])
      exact g_iret C hr rfl dX0_paint_98 (Nat.zero_le _) (Nat.zero_le _) rfl (by rw [kq', ejL, cl_nI (by omega)]) (by rw [kq', kx']; simp only [s_paint, ejL, cl_nI (show jL < 2 ^ 31 by omega)])
  ·
    have d_37_5 : ¬ jL < 12 := fun q => c_37_5 ((nI_ltI (a := jL) (b := 12) (by omega) (by omega)).mpr q)
    obtain rfl : K = 3 := hK.trans (by simp [th_paint, c_5_1, c_13_2, c_21_3, c_26_4, c_37_5, kq', kx', ejL])
    exact g_throw (cls := eISE) (text := "no more layers") C hst rfl (by decide +kernel) (by decide +kernel) (by decide +kernel) (by decide +kernel) (by decide +kernel) (by decide +kernel) (by decide +kernel) hout dX0_paint_40 dX0_paint_43 dX0_paint_44 dX0_paint_46 dX0_paint_49 (by decide) (by decide) (by decide) (by decide) (by decide) (by decide) rfl
set_option maxRecDepth 100000 in
set_option maxHeartbeats 4000000 in
theorem c_damp (l : Launch) (D : va_G) (cI cJ : ClassId) (hst : l.stackTraces = false) (h : Nat → Nat) (σ : gS) (np nt no ni : Nat) (hI : iA σ np nt no ni) (x d : Int32) (K : Nat) (hK : K = th_damp x d) : MC l yX0_damp wsX0_damp 7 112 D (tyIJ cI cJ) [.ref (h 0), .int (x), .int (d)] (wA cI h σ) (wA cI h (sA σ 10 (upd (σ.2 10) (cl x) d))) (exT K) (some (.int (σ.2 10 (cl x)))) (nT K) := by
  have hI0 := hI
  obtain ⟨⟨hnp, hnp6⟩, ⟨hnt, hnt12⟩, ⟨hno, hno10⟩, ⟨hni, hni8⟩, hPT, hLC, hLH⟩ := hI
  refine MC.ofG (cc := cX0_damp) (maxL := 4) (ret := (some .int)) [(0, .ref (h 0)), (1, .int (x)), (2, .int (d))] (by decide) rfl (Nat.le_of_ble_eq_true rfl) rfl ?_
  intro p e s m args below meth c C hr hout
  have hin : ∀ w ∈ wsX00, w ∈ wsX0_damp := fun w h => by first | exact List.mem_cons_of_mem _ (List.mem_append_right _ h) | exact List.mem_cons_of_mem _ (List.mem_append_left _ (List.mem_append_right _ h)) | exact List.mem_cons_of_mem _ (List.mem_append_left _ (List.mem_append_left _ (List.mem_append_right _ h))) | exact List.mem_cons_of_mem _ (List.mem_append_left _ (List.mem_append_left _ (List.mem_append_left _ (List.mem_append_right _ h)))) | exact List.mem_cons_of_mem _ (List.mem_append_left _ (List.mem_append_left _ (List.mem_append_left _ (List.mem_append_left _ (List.mem_append_right _ h)))))
  refine g_iload_n 1 C rfl dX0_damp_0 rfl ?_
  refine g_iconst 4 C dX0_damp_1 (by decide) ?_
  by_cases c_2_1 : bad x (4)
  ·
    obtain rfl : K = 1 := hK.trans (by simp [th_damp, c_2_1])
    exact g_callSX (na := 2) (av := [.int (x), .int (4)]) (c_checkNumber l D cI cJ hst _ x (4) 1 (if_pos c_2_1).symm) C gX0_damp_X0_checkNumber rfl (by decide +kernel) rfl ⟨by decide, by decide⟩ rfl (Nat.le_of_ble_eq_true rfl) ⟨by decide, by decide⟩ hout (by decide) (by decide) rfl dX0_damp_2
  refine g_callS0 (na := 2) (av := [.int (x), .int (4)]) (c_checkNumber l D cI cJ hst _ x (4) 0 (if_neg c_2_1).symm) C gX0_damp_X0_checkNumber rfl (by decide +kernel) rfl ⟨Nat.le_of_ble_eq_true rfl, Nat.le_of_ble_eq_true rfl⟩ rfl (Nat.le_of_ble_eq_true rfl) ⟨Nat.zero_le _, Nat.zero_le _⟩ rfl dX0_damp_2 ?_
  obtain ⟨x', hx', rfl⟩ := nb_of (N := 4) rfl (by omega) c_2_1
  have kx' : cl (nI x') = x' := cl_nI (by omega)
  refine g_iload_n 2 C rfl dX0_damp_5 rfl ?_
  refine g_iconst 0 C dX0_damp_6 (by decide) ?_
  refine g_bipush 100 C dX0_damp_7 (by decide) ?_
  by_cases c_9_2 : out (d) (0) (100)
  ·
    obtain rfl : K = 2 := hK.trans (by simp [th_damp, c_2_1, c_9_2, kx'])
    exact g_callSX (na := 3) (av := [.int (d), .int (0), .int (100)]) (c_checkRange l D cI cJ hst _ (d) (0) (100) 2 (if_pos c_9_2).symm) C gX0_damp_X0_checkRange rfl (by decide +kernel) rfl ⟨by decide, by decide⟩ rfl (Nat.le_of_ble_eq_true rfl) ⟨by decide, by decide⟩ hout (by decide) (by decide) rfl dX0_damp_9
  refine g_callS0 (na := 3) (av := [.int (d), .int (0), .int (100)]) (c_checkRange l D cI cJ hst _ (d) (0) (100) 0 (if_neg c_9_2).symm) C gX0_damp_X0_checkRange rfl (by decide +kernel) rfl ⟨Nat.le_of_ble_eq_true rfl, Nat.le_of_ble_eq_true rfl⟩ rfl (Nat.le_of_ble_eq_true rfl) ⟨Nat.zero_le _, Nat.zero_le _⟩ rfl dX0_damp_9 ?_
  have hd1 := out_lo c_9_2
  refine g_aload_n 0 C rfl dX0_damp_12 rfl ?_
  refine g_get (C0 := RX0) (T := TX0) (N := 17) 0 0 15 (.ref (h 11)) C hin rfl rfl (by decide) (by decide +kernel) rfl dX0_damp_13 ?_
  refine g_iload_n 1 C rfl dX0_damp_16 rfl ?_
  refine g_ialdN (cA := cI) (n := 4) (a := h 11) (f := σ.2 10) x' 11 0 C rfl rfl (by omega) (by decide) dX0_damp_17 ?_
  refine g_istore_n [(3, .int (σ.2 10 x')), (0, .ref (h 0)), (1, .int (nI (x'))), (2, .int (d))] C dX0_damp_18 rfl (by decide) rfl ?_
  refine g_aload_n 1 C rfl dX0_damp_19 rfl ?_
  refine g_get (C0 := RX0) (T := TX0) (N := 17) 0 0 15 (.ref (h 11)) C hin rfl rfl (by decide) (by decide +kernel) rfl dX0_damp_20 ?_
  refine g_iload_n 2 C rfl dX0_damp_23 rfl ?_
  refine g_iload_n 3 C rfl dX0_damp_24 rfl ?_
  refine g_iastN (cA := cI) (n := 4) (a := h 11) (f := σ.2 10) (x := d) x' 11 0 (wA cI h (sA σ 10 (upd (σ.2 10) x' (d)))) C rfl rfl (by omega) (by decide) rfl dX0_damp_25 ?_
  refine g_iload_n 0 C rfl dX0_damp_26 rfl ?_
  obtain rfl : K = 0 := hK.trans (by simp [th_damp, c_2_1, c_9_2, kx'])
  exact g_iret C hr rfl dX0_damp_27 (Nat.zero_le _) (Nat.zero_le _) rfl (by rw [kx']) (by rw [kx'])
set_option maxRecDepth 100000 in
set_option maxHeartbeats 4000000 in
theorem c_lend (l : Launch) (D : va_G) (cI cJ : ClassId) (hst : l.stackTraces = false) (h : Nat → Nat) (σ : gS) (np nt no ni : Nat) (hI : iA σ np nt no ni) (q x d : Int32) (K : Nat) (hK : K = th_lend σ ni q x d) : MC l yX0_lend wsX0_lend 7 139 D (tyIJ cI cJ) [.ref (h 0), .int (q), .int (x), .int (d)] (wA cI h σ) (wA cI h (s_lend σ np nt ni (cl q) (cl x) d)) (exT K) (some (.int (valA σ np nt ni (cl q) / 100 + 1))) (nT K) := by
  have hI0 := hI
  obtain ⟨⟨hnp, hnp6⟩, ⟨hnt, hnt12⟩, ⟨hno, hno10⟩, ⟨hni, hni8⟩, hPT, hLC, hLH⟩ := hI
  refine MC.ofG (cc := cX0_lend) (maxL := 4) (ret := (some .int)) [(0, .ref (h 0)), (1, .int (q)), (2, .int (x)), (3, .int (d))] (by decide) rfl (Nat.le_of_ble_eq_true rfl) rfl ?_
  intro p e s m args below meth c C hr hout
  have hin : ∀ w ∈ wsX00, w ∈ wsX0_lend := fun w h => by first | exact List.mem_cons_of_mem _ (List.mem_append_right _ h) | exact List.mem_cons_of_mem _ (List.mem_append_left _ (List.mem_append_right _ h)) | exact List.mem_cons_of_mem _ (List.mem_append_left _ (List.mem_append_left _ (List.mem_append_right _ h))) | exact List.mem_cons_of_mem _ (List.mem_append_left _ (List.mem_append_left _ (List.mem_append_left _ (List.mem_append_right _ h)))) | exact List.mem_cons_of_mem _ (List.mem_append_left _ (List.mem_append_left _ (List.mem_append_left _ (List.mem_append_left _ (List.mem_append_right _ h)))))
  refine g_iload_n 1 C rfl dX0_lend_0 rfl ?_
  refine g_aload_n 0 C rfl dX0_lend_1 rfl ?_
  refine g_get (C0 := RX0) (T := TX0) (N := 17) 0 0 3 (.int (σ.1 3)) C hin rfl rfl (by decide) (by decide +kernel) rfl dX0_lend_2 ?_
  refine g_is (nI ni) hni ?_
  by_cases c_5_1 : bad q (nI (ni))
  ·
    obtain rfl : K = 1 := hK.trans (by simp [th_lend, c_5_1])
    exact g_callSX (na := 2) (av := [.int (q), .int (nI (ni))]) (c_checkNumber l D cI cJ hst _ q (nI (ni)) 1 (if_pos c_5_1).symm) C gX0_lend_X0_checkNumber rfl (by decide +kernel) rfl ⟨by decide, by decide⟩ rfl (Nat.le_of_ble_eq_true rfl) ⟨by decide, by decide⟩ hout (by decide) (by decide) rfl dX0_lend_5
  refine g_callS0 (na := 2) (av := [.int (q), .int (nI (ni))]) (c_checkNumber l D cI cJ hst _ q (nI (ni)) 0 (if_neg c_5_1).symm) C gX0_lend_X0_checkNumber rfl (by decide +kernel) rfl ⟨Nat.le_of_ble_eq_true rfl, Nat.le_of_ble_eq_true rfl⟩ rfl (Nat.le_of_ble_eq_true rfl) ⟨Nat.zero_le _, Nat.zero_le _⟩ rfl dX0_lend_5 ?_
  obtain ⟨q', hq', rfl⟩ := nb_of (N := ni) rfl (by omega) c_5_1
  have kq' : cl (nI q') = q' := cl_nI (by omega)
  refine g_iload_n 2 C rfl dX0_lend_8 rfl ?_
  refine g_iconst 4 C dX0_lend_9 (by decide) ?_
  by_cases c_10_2 : bad x (4)
  ·
    obtain rfl : K = 1 := hK.trans (by simp [th_lend, c_5_1, c_10_2, kq'])
    exact g_callSX (na := 2) (av := [.int (x), .int (4)]) (c_checkNumber l D cI cJ hst _ x (4) 1 (if_pos c_10_2).symm) C gX0_lend_X0_checkNumber rfl (by decide +kernel) rfl ⟨by decide, by decide⟩ rfl (Nat.le_of_ble_eq_true rfl) ⟨by decide, by decide⟩ hout (by decide) (by decide) rfl dX0_lend_10
  refine g_callS0 (na := 2) (av := [.int (x), .int (4)]) (c_checkNumber l D cI cJ hst _ x (4) 0 (if_neg c_10_2).symm) C gX0_lend_X0_checkNumber rfl (by decide +kernel) rfl ⟨Nat.le_of_ble_eq_true rfl, Nat.le_of_ble_eq_true rfl⟩ rfl (Nat.le_of_ble_eq_true rfl) ⟨Nat.zero_le _, Nat.zero_le _⟩ rfl dX0_lend_10 ?_
  obtain ⟨x', hx', rfl⟩ := nb_of (N := 4) rfl (by omega) c_10_2
  have kx' : cl (nI x') = x' := cl_nI (by omega)
  refine g_iload_n 3 C rfl dX0_lend_13 rfl ?_
  refine g_iconst 1 C dX0_lend_14 (by decide) ?_
  refine g_bipush 100 C dX0_lend_15 (by decide) ?_
  by_cases c_17_3 : out (d) (1) (100)
  ·
    obtain rfl : K = 2 := hK.trans (by simp [th_lend, c_5_1, c_10_2, c_17_3, kq', kx'])
    exact g_callSX (na := 3) (av := [.int (d), .int (1), .int (100)]) (c_checkRange l D cI cJ hst _ (d) (1) (100) 2 (if_pos c_17_3).symm) C gX0_lend_X0_checkRange rfl (by decide +kernel) rfl ⟨by decide, by decide⟩ rfl (Nat.le_of_ble_eq_true rfl) ⟨by decide, by decide⟩ hout (by decide) (by decide) rfl dX0_lend_17
  refine g_callS0 (na := 3) (av := [.int (d), .int (1), .int (100)]) (c_checkRange l D cI cJ hst _ (d) (1) (100) 0 (if_neg c_17_3).symm) C gX0_lend_X0_checkRange rfl (by decide +kernel) rfl ⟨Nat.le_of_ble_eq_true rfl, Nat.le_of_ble_eq_true rfl⟩ rfl (Nat.le_of_ble_eq_true rfl) ⟨Nat.zero_le _, Nat.zero_le _⟩ rfl dX0_lend_17 ?_
  have hd1 := out_lo c_17_3
  refine g_aload_n 0 C rfl dX0_lend_20 rfl ?_
  refine g_iload_n 1 C rfl dX0_lend_21 rfl ?_
  by_cases c_22_4 : ¬ σ.2 7 q' ≤ 0
  ·
    obtain rfl : K = 3 := hK.trans (by simp [th_lend, c_5_1, c_10_2, c_17_3, c_22_4, kq', kx'])
    exact g_callVX (C0 := RX0) (T := TX0) (N := 17) (ci := 0) (na := 1) (As := [.int (nI (q'))]) (c_checkAtHome l D cI cJ hst h σ np nt no ni hI0 q' (by omega) 3 (if_pos c_22_4).symm) C gX0_lend_X0_checkAtHome rfl (by decide +kernel) rfl ⟨by decide, by decide⟩ rfl rfl rfl (Nat.le_of_ble_eq_true rfl) ⟨by decide, by decide⟩ hout (by decide) (by decide) rfl dX0_lend_22
  refine g_callV0 (C0 := RX0) (T := TX0) (N := 17) (ci := 0) (na := 1) (As := [.int (nI (q'))]) (c_checkAtHome l D cI cJ hst h σ np nt no ni hI0 q' (by omega) 0 (if_neg c_22_4).symm) C gX0_lend_X0_checkAtHome rfl (by decide +kernel) rfl ⟨Nat.le_of_ble_eq_true rfl, Nat.le_of_ble_eq_true rfl⟩ rfl rfl rfl (Nat.le_of_ble_eq_true rfl) ⟨Nat.zero_le _, Nat.zero_le _⟩ rfl dX0_lend_22 ?_
  refine g_aload_n 0 C rfl dX0_lend_25 rfl ?_
  refine g_get (C0 := RX0) (T := TX0) (N := 17) 0 0 10 (.ref (h 6)) C hin rfl rfl (by decide) (by decide +kernel) rfl dX0_lend_26 ?_
  refine g_iload_n 1 C rfl dX0_lend_29 rfl ?_
  refine g_ialdN (cA := cI) (n := 8) (a := h 6) (f := σ.2 5) q' 6 0 C rfl rfl (by omega) (by decide) dX0_lend_30 ?_
  refine g_bipush 10 C dX0_lend_31 (by decide) ?_
  refine g_icmp_lt 46 C dX0_lend_33 (by decide) (fun c_33_5 => ?_) (fun c_33_5 => ?_)
  ·
    refine g_aload_n 0 C rfl dX0_lend_46 rfl ?_
    refine g_get (C0 := RX0) (T := TX0) (N := 17) 0 0 14 (.ref (h 10)) C hin rfl rfl (by decide) (by decide +kernel) rfl dX0_lend_47 ?_
    refine g_iload_n 1 C rfl dX0_lend_50 rfl ?_
    refine g_aload_n 0 C rfl dX0_lend_51 rfl ?_
    refine g_iload_n 1 C rfl dX0_lend_52 rfl ?_
    refine g_callV0 (C0 := RX0) (T := TX0) (N := 17) (ci := 0) (na := 1) (As := [.int (nI (q'))]) (c_valueOf l D cI cJ h σ np nt no ni hI0 q' (by omega)) C gX0_lend_X0_valueOf rfl (by decide +kernel) rfl ⟨Nat.le_of_ble_eq_true rfl, Nat.le_of_ble_eq_true rfl⟩ rfl rfl rfl (Nat.le_of_ble_eq_true rfl) ⟨Nat.zero_le _, Nat.zero_le _⟩ rfl dX0_lend_53 ?_
    refine g_bipush 100 C dX0_lend_56 (by decide) ?_
    refine g_idiv C (by decide) dX0_lend_58 ?_
    refine g_iconst 1 C dX0_lend_59 (by decide) ?_
    refine g_iadd C dX0_lend_60 ?_
    refine g_iastN (cA := cI) (n := 8) (a := h 10) (f := σ.2 9) (x := (((valA σ np nt ni q') / 100) + 1)) q' 10 0 (wA cI h (sA σ 9 (upd (σ.2 9) q' ((((valA σ np nt ni q') / 100) + 1))))) C rfl rfl (by omega) (by decide) rfl dX0_lend_61 ?_
    refine g_aload_n 0 C rfl dX0_lend_62 rfl ?_
    refine g_get (C0 := RX0) (T := TX0) (N := 17) 0 0 13 (.ref (h 9)) C hin rfl rfl (by decide) (by decide +kernel) rfl dX0_lend_63 ?_
    refine g_iload_n 1 C rfl dX0_lend_66 rfl ?_
    refine g_iload_n 2 C rfl dX0_lend_67 rfl ?_
    refine g_iastN (cA := cI) (n := 8) (a := h 9) (f := σ.2 8) (x := nI (x')) q' 9 0 (wA cI h (sA (sA σ 9 (upd (σ.2 9) q' ((((valA σ np nt ni q') / 100) + 1)))) 8 (upd (σ.2 8) q' (nI (x'))))) C rfl rfl (by omega) (by decide) rfl dX0_lend_68 ?_
    refine g_aload_n 0 C rfl dX0_lend_69 rfl ?_
    refine g_get (C0 := RX0) (T := TX0) (N := 17) 0 0 12 (.ref (h 8)) C hin rfl rfl (by decide) (by decide +kernel) rfl dX0_lend_70 ?_
    refine g_iload_n 1 C rfl dX0_lend_73 rfl ?_
    refine g_iload_n 3 C rfl dX0_lend_74 rfl ?_
    refine g_iastN (cA := cI) (n := 8) (a := h 8) (f := σ.2 7) (x := d) q' 8 0 (wA cI h (sA (sA (sA σ 9 (upd (σ.2 9) q' ((((valA σ np nt ni q') / 100) + 1)))) 8 (upd (σ.2 8) q' (nI (x')))) 7 (upd (σ.2 7) q' (d)))) C rfl rfl (by omega) (by decide) rfl dX0_lend_75 ?_
    refine g_aload_n 0 C rfl dX0_lend_76 rfl ?_
    refine g_get (C0 := RX0) (T := TX0) (N := 17) 0 0 14 (.ref (h 10)) C hin rfl rfl (by decide) (by decide +kernel) rfl dX0_lend_77 ?_
    refine g_iload_n 1 C rfl dX0_lend_80 rfl ?_
    refine g_ialdN (cA := cI) (n := 8) (a := h 10) (f := upd (σ.2 9) q' ((((valA σ np nt ni q') / 100) + 1))) q' 10 0 C rfl rfl (by omega) (by decide) dX0_lend_81 ?_
    refine g_is ((((valA σ np nt ni q') / 100) + 1)) pk_us ?_
    obtain rfl : K = 0 := hK.trans (by simp [th_lend, c_5_1, c_10_2, c_17_3, c_22_4, c_33_5, kq', kx'])
    exact g_iret C hr rfl dX0_lend_82 (Nat.zero_le _) (Nat.zero_le _) rfl (by rw [kq']) (by rw [kq', kx']; rfl)
  ·
    obtain rfl : K = 3 := hK.trans (by simp [th_lend, c_5_1, c_10_2, c_17_3, c_22_4, c_33_5, kq', kx'])
    exact g_throw (cls := eISE) (text := "the picture has too many cracks") C hst rfl (by decide +kernel) (by decide +kernel) (by decide +kernel) (by decide +kernel) (by decide +kernel) (by decide +kernel) (by decide +kernel) hout dX0_lend_36 dX0_lend_39 dX0_lend_40 dX0_lend_42 dX0_lend_45 (by decide) (by decide) (by decide) (by decide) (by decide) (by decide) rfl
set_option maxRecDepth 100000 in
set_option maxHeartbeats 4000000 in
theorem c_sell (l : Launch) (D : va_G) (cI cJ : ClassId) (hst : l.stackTraces = false) (h : Nat → Nat) (σ : gS) (np nt no ni : Nat) (hI : iA σ np nt no ni) (q x : Int32) (K : Nat) (hK : K = th_sell σ ni q x) : MC l yX0_sell wsX0_sell 7 139 D (tyIJ cI cJ) [.ref (h 0), .int (q), .int (x)] (wA cI h σ) (wA cI h (s_sell σ (cl q) x)) (exT K) (some (.int (valA (s_sell σ (cl q) x) np nt ni (cl q)))) (nT K) := by
  have hI0 := hI
  obtain ⟨⟨hnp, hnp6⟩, ⟨hnt, hnt12⟩, ⟨hno, hno10⟩, ⟨hni, hni8⟩, hPT, hLC, hLH⟩ := hI
  refine MC.ofG (cc := cX0_sell) (maxL := 3) (ret := (some .int)) [(0, .ref (h 0)), (1, .int (q)), (2, .int (x))] (by decide) rfl (Nat.le_of_ble_eq_true rfl) rfl ?_
  intro p e s m args below meth c C hr hout
  have hin : ∀ w ∈ wsX00, w ∈ wsX0_sell := fun w h => by first | exact List.mem_cons_of_mem _ (List.mem_append_right _ h) | exact List.mem_cons_of_mem _ (List.mem_append_left _ (List.mem_append_right _ h)) | exact List.mem_cons_of_mem _ (List.mem_append_left _ (List.mem_append_left _ (List.mem_append_right _ h))) | exact List.mem_cons_of_mem _ (List.mem_append_left _ (List.mem_append_left _ (List.mem_append_left _ (List.mem_append_right _ h)))) | exact List.mem_cons_of_mem _ (List.mem_append_left _ (List.mem_append_left _ (List.mem_append_left _ (List.mem_append_left _ (List.mem_append_right _ h)))))
  refine g_iload_n 1 C rfl dX0_sell_0 rfl ?_
  refine g_aload_n 0 C rfl dX0_sell_1 rfl ?_
  refine g_get (C0 := RX0) (T := TX0) (N := 17) 0 0 3 (.int (σ.1 3)) C hin rfl rfl (by decide) (by decide +kernel) rfl dX0_sell_2 ?_
  refine g_is (nI ni) hni ?_
  by_cases c_5_1 : bad q (nI (ni))
  ·
    obtain rfl : K = 1 := hK.trans (by simp [th_sell, c_5_1])
    exact g_callSX (na := 2) (av := [.int (q), .int (nI (ni))]) (c_checkNumber l D cI cJ hst _ q (nI (ni)) 1 (if_pos c_5_1).symm) C gX0_sell_X0_checkNumber rfl (by decide +kernel) rfl ⟨by decide, by decide⟩ rfl (Nat.le_of_ble_eq_true rfl) ⟨by decide, by decide⟩ hout (by decide) (by decide) rfl dX0_sell_5
  refine g_callS0 (na := 2) (av := [.int (q), .int (nI (ni))]) (c_checkNumber l D cI cJ hst _ q (nI (ni)) 0 (if_neg c_5_1).symm) C gX0_sell_X0_checkNumber rfl (by decide +kernel) rfl ⟨Nat.le_of_ble_eq_true rfl, Nat.le_of_ble_eq_true rfl⟩ rfl (Nat.le_of_ble_eq_true rfl) ⟨Nat.zero_le _, Nat.zero_le _⟩ rfl dX0_sell_5 ?_
  obtain ⟨q', hq', rfl⟩ := nb_of (N := ni) rfl (by omega) c_5_1
  have kq' : cl (nI q') = q' := cl_nI (by omega)
  refine g_iload_n 2 C rfl dX0_sell_8 rfl ?_
  refine g_iconst 1 C dX0_sell_9 (by decide) ?_
  refine g_ldc 100000 C (by decide +kernel) dX0_sell_10 ?_
  by_cases c_12_2 : out (x) (1) (100000)
  ·
    obtain rfl : K = 2 := hK.trans (by simp [th_sell, c_5_1, c_12_2, kq'])
    exact g_callSX (na := 3) (av := [.int (x), .int (1), .int (100000)]) (c_checkRange l D cI cJ hst _ (x) (1) (100000) 2 (if_pos c_12_2).symm) C gX0_sell_X0_checkRange rfl (by decide +kernel) rfl ⟨by decide, by decide⟩ rfl (Nat.le_of_ble_eq_true rfl) ⟨by decide, by decide⟩ hout (by decide) (by decide) rfl dX0_sell_12
  refine g_callS0 (na := 3) (av := [.int (x), .int (1), .int (100000)]) (c_checkRange l D cI cJ hst _ (x) (1) (100000) 0 (if_neg c_12_2).symm) C gX0_sell_X0_checkRange rfl (by decide +kernel) rfl ⟨Nat.le_of_ble_eq_true rfl, Nat.le_of_ble_eq_true rfl⟩ rfl (Nat.le_of_ble_eq_true rfl) ⟨Nat.zero_le _, Nat.zero_le _⟩ rfl dX0_sell_12 ?_
  have hx1 := out_lo c_12_2
  refine g_aload_n 0 C rfl dX0_sell_15 rfl ?_
  refine g_iload_n 1 C rfl dX0_sell_16 rfl ?_
  by_cases c_17_3 : ¬ σ.2 7 q' ≤ 0
  ·
    obtain rfl : K = 3 := hK.trans (by simp [th_sell, c_5_1, c_12_2, c_17_3, kq'])
    exact g_callVX (C0 := RX0) (T := TX0) (N := 17) (ci := 0) (na := 1) (As := [.int (nI (q'))]) (c_checkAtHome l D cI cJ hst h σ np nt no ni hI0 q' (by omega) 3 (if_pos c_17_3).symm) C gX0_sell_X0_checkAtHome rfl (by decide +kernel) rfl ⟨by decide, by decide⟩ rfl rfl rfl (Nat.le_of_ble_eq_true rfl) ⟨by decide, by decide⟩ hout (by decide) (by decide) rfl dX0_sell_17
  refine g_callV0 (C0 := RX0) (T := TX0) (N := 17) (ci := 0) (na := 1) (As := [.int (nI (q'))]) (c_checkAtHome l D cI cJ hst h σ np nt no ni hI0 q' (by omega) 0 (if_neg c_17_3).symm) C gX0_sell_X0_checkAtHome rfl (by decide +kernel) rfl ⟨Nat.le_of_ble_eq_true rfl, Nat.le_of_ble_eq_true rfl⟩ rfl rfl rfl (Nat.le_of_ble_eq_true rfl) ⟨Nat.zero_le _, Nat.zero_le _⟩ rfl dX0_sell_17 ?_
  refine g_aload_n 0 C rfl dX0_sell_20 rfl ?_
  refine g_get (C0 := RX0) (T := TX0) (N := 17) 0 0 9 (.ref (h 5)) C hin rfl rfl (by decide) (by decide +kernel) rfl dX0_sell_21 ?_
  refine g_iload_n 1 C rfl dX0_sell_24 rfl ?_
  refine g_ialdN (cA := cI) (n := 8) (a := h 5) (f := σ.2 4) q' 5 0 C rfl rfl (by omega) (by decide) dX0_sell_25 ?_
  refine g_if_ne 39 C dX0_sell_26 (by decide) (fun c_26_4 => ?_) (fun c_26_4 => ?_)
  ·
    refine g_aload_n 0 C rfl dX0_sell_39 rfl ?_
    refine g_get (C0 := RX0) (T := TX0) (N := 17) 0 0 11 (.ref (h 7)) C hin rfl rfl (by decide) (by decide +kernel) rfl dX0_sell_40 ?_
    refine g_iload_n 1 C rfl dX0_sell_43 rfl ?_
    refine g_iload_n 2 C rfl dX0_sell_44 rfl ?_
    refine g_iastN (cA := cI) (n := 8) (a := h 7) (f := σ.2 6) (x := x) q' 7 0 (wA cI h (sA σ 6 (upd (σ.2 6) q' (x)))) C rfl rfl (by omega) (by decide) rfl dX0_sell_45 ?_
    refine g_aload_n 0 C rfl dX0_sell_46 rfl ?_
    refine g_iload_n 1 C rfl dX0_sell_47 rfl ?_
    refine g_callV0 (C0 := RX0) (T := TX0) (N := 17) (ci := 0) (na := 1) (As := [.int (nI (q'))]) (c_valueOf l D cI cJ h (sA σ 6 (upd (σ.2 6) q' (x))) np nt no ni hI0 q' (by omega)) C gX0_sell_X0_valueOf rfl (by decide +kernel) rfl ⟨Nat.le_of_ble_eq_true rfl, Nat.le_of_ble_eq_true rfl⟩ rfl rfl rfl (Nat.le_of_ble_eq_true rfl) ⟨Nat.zero_le _, Nat.zero_le _⟩ rfl dX0_sell_48 ?_
    obtain rfl : K = 0 := hK.trans (by simp [th_sell, c_5_1, c_12_2, c_17_3, c_26_4, kq'])
    exact g_iret C hr rfl dX0_sell_51 (Nat.zero_le _) (Nat.zero_le _) rfl (by rw [kq']; rfl) (by rw [kq']; rfl)
  ·
    obtain rfl : K = 3 := hK.trans (by simp [th_sell, c_5_1, c_12_2, c_17_3, c_26_4, kq'])
    exact g_throw (cls := eISE) (text := "the picture has no layer") C hst rfl (by decide +kernel) (by decide +kernel) (by decide +kernel) (by decide +kernel) (by decide +kernel) (by decide +kernel) (by decide +kernel) hout dX0_sell_29 dX0_sell_32 dX0_sell_33 dX0_sell_35 dX0_sell_38 (by decide) (by decide) (by decide) (by decide) (by decide) (by decide) rfl
set_option maxRecDepth 100000 in
set_option maxHeartbeats 4000000 in
theorem c_left (l : Launch) (D : va_G) (cI cJ : ClassId) (hst : l.stackTraces = false) (h : Nat → Nat) (σ : gS) (np nt no ni : Nat) (hI : iA σ np nt no ni) (t : Int32) (K : Nat) (hK : K = th_left nt t) : MC l yX0_left wsX0_left 7 111 D (tyIJ cI cJ) [.ref (h 0), .int (t)] (wA cI h σ) (wA cI h σ) (exT K) (some (.int (σ.2 2 (cl t)))) (nT K) := by
  have hI0 := hI
  obtain ⟨⟨hnp, hnp6⟩, ⟨hnt, hnt12⟩, ⟨hno, hno10⟩, ⟨hni, hni8⟩, hPT, hLC, hLH⟩ := hI
  refine MC.ofG (cc := cX0_left) (maxL := 2) (ret := (some .int)) [(0, .ref (h 0)), (1, .int (t))] (by decide) rfl (Nat.le_of_ble_eq_true rfl) rfl ?_
  intro p e s m args below meth c C hr hout
  have hin : ∀ w ∈ wsX00, w ∈ wsX0_left := fun w h => by first | exact List.mem_cons_of_mem _ (List.mem_append_right _ h) | exact List.mem_cons_of_mem _ (List.mem_append_left _ (List.mem_append_right _ h)) | exact List.mem_cons_of_mem _ (List.mem_append_left _ (List.mem_append_left _ (List.mem_append_right _ h))) | exact List.mem_cons_of_mem _ (List.mem_append_left _ (List.mem_append_left _ (List.mem_append_left _ (List.mem_append_right _ h)))) | exact List.mem_cons_of_mem _ (List.mem_append_left _ (List.mem_append_left _ (List.mem_append_left _ (List.mem_append_left _ (List.mem_append_right _ h)))))
  refine g_iload_n 1 C rfl dX0_left_0 rfl ?_
  refine g_aload_n 0 C rfl dX0_left_1 rfl ?_
  refine g_get (C0 := RX0) (T := TX0) (N := 17) 0 0 1 (.int (σ.1 1)) C hin rfl rfl (by decide) (by decide +kernel) rfl dX0_left_2 ?_
  refine g_is (nI nt) hnt ?_
  by_cases c_5_1 : bad t (nI (nt))
  ·
    obtain rfl : K = 1 := hK.trans (by simp [th_left, c_5_1])
    exact g_callSX (na := 2) (av := [.int (t), .int (nI (nt))]) (c_checkNumber l D cI cJ hst _ t (nI (nt)) 1 (if_pos c_5_1).symm) C gX0_left_X0_checkNumber rfl (by decide +kernel) rfl ⟨by decide, by decide⟩ rfl (Nat.le_of_ble_eq_true rfl) ⟨by decide, by decide⟩ hout (by decide) (by decide) rfl dX0_left_5
  refine g_callS0 (na := 2) (av := [.int (t), .int (nI (nt))]) (c_checkNumber l D cI cJ hst _ t (nI (nt)) 0 (if_neg c_5_1).symm) C gX0_left_X0_checkNumber rfl (by decide +kernel) rfl ⟨Nat.le_of_ble_eq_true rfl, Nat.le_of_ble_eq_true rfl⟩ rfl (Nat.le_of_ble_eq_true rfl) ⟨Nat.zero_le _, Nat.zero_le _⟩ rfl dX0_left_5 ?_
  obtain ⟨t', ht', rfl⟩ := nb_of (N := nt) rfl (by omega) c_5_1
  have kt' : cl (nI t') = t' := cl_nI (by omega)
  refine g_aload_n 0 C rfl dX0_left_8 rfl ?_
  refine g_get (C0 := RX0) (T := TX0) (N := 17) 0 0 7 (.ref (h 3)) C hin rfl rfl (by decide) (by decide +kernel) rfl dX0_left_9 ?_
  refine g_iload_n 1 C rfl dX0_left_12 rfl ?_
  refine g_ialdN (cA := cI) (n := 12) (a := h 3) (f := σ.2 2) t' 3 0 C rfl rfl (by omega) (by decide) dX0_left_13 ?_
  obtain rfl : K = 0 := hK.trans (by simp [th_left, c_5_1, kt'])
  exact g_iret C hr rfl dX0_left_14 (Nat.zero_le _) (Nat.zero_le _) rfl (by rw [kt']) rfl
set_option maxRecDepth 100000 in
set_option maxHeartbeats 4000000 in
theorem c_paid (l : Launch) (D : va_G) (cI cJ : ClassId) (hst : l.stackTraces = false) (h : Nat → Nat) (σ : gS) (np nt no ni : Nat) (hI : iA σ np nt no ni) (x : Int32) (K : Nat) (hK : K = th_paid x) : MC l yX0_paid wsX0_paid 7 111 D (tyIJ cI cJ) [.ref (h 0), .int (x)] (wA cI h σ) (wA cI h σ) (exT K) (some (.int (σ.2 11 (cl x)))) (nT K) := by
  have hI0 := hI
  obtain ⟨⟨hnp, hnp6⟩, ⟨hnt, hnt12⟩, ⟨hno, hno10⟩, ⟨hni, hni8⟩, hPT, hLC, hLH⟩ := hI
  refine MC.ofG (cc := cX0_paid) (maxL := 2) (ret := (some .int)) [(0, .ref (h 0)), (1, .int (x))] (by decide) rfl (Nat.le_of_ble_eq_true rfl) rfl ?_
  intro p e s m args below meth c C hr hout
  have hin : ∀ w ∈ wsX00, w ∈ wsX0_paid := fun w h => by first | exact List.mem_cons_of_mem _ (List.mem_append_right _ h) | exact List.mem_cons_of_mem _ (List.mem_append_left _ (List.mem_append_right _ h)) | exact List.mem_cons_of_mem _ (List.mem_append_left _ (List.mem_append_left _ (List.mem_append_right _ h))) | exact List.mem_cons_of_mem _ (List.mem_append_left _ (List.mem_append_left _ (List.mem_append_left _ (List.mem_append_right _ h)))) | exact List.mem_cons_of_mem _ (List.mem_append_left _ (List.mem_append_left _ (List.mem_append_left _ (List.mem_append_left _ (List.mem_append_right _ h)))))
  refine g_iload_n 1 C rfl dX0_paid_0 rfl ?_
  refine g_iconst 4 C dX0_paid_1 (by decide) ?_
  by_cases c_2_1 : bad x (4)
  ·
    obtain rfl : K = 1 := hK.trans (by simp [th_paid, c_2_1])
    exact g_callSX (na := 2) (av := [.int (x), .int (4)]) (c_checkNumber l D cI cJ hst _ x (4) 1 (if_pos c_2_1).symm) C gX0_paid_X0_checkNumber rfl (by decide +kernel) rfl ⟨by decide, by decide⟩ rfl (Nat.le_of_ble_eq_true rfl) ⟨by decide, by decide⟩ hout (by decide) (by decide) rfl dX0_paid_2
  refine g_callS0 (na := 2) (av := [.int (x), .int (4)]) (c_checkNumber l D cI cJ hst _ x (4) 0 (if_neg c_2_1).symm) C gX0_paid_X0_checkNumber rfl (by decide +kernel) rfl ⟨Nat.le_of_ble_eq_true rfl, Nat.le_of_ble_eq_true rfl⟩ rfl (Nat.le_of_ble_eq_true rfl) ⟨Nat.zero_le _, Nat.zero_le _⟩ rfl dX0_paid_2 ?_
  obtain ⟨x', hx', rfl⟩ := nb_of (N := 4) rfl (by omega) c_2_1
  have kx' : cl (nI x') = x' := cl_nI (by omega)
  refine g_aload_n 0 C rfl dX0_paid_5 rfl ?_
  refine g_get (C0 := RX0) (T := TX0) (N := 17) 0 0 16 (.ref (h 12)) C hin rfl rfl (by decide) (by decide +kernel) rfl dX0_paid_6 ?_
  refine g_iload_n 1 C rfl dX0_paid_9 rfl ?_
  refine g_ialdN (cA := cI) (n := 4) (a := h 12) (f := σ.2 11) x' 12 0 C rfl rfl (by omega) (by decide) dX0_paid_10 ?_
  obtain rfl : K = 0 := hK.trans (by simp [th_paid, c_2_1, kx'])
  exact g_iret C hr rfl dX0_paid_11 (Nat.zero_le _) (Nat.zero_le _) rfl (by rw [kx']) rfl
set_option maxRecDepth 100000 in
set_option maxHeartbeats 4000000 in
theorem c_colour (l : Launch) (D : va_G) (cI cJ : ClassId) (hst : l.stackTraces = false) (h : Nat → Nat) (σ : gS) (np nt no ni : Nat) (hI : iA σ np nt no ni) (x v : Int32) (K : Nat) (hK : K = th_colour no x v) : MC l yX0_colour wsX0_colour 7 112 D (tyIJ cI cJ) [.ref (h 0), .int (x), .int (v)] (wA cI h σ) (wA cI h σ) (exT K) (some (.int (colR σ nt (cl x) (cl v)))) (nT K) := by
  have hI0 := hI
  obtain ⟨⟨hnp, hnp6⟩, ⟨hnt, hnt12⟩, ⟨hno, hno10⟩, ⟨hni, hni8⟩, hPT, hLC, hLH⟩ := hI
  refine MC.ofG (cc := cX0_colour) (maxL := 3) (ret := (some .int)) [(0, .ref (h 0)), (1, .int (x)), (2, .int (v))] (by decide) rfl (Nat.le_of_ble_eq_true rfl) rfl ?_
  intro p e s m args below meth c C hr hout
  have hin : ∀ w ∈ wsX00, w ∈ wsX0_colour := fun w h => by first | exact List.mem_cons_of_mem _ (List.mem_append_right _ h) | exact List.mem_cons_of_mem _ (List.mem_append_left _ (List.mem_append_right _ h)) | exact List.mem_cons_of_mem _ (List.mem_append_left _ (List.mem_append_left _ (List.mem_append_right _ h))) | exact List.mem_cons_of_mem _ (List.mem_append_left _ (List.mem_append_left _ (List.mem_append_left _ (List.mem_append_right _ h)))) | exact List.mem_cons_of_mem _ (List.mem_append_left _ (List.mem_append_left _ (List.mem_append_left _ (List.mem_append_left _ (List.mem_append_right _ h)))))
  refine g_iload_n 1 C rfl dX0_colour_0 rfl ?_
  refine g_aload_n 0 C rfl dX0_colour_1 rfl ?_
  refine g_get (C0 := RX0) (T := TX0) (N := 17) 0 0 2 (.int (σ.1 2)) C hin rfl rfl (by decide) (by decide +kernel) rfl dX0_colour_2 ?_
  refine g_is (nI no) hno ?_
  by_cases c_5_1 : bad x (nI (no))
  ·
    obtain rfl : K = 1 := hK.trans (by simp [th_colour, c_5_1])
    exact g_callSX (na := 2) (av := [.int (x), .int (nI (no))]) (c_checkNumber l D cI cJ hst _ x (nI (no)) 1 (if_pos c_5_1).symm) C gX0_colour_X0_checkNumber rfl (by decide +kernel) rfl ⟨by decide, by decide⟩ rfl (Nat.le_of_ble_eq_true rfl) ⟨by decide, by decide⟩ hout (by decide) (by decide) rfl dX0_colour_5
  refine g_callS0 (na := 2) (av := [.int (x), .int (nI (no))]) (c_checkNumber l D cI cJ hst _ x (nI (no)) 0 (if_neg c_5_1).symm) C gX0_colour_X0_checkNumber rfl (by decide +kernel) rfl ⟨Nat.le_of_ble_eq_true rfl, Nat.le_of_ble_eq_true rfl⟩ rfl (Nat.le_of_ble_eq_true rfl) ⟨Nat.zero_le _, Nat.zero_le _⟩ rfl dX0_colour_5 ?_
  obtain ⟨x', hx', rfl⟩ := nb_of (N := no) rfl (by omega) c_5_1
  have kx' : cl (nI x') = x' := cl_nI (by omega)
  refine g_iload_n 2 C rfl dX0_colour_8 rfl ?_
  refine g_iconst 0 C dX0_colour_9 (by decide) ?_
  refine g_iconst 2 C dX0_colour_10 (by decide) ?_
  by_cases c_11_2 : out (v) (0) (2)
  ·
    obtain rfl : K = 2 := hK.trans (by simp [th_colour, c_5_1, c_11_2, kx'])
    exact g_callSX (na := 3) (av := [.int (v), .int (0), .int (2)]) (c_checkRange l D cI cJ hst _ (v) (0) (2) 2 (if_pos c_11_2).symm) C gX0_colour_X0_checkRange rfl (by decide +kernel) rfl ⟨by decide, by decide⟩ rfl (Nat.le_of_ble_eq_true rfl) ⟨by decide, by decide⟩ hout (by decide) (by decide) rfl dX0_colour_11
  refine g_callS0 (na := 3) (av := [.int (v), .int (0), .int (2)]) (c_checkRange l D cI cJ hst _ (v) (0) (2) 0 (if_neg c_11_2).symm) C gX0_colour_X0_checkRange rfl (by decide +kernel) rfl ⟨Nat.le_of_ble_eq_true rfl, Nat.le_of_ble_eq_true rfl⟩ rfl (Nat.le_of_ble_eq_true rfl) ⟨Nat.zero_le _, Nat.zero_le _⟩ rfl dX0_colour_11 ?_
  have hv1 := out_lo c_11_2
  obtain ⟨v', hv', rfl⟩ := out_nat (M := 2) rfl (by decide) c_11_2
  have kv' : cl (nI v') = v' := cl_nI (by omega)
  refine g_aload_n 0 C rfl dX0_colour_14 rfl ?_
  refine g_iload_n 1 C rfl dX0_colour_15 rfl ?_
  refine g_callS0 (na := 1) (av := [.int (nI (x'))]) (c_potRow l D cI cJ _ (nI (x'))) C gX0_colour_X0_potRow rfl (by decide +kernel) rfl ⟨Nat.le_of_ble_eq_true rfl, Nat.le_of_ble_eq_true rfl⟩ rfl (Nat.le_of_ble_eq_true rfl) ⟨Nat.zero_le _, Nat.zero_le _⟩ rfl dX0_colour_16 ?_
  refine g_iload_n 2 C rfl dX0_colour_19 rfl ?_
  refine g_callV0 (C0 := RX0) (T := TX0) (N := 17) (ci := 0) (na := 2) (As := [.int (nI (x')), .int (nI (v'))]) (c_colourOfRow l D cI cJ h σ np nt no ni hI0 x' v' (by omega) (by omega)) C gX0_colour_X0_colourOfRow rfl (by decide +kernel) rfl ⟨Nat.le_of_ble_eq_true rfl, Nat.le_of_ble_eq_true rfl⟩ rfl rfl rfl (Nat.le_of_ble_eq_true rfl) ⟨Nat.zero_le _, Nat.zero_le _⟩ rfl dX0_colour_20 ?_
  obtain rfl : K = 0 := hK.trans (by simp [th_colour, c_5_1, c_11_2, kx', kv'])
  exact g_iret C hr rfl dX0_colour_23 (Nat.zero_le _) (Nat.zero_le _) rfl (by rw [kx', kv']) rfl
set_option maxRecDepth 100000 in
set_option maxHeartbeats 4000000 in
theorem c_layer (l : Launch) (D : va_G) (cI cJ : ClassId) (hst : l.stackTraces = false) (h : Nat → Nat) (σ : gS) (np nt no ni : Nat) (hI : iA σ np nt no ni) (q k t : Int32) (K : Nat) (hK : K = th_layer σ nt ni q k t) : MC l yX0_layer wsX0_layer 7 111 D (tyIJ cI cJ) [.ref (h 0), .int (q), .int (k), .int (t)] (wA cI h σ) (wA cI h σ) (exT K) (some (.int (σ.2 3 ((10 + cl q * 12 + cl k) * 12 + cl t)))) (nT K) := by
  have hI0 := hI
  obtain ⟨⟨hnp, hnp6⟩, ⟨hnt, hnt12⟩, ⟨hno, hno10⟩, ⟨hni, hni8⟩, hPT, hLC, hLH⟩ := hI
  refine MC.ofG (cc := cX0_layer) (maxL := 4) (ret := (some .int)) [(0, .ref (h 0)), (1, .int (q)), (2, .int (k)), (3, .int (t))] (by decide) rfl (Nat.le_of_ble_eq_true rfl) rfl ?_
  intro p e s m args below meth c C hr hout
  have hin : ∀ w ∈ wsX00, w ∈ wsX0_layer := fun w h => by first | exact List.mem_cons_of_mem _ (List.mem_append_right _ h) | exact List.mem_cons_of_mem _ (List.mem_append_left _ (List.mem_append_right _ h)) | exact List.mem_cons_of_mem _ (List.mem_append_left _ (List.mem_append_left _ (List.mem_append_right _ h))) | exact List.mem_cons_of_mem _ (List.mem_append_left _ (List.mem_append_left _ (List.mem_append_left _ (List.mem_append_right _ h)))) | exact List.mem_cons_of_mem _ (List.mem_append_left _ (List.mem_append_left _ (List.mem_append_left _ (List.mem_append_left _ (List.mem_append_right _ h)))))
  refine g_iload_n 1 C rfl dX0_layer_0 rfl ?_
  refine g_aload_n 0 C rfl dX0_layer_1 rfl ?_
  refine g_get (C0 := RX0) (T := TX0) (N := 17) 0 0 3 (.int (σ.1 3)) C hin rfl rfl (by decide) (by decide +kernel) rfl dX0_layer_2 ?_
  refine g_is (nI ni) hni ?_
  by_cases c_5_1 : bad q (nI (ni))
  ·
    obtain rfl : K = 1 := hK.trans (by simp [th_layer, c_5_1])
    exact g_callSX (na := 2) (av := [.int (q), .int (nI (ni))]) (c_checkNumber l D cI cJ hst _ q (nI (ni)) 1 (if_pos c_5_1).symm) C gX0_layer_X0_checkNumber rfl (by decide +kernel) rfl ⟨by decide, by decide⟩ rfl (Nat.le_of_ble_eq_true rfl) ⟨by decide, by decide⟩ hout (by decide) (by decide) rfl dX0_layer_5
  refine g_callS0 (na := 2) (av := [.int (q), .int (nI (ni))]) (c_checkNumber l D cI cJ hst _ q (nI (ni)) 0 (if_neg c_5_1).symm) C gX0_layer_X0_checkNumber rfl (by decide +kernel) rfl ⟨Nat.le_of_ble_eq_true rfl, Nat.le_of_ble_eq_true rfl⟩ rfl (Nat.le_of_ble_eq_true rfl) ⟨Nat.zero_le _, Nat.zero_le _⟩ rfl dX0_layer_5 ?_
  obtain ⟨q', hq', rfl⟩ := nb_of (N := ni) rfl (by omega) c_5_1
  have kq' : cl (nI q') = q' := cl_nI (by omega)
  refine g_iload_n 2 C rfl dX0_layer_8 rfl ?_
  refine g_aload_n 0 C rfl dX0_layer_9 rfl ?_
  refine g_get (C0 := RX0) (T := TX0) (N := 17) 0 0 9 (.ref (h 5)) C hin rfl rfl (by decide) (by decide +kernel) rfl dX0_layer_10 ?_
  refine g_iload_n 1 C rfl dX0_layer_13 rfl ?_
  refine g_ialdN (cA := cI) (n := 8) (a := h 5) (f := σ.2 4) q' 5 0 C rfl rfl (by omega) (by decide) dX0_layer_14 ?_
  obtain ⟨jL, hjL, ejL⟩ := hLC q'
  refine g_is (nI (jL)) ejL ?_
  by_cases c_15_2 : bad k (nI (jL))
  ·
    obtain rfl : K = 1 := hK.trans (by simp [th_layer, c_5_1, c_15_2, kq', ejL])
    exact g_callSX (na := 2) (av := [.int (k), .int (nI (jL))]) (c_checkNumber l D cI cJ hst _ k (nI (jL)) 1 (if_pos c_15_2).symm) C gX0_layer_X0_checkNumber rfl (by decide +kernel) rfl ⟨by decide, by decide⟩ rfl (Nat.le_of_ble_eq_true rfl) ⟨by decide, by decide⟩ hout (by decide) (by decide) rfl dX0_layer_15
  refine g_callS0 (na := 2) (av := [.int (k), .int (nI (jL))]) (c_checkNumber l D cI cJ hst _ k (nI (jL)) 0 (if_neg c_15_2).symm) C gX0_layer_X0_checkNumber rfl (by decide +kernel) rfl ⟨Nat.le_of_ble_eq_true rfl, Nat.le_of_ble_eq_true rfl⟩ rfl (Nat.le_of_ble_eq_true rfl) ⟨Nat.zero_le _, Nat.zero_le _⟩ rfl dX0_layer_15 ?_
  obtain ⟨k', hk', rfl⟩ := nb_of (N := jL) rfl (by omega) c_15_2
  have kk' : cl (nI k') = k' := cl_nI (by omega)
  refine g_iload_n 3 C rfl dX0_layer_18 rfl ?_
  refine g_aload_n 0 C rfl dX0_layer_19 rfl ?_
  refine g_get (C0 := RX0) (T := TX0) (N := 17) 0 0 1 (.int (σ.1 1)) C hin rfl rfl (by decide) (by decide +kernel) rfl dX0_layer_20 ?_
  refine g_is (nI nt) hnt ?_
  by_cases c_23_3 : bad t (nI (nt))
  ·
    obtain rfl : K = 1 := hK.trans (by simp [th_layer, c_5_1, c_15_2, c_23_3, kq', ejL, kk'])
    exact g_callSX (na := 2) (av := [.int (t), .int (nI (nt))]) (c_checkNumber l D cI cJ hst _ t (nI (nt)) 1 (if_pos c_23_3).symm) C gX0_layer_X0_checkNumber rfl (by decide +kernel) rfl ⟨by decide, by decide⟩ rfl (Nat.le_of_ble_eq_true rfl) ⟨by decide, by decide⟩ hout (by decide) (by decide) rfl dX0_layer_23
  refine g_callS0 (na := 2) (av := [.int (t), .int (nI (nt))]) (c_checkNumber l D cI cJ hst _ t (nI (nt)) 0 (if_neg c_23_3).symm) C gX0_layer_X0_checkNumber rfl (by decide +kernel) rfl ⟨Nat.le_of_ble_eq_true rfl, Nat.le_of_ble_eq_true rfl⟩ rfl (Nat.le_of_ble_eq_true rfl) ⟨Nat.zero_le _, Nat.zero_le _⟩ rfl dX0_layer_23 ?_
  obtain ⟨t', ht', rfl⟩ := nb_of (N := nt) rfl (by omega) c_23_3
  have kt' : cl (nI t') = t' := cl_nI (by omega)
  refine g_aload_n 0 C rfl dX0_layer_26 rfl ?_
  refine g_get (C0 := RX0) (T := TX0) (N := 17) 0 0 8 (.ref (h 4)) C hin rfl rfl (by decide) (by decide +kernel) rfl dX0_layer_27 ?_
  refine g_iload_n 1 C rfl dX0_layer_30 rfl ?_
  refine g_iload_n 2 C rfl dX0_layer_31 rfl ?_
  refine g_callS0 (na := 2) (av := [.int (nI (q')), .int (nI (k'))]) (c_layerRow l D cI cJ _ q' k') C gX0_layer_X0_layerRow rfl (by decide +kernel) rfl ⟨Nat.le_of_ble_eq_true rfl, Nat.le_of_ble_eq_true rfl⟩ rfl (Nat.le_of_ble_eq_true rfl) ⟨Nat.zero_le _, Nat.zero_le _⟩ rfl dX0_layer_32 ?_
  refine g_iload_n 3 C rfl dX0_layer_35 rfl ?_
  refine g_callS0 (na := 2) (av := [.int (nI (10 + q' * 12 + k')), .int (nI (t'))]) (c_place l D cI cJ _ (10 + q' * 12 + k') t') C gX0_layer_X0_place rfl (by decide +kernel) rfl ⟨Nat.le_of_ble_eq_true rfl, Nat.le_of_ble_eq_true rfl⟩ rfl (Nat.le_of_ble_eq_true rfl) ⟨Nat.zero_le _, Nat.zero_le _⟩ rfl dX0_layer_36 ?_
  refine g_ialdN (cA := cI) (n := 1284) (a := h 4) (f := σ.2 3) ((10 + q' * 12 + k') * 12 + t') 4 0 C rfl rfl (by omega) (by decide) dX0_layer_39 ?_
  obtain rfl : K = 0 := hK.trans (by simp [th_layer, c_5_1, c_15_2, c_23_3, kq', ejL, kk', kt'])
  exact g_iret C hr rfl dX0_layer_40 (Nat.zero_le _) (Nat.zero_le _) rfl (by rw [kq', kk', kt']) rfl
end
section
/-! The book, its calls (2). -/
set_option maxRecDepth 100000 in
set_option maxHeartbeats 4000000 in
theorem c_clean (l : Launch) (D : va_G) (cI cJ : ClassId) (hst : l.stackTraces = false) (h : Nat → Nat) (σ : gS) (np nt no ni : Nat) (hI : iA σ np nt no ni) (q n : Int32) (K : Nat) (hK : K = th_clean σ ni q n) : MC l yX0_clean wsX0_clean 7 112 D (tyIJ cI cJ) [.ref (h 0), .int (q), .int (n)] (wA cI h σ) (wA cI h (s_clean σ nt (cl q) (cl n))) (exT K) (some (.int (clS (σ.2 3) nt (cl q) (cl (σ.2 4 (cl q))) (cl n)))) (nT K) := by
  have hI0 := hI
  obtain ⟨⟨hnp, hnp6⟩, ⟨hnt, hnt12⟩, ⟨hno, hno10⟩, ⟨hni, hni8⟩, hPT, hLC, hLH⟩ := hI
  refine MC.ofG (cc := cX0_clean) (maxL := 5) (ret := (some .int)) [(0, .ref (h 0)), (1, .int (q)), (2, .int (n))] (by decide) rfl (Nat.le_of_ble_eq_true rfl) rfl ?_
  intro p e s m args below meth c C hr hout
  have hin : ∀ w ∈ wsX00, w ∈ wsX0_clean := fun w h => by first | exact List.mem_cons_of_mem _ (List.mem_append_right _ h) | exact List.mem_cons_of_mem _ (List.mem_append_left _ (List.mem_append_right _ h)) | exact List.mem_cons_of_mem _ (List.mem_append_left _ (List.mem_append_left _ (List.mem_append_right _ h))) | exact List.mem_cons_of_mem _ (List.mem_append_left _ (List.mem_append_left _ (List.mem_append_left _ (List.mem_append_right _ h)))) | exact List.mem_cons_of_mem _ (List.mem_append_left _ (List.mem_append_left _ (List.mem_append_left _ (List.mem_append_left _ (List.mem_append_right _ h)))))
  refine g_iload_n 1 C rfl dX0_clean_0 rfl ?_
  refine g_aload_n 0 C rfl dX0_clean_1 rfl ?_
  refine g_get (C0 := RX0) (T := TX0) (N := 17) 0 0 3 (.int (σ.1 3)) C hin rfl rfl (by decide) (by decide +kernel) rfl dX0_clean_2 ?_
  refine g_is (nI ni) hni ?_
  by_cases c_5_1 : bad q (nI (ni))
  ·
    obtain rfl : K = 1 := hK.trans (by simp [th_clean, c_5_1])
    exact g_callSX (na := 2) (av := [.int (q), .int (nI (ni))]) (c_checkNumber l D cI cJ hst _ q (nI (ni)) 1 (if_pos c_5_1).symm) C gX0_clean_X0_checkNumber rfl (by decide +kernel) rfl ⟨by decide, by decide⟩ rfl (Nat.le_of_ble_eq_true rfl) ⟨by decide, by decide⟩ hout (by decide) (by decide) rfl dX0_clean_5
  refine g_callS0 (na := 2) (av := [.int (q), .int (nI (ni))]) (c_checkNumber l D cI cJ hst _ q (nI (ni)) 0 (if_neg c_5_1).symm) C gX0_clean_X0_checkNumber rfl (by decide +kernel) rfl ⟨Nat.le_of_ble_eq_true rfl, Nat.le_of_ble_eq_true rfl⟩ rfl (Nat.le_of_ble_eq_true rfl) ⟨Nat.zero_le _, Nat.zero_le _⟩ rfl dX0_clean_5 ?_
  obtain ⟨q', hq', rfl⟩ := nb_of (N := ni) rfl (by omega) c_5_1
  have kq' : cl (nI q') = q' := cl_nI (by omega)
  refine g_iload_n 2 C rfl dX0_clean_8 rfl ?_
  refine g_iconst 1 C dX0_clean_9 (by decide) ?_
  refine g_bipush 12 C dX0_clean_10 (by decide) ?_
  by_cases c_12_2 : out (n) (1) (12)
  ·
    obtain rfl : K = 2 := hK.trans (by simp [th_clean, c_5_1, c_12_2, kq'])
    exact g_callSX (na := 3) (av := [.int (n), .int (1), .int (12)]) (c_checkRange l D cI cJ hst _ (n) (1) (12) 2 (if_pos c_12_2).symm) C gX0_clean_X0_checkRange rfl (by decide +kernel) rfl ⟨by decide, by decide⟩ rfl (Nat.le_of_ble_eq_true rfl) ⟨by decide, by decide⟩ hout (by decide) (by decide) rfl dX0_clean_12
  refine g_callS0 (na := 3) (av := [.int (n), .int (1), .int (12)]) (c_checkRange l D cI cJ hst _ (n) (1) (12) 0 (if_neg c_12_2).symm) C gX0_clean_X0_checkRange rfl (by decide +kernel) rfl ⟨Nat.le_of_ble_eq_true rfl, Nat.le_of_ble_eq_true rfl⟩ rfl (Nat.le_of_ble_eq_true rfl) ⟨Nat.zero_le _, Nat.zero_le _⟩ rfl dX0_clean_12 ?_
  have hn1 := out_lo c_12_2
  obtain ⟨n', hn', rfl⟩ := out_nat (M := 12) rfl (by decide) c_12_2
  have kn' : cl (nI n') = n' := cl_nI (by omega)
  refine g_aload_n 0 C rfl dX0_clean_15 rfl ?_
  refine g_iload_n 1 C rfl dX0_clean_16 rfl ?_
  by_cases c_17_3 : ¬ σ.2 7 q' ≤ 0
  ·
    obtain rfl : K = 3 := hK.trans (by simp [th_clean, c_5_1, c_12_2, c_17_3, kq', kn'])
    exact g_callVX (C0 := RX0) (T := TX0) (N := 17) (ci := 0) (na := 1) (As := [.int (nI (q'))]) (c_checkAtHome l D cI cJ hst h σ np nt no ni hI0 q' (by omega) 3 (if_pos c_17_3).symm) C gX0_clean_X0_checkAtHome rfl (by decide +kernel) rfl ⟨by decide, by decide⟩ rfl rfl rfl (Nat.le_of_ble_eq_true rfl) ⟨by decide, by decide⟩ hout (by decide) (by decide) rfl dX0_clean_17
  refine g_callV0 (C0 := RX0) (T := TX0) (N := 17) (ci := 0) (na := 1) (As := [.int (nI (q'))]) (c_checkAtHome l D cI cJ hst h σ np nt no ni hI0 q' (by omega) 0 (if_neg c_17_3).symm) C gX0_clean_X0_checkAtHome rfl (by decide +kernel) rfl ⟨Nat.le_of_ble_eq_true rfl, Nat.le_of_ble_eq_true rfl⟩ rfl rfl rfl (Nat.le_of_ble_eq_true rfl) ⟨Nat.zero_le _, Nat.zero_le _⟩ rfl dX0_clean_17 ?_
  refine g_aload_n 0 C rfl dX0_clean_20 rfl ?_
  refine g_get (C0 := RX0) (T := TX0) (N := 17) 0 0 9 (.ref (h 5)) C hin rfl rfl (by decide) (by decide +kernel) rfl dX0_clean_21 ?_
  refine g_iload_n 1 C rfl dX0_clean_24 rfl ?_
  refine g_ialdN (cA := cI) (n := 8) (a := h 5) (f := σ.2 4) q' 5 0 C rfl rfl (by omega) (by decide) dX0_clean_25 ?_
  obtain ⟨jL, hjL, ejL⟩ := hLC q'
  refine g_is (nI (jL)) ejL ?_
  refine g_iload_n 2 C rfl dX0_clean_26 rfl ?_
  refine g_icmp_ge 40 C dX0_clean_27 (by decide) (fun c_27_4 => ?_) (fun c_27_4 => ?_)
  ·
    have d_27_4 : n' ≤ jL := (nI_leI (a := n') (b := jL) (by omega) (by omega)).mp c_27_4
    refine g_iconst 0 C dX0_clean_40 (by decide) ?_
    refine g_istore_n [(3, .int (0)), (0, .ref (h 0)), (1, .int (nI (q'))), (2, .int (nI (n')))] C dX0_clean_41 rfl (by decide) rfl ?_
    refine g_iconst 0 C dX0_clean_42 (by decide) ?_
    refine g_istore [(4, .int (0)), (3, .int (0)), (0, .ref (h 0)), (1, .int (nI (q'))), (2, .int (nI (n')))] C dX0_clean_43 (by decide) rfl ?_
    have loop_45 : ∀ (fu : Nat) (k : Nat), k ≤ n' → n' + 1 ≤ k + fu → G p l e ({ frames := 7, cells := (nT K), slots := 6 * (nT K), locals := 112 } : Room) s m args below meth c D (va_A (wA cI h σ) s.heap.size) 5 0 0 (gQ below D (wA cI h σ) (wA cI h (s_clean σ nt (cl (nI q')) (cl (nI n')))) (exT K) (some (.int (clS (σ.2 3) nt (cl (nI q')) (cl (σ.2 4 (cl (nI q')))) (cl (nI n'))))) (nT K) args s) (wA cI h (sA (sA σ 3 (clL (σ.2 3) nt q' jL k)) 4 (upd (σ.2 4) q' (nI (jL - k))))) [(0, .ref (h 0)), (1, .int (nI (q'))), (2, .int (nI (n'))), (3, .int (clS (σ.2 3) nt q' jL k)), (4, .int (nI (k)))] 45 [] := by
      intro fu
      induction fu with
      | zero => intro k hk hf; exact absurd True.intro (by omega)
      | succ fu ih_45 =>
        intro k hk hf
        refine g_iload 4 C rfl dX0_clean_45 ?_
        refine g_iload_n 2 C rfl dX0_clean_47 rfl ?_
        refine g_icmp_ge 84 C dX0_clean_48 (by decide) (fun c_48_5 => ?_) (fun c_48_5 => ?_)
        ·
          have d_48_5 : n' ≤ k := (nI_leI (a := n') (b := k) (by omega) (by omega)).mp c_48_5
          refine g_iload_n 3 C rfl dX0_clean_84 rfl ?_
          obtain rfl : K = 0 := hK.trans (by simp [th_clean, c_5_1, c_12_2, c_17_3, c_27_4, c_48_5, kq', kn', ejL])
          exact g_iret C hr rfl dX0_clean_85 (Nat.zero_le _) (Nat.zero_le _) rfl (by rw [kq', kn', ejL, cl_nI (by omega), show n' = k by omega]) (by rw [s_clean, kq', kn', ejL, cl_nI (by omega), show n' = k by omega])
        ·
          have d_48_5 : ¬ n' ≤ k := fun zz => c_48_5 ((nI_leI (a := n') (b := k) (by omega) (by omega)).mpr zz)
          refine g_aload_n 0 C rfl dX0_clean_51 rfl ?_
          refine g_get (C0 := RX0) (T := TX0) (N := 17) 0 0 9 (.ref (h 5)) C hin rfl rfl (by decide) (by decide +kernel) rfl dX0_clean_52 ?_
          refine g_iload_n 1 C rfl dX0_clean_55 rfl ?_
          refine g_dup2 C dX0_clean_56 rfl rfl ?_
          refine g_ialdN (cA := cI) (n := 8) (a := h 5) (f := upd (σ.2 4) q' (nI (jL - k))) q' 5 0 C rfl rfl (by omega) (by decide) dX0_clean_57 ?_
          refine g_is (nI (jL - k)) pk_us ?_
          refine g_iconst 1 C dX0_clean_58 (by decide) ?_
          refine g_isubN (jL - k) 1 C (by omega) dX0_clean_59 ?_
          refine g_iastN (cA := cI) (n := 8) (a := h 5) (f := upd (σ.2 4) q' (nI (jL - k))) (x := nI ((jL - k) - 1)) q' 5 0 (wA cI h (sA (sA σ 3 (clL (σ.2 3) nt q' jL k)) 4 (upd (upd (σ.2 4) q' (nI (jL - k))) q' (nI ((jL - k) - 1))))) C rfl rfl (by omega) (by decide) rfl dX0_clean_60 ?_
          refine g_w (wA cI h (sA (sA σ 3 (clL (σ.2 3) nt q' jL k)) 4 (upd (σ.2 4) q' (nI (jL - k - 1))))) (by rw [upd_two]) ?_
          refine g_iload_n 3 C rfl dX0_clean_61 rfl ?_
          refine g_aload_n 0 C rfl dX0_clean_62 rfl ?_
          refine g_iload_n 1 C rfl dX0_clean_63 rfl ?_
          refine g_aload_n 0 C rfl dX0_clean_64 rfl ?_
          refine g_get (C0 := RX0) (T := TX0) (N := 17) 0 0 9 (.ref (h 5)) C hin rfl rfl (by decide) (by decide +kernel) rfl dX0_clean_65 ?_
          refine g_iload_n 1 C rfl dX0_clean_68 rfl ?_
          refine g_ialdN (cA := cI) (n := 8) (a := h 5) (f := upd (σ.2 4) q' (nI (jL - k - 1))) q' 5 0 C rfl rfl (by omega) (by decide) dX0_clean_69 ?_
          refine g_is (nI (jL - k - 1)) pk_us ?_
          refine g_callS0 (na := 2) (av := [.int (nI (q')), .int (nI (jL - k - 1))]) (c_layerRow l D cI cJ _ q' (jL - k - 1)) C gX0_clean_X0_layerRow rfl (by decide +kernel) rfl ⟨Nat.le_of_ble_eq_true rfl, Nat.le_of_ble_eq_true rfl⟩ rfl (Nat.le_of_ble_eq_true rfl) ⟨Nat.zero_le _, Nat.zero_le _⟩ rfl dX0_clean_70 ?_
          refine g_callV0 (C0 := RX0) (T := TX0) (N := 17) (ci := 0) (na := 1) (As := [.int (nI (10 + q' * 12 + (jL - k - 1)))]) (c_waste l D cI cJ h (sA (sA σ 3 (clL (σ.2 3) nt q' jL k)) 4 (upd (σ.2 4) q' (nI (jL - k - 1)))) np nt no ni (iA_LC hI0 _ q' (by omega)) (10 + q' * 12 + (jL - k - 1)) (by omega)) C gX0_clean_X0_waste rfl (by decide +kernel) rfl ⟨Nat.le_of_ble_eq_true rfl, Nat.le_of_ble_eq_true rfl⟩ rfl rfl rfl (Nat.le_of_ble_eq_true rfl) ⟨Nat.zero_le _, Nat.zero_le _⟩ rfl dX0_clean_73 ?_
          refine g_w (wA cI h (sA (sA σ 3 (wsL (clL (σ.2 3) nt q' jL k) (10 + q' * 12 + (jL - k - 1)) nt)) 4 (upd (σ.2 4) q' (nI (jL - k - 1))))) rfl ?_
          refine g_iadd C dX0_clean_76 ?_
          refine g_istore_n [(3, .int ((clS (σ.2 3) nt q' jL k) + (rowS (clL (σ.2 3) nt q' jL k) (10 + q' * 12 + (jL - k - 1)) nt))), (0, .ref (h 0)), (1, .int (nI (q'))), (2, .int (nI (n'))), (4, .int (nI (k)))] C dX0_clean_77 rfl (by decide) rfl ?_
          refine g_iincN 4 k 1 [(4, .int (nI (k + 1))), (3, .int ((clS (σ.2 3) nt q' jL k) + (rowS (clL (σ.2 3) nt q' jL k) (10 + q' * 12 + (jL - k - 1)) nt))), (0, .ref (h 0)), (1, .int (nI (q'))), (2, .int (nI (n')))] C dX0_clean_78 rfl (by decide) (by decide) rfl ?_
          refine g_goto 45 C dX0_clean_81 (by decide) ?_
          refine g_lv [2, 3, 4, 1, 0] [(0, .ref (h 0)), (1, .int (nI (q'))), (2, .int (nI (n'))), (3, .int ((clS (σ.2 3) nt q' jL k) + (rowS (clL (σ.2 3) nt q' jL k) (10 + q' * 12 + (jL - k - 1)) nt))), (4, .int (nI (k + 1)))] rfl ?_
          exact ih_45 (k + 1) (by omega) (by omega)
    refine g_lv [2, 3, 4, 1, 0] [(0, .ref (h 0)), (1, .int (nI (q'))), (2, .int (nI (n'))), (3, .int (0)), (4, .int (0))] rfl ?_
    refine g_w (wA cI h (sA (sA σ 3 (clL (σ.2 3) nt q' jL 0)) 4 (upd (σ.2 4) q' (nI (jL - 0))))) (by rw [show upd (σ.2 4) q' (nI (jL - 0)) = σ.2 4 from upd_id ejL]; rfl) ?_
    exact loop_45 (n' + 1) 0 (by omega) (by omega)
  ·
    have d_27_4 : ¬ n' ≤ jL := fun zz => c_27_4 ((nI_leI (a := n') (b := jL) (by omega) (by omega)).mpr zz)
    obtain rfl : K = 3 := hK.trans (by simp [th_clean, c_5_1, c_12_2, c_17_3, c_27_4, kq', kn', ejL])
    exact g_throw (cls := eISE) (text := "the picture has not so many layers") C hst rfl (by decide +kernel) (by decide +kernel) (by decide +kernel) (by decide +kernel) (by decide +kernel) (by decide +kernel) (by decide +kernel) hout dX0_clean_30 dX0_clean_33 dX0_clean_34 dX0_clean_36 dX0_clean_39 (by decide) (by decide) (by decide) (by decide) (by decide) (by decide) rfl
set_option maxRecDepth 100000 in
set_option maxHeartbeats 4000000 in
theorem c_pass (l : Launch) (D : va_G) (cI cJ : ClassId) (hst : l.stackTraces = false) (h : Nat → Nat) (σ : gS) (np nt no ni : Nat) (hI : iA σ np nt no ni) (d : Int32) (K : Nat) (hK : K = th_pass σ d) : MC l yX0_pass wsX0_pass 7 112 D (tyIJ cI cJ) [.ref (h 0), .int (d)] (wA cI h σ) (wA cI h (sS (pfls σ d ni) 4 (σ.1 4 + d))) (exT K) (some (.int (σ.1 4 + d))) (nT K) := by
  have hI0 := hI
  obtain ⟨⟨hnp, hnp6⟩, ⟨hnt, hnt12⟩, ⟨hno, hno10⟩, ⟨hni, hni8⟩, hPT, hLC, hLH⟩ := hI
  refine MC.ofG (cc := cX0_pass) (maxL := 3) (ret := (some .int)) [(0, .ref (h 0)), (1, .int (d))] (by decide) rfl (Nat.le_of_ble_eq_true rfl) rfl ?_
  intro p e s m args below meth c C hr hout
  have hin : ∀ w ∈ wsX00, w ∈ wsX0_pass := fun w h => by first | exact List.mem_cons_of_mem _ (List.mem_append_right _ h) | exact List.mem_cons_of_mem _ (List.mem_append_left _ (List.mem_append_right _ h)) | exact List.mem_cons_of_mem _ (List.mem_append_left _ (List.mem_append_left _ (List.mem_append_right _ h))) | exact List.mem_cons_of_mem _ (List.mem_append_left _ (List.mem_append_left _ (List.mem_append_left _ (List.mem_append_right _ h)))) | exact List.mem_cons_of_mem _ (List.mem_append_left _ (List.mem_append_left _ (List.mem_append_left _ (List.mem_append_left _ (List.mem_append_right _ h)))))
  refine g_iload_n 1 C rfl dX0_pass_0 rfl ?_
  refine g_iconst 1 C dX0_pass_1 (by decide) ?_
  refine g_bipush 100 C dX0_pass_2 (by decide) ?_
  by_cases c_4_1 : out (d) (1) (100)
  ·
    obtain rfl : K = 2 := hK.trans (by simp [th_pass, c_4_1])
    exact g_callSX (na := 3) (av := [.int (d), .int (1), .int (100)]) (c_checkRange l D cI cJ hst _ (d) (1) (100) 2 (if_pos c_4_1).symm) C gX0_pass_X0_checkRange rfl (by decide +kernel) rfl ⟨by decide, by decide⟩ rfl (Nat.le_of_ble_eq_true rfl) ⟨by decide, by decide⟩ hout (by decide) (by decide) rfl dX0_pass_4
  refine g_callS0 (na := 3) (av := [.int (d), .int (1), .int (100)]) (c_checkRange l D cI cJ hst _ (d) (1) (100) 0 (if_neg c_4_1).symm) C gX0_pass_X0_checkRange rfl (by decide +kernel) rfl ⟨Nat.le_of_ble_eq_true rfl, Nat.le_of_ble_eq_true rfl⟩ rfl (Nat.le_of_ble_eq_true rfl) ⟨Nat.zero_le _, Nat.zero_le _⟩ rfl dX0_pass_4 ?_
  have hd1 := out_lo c_4_1
  refine g_aload_n 0 C rfl dX0_pass_7 rfl ?_
  refine g_get (C0 := RX0) (T := TX0) (N := 17) 0 0 4 (.int (σ.1 4)) C hin rfl rfl (by decide) (by decide +kernel) rfl dX0_pass_8 ?_
  refine g_iload_n 1 C rfl dX0_pass_11 rfl ?_
  refine g_iadd C dX0_pass_12 ?_
  refine g_sipush 5000 C dX0_pass_13 (by decide) ?_
  refine g_icmp_le 29 C dX0_pass_16 (by decide) (fun c_16_2 => ?_) (fun c_16_2 => ?_)
  ·
    refine g_iconst 0 C dX0_pass_29 (by decide) ?_
    refine g_istore_n [(2, .int (0)), (0, .ref (h 0)), (1, .int (d))] C dX0_pass_30 rfl (by decide) rfl ?_
    have loop_31 : ∀ (fu : Nat) (i : Nat), i ≤ ni → ni + 1 ≤ i + fu → G p l e ({ frames := 7, cells := (nT K), slots := 6 * (nT K), locals := 112 } : Room) s m args below meth c D (va_A (wA cI h σ) s.heap.size) 3 0 0 (gQ below D (wA cI h σ) (wA cI h (sS (pfls σ d ni) 4 (σ.1 4 + d))) (exT K) (some (.int (σ.1 4 + d))) (nT K) args s) (wA cI h (pfls σ d i)) [(0, .ref (h 0)), (1, .int (d)), (2, .int (nI (i)))] 31 [] := by
      intro fu
      induction fu with
      | zero => intro i hi hf; exact absurd True.intro (by omega)
      | succ fu ih_31 =>
        intro i hi hf
        have hIi := iA_pfls hI0 d i
        refine g_iload_n 2 C rfl dX0_pass_31 rfl ?_
        refine g_aload_n 0 C rfl dX0_pass_32 rfl ?_
        refine g_get (C0 := RX0) (T := TX0) (N := 17) 0 0 3 (.int ((pfls σ d i).1 3)) C hin rfl rfl (by decide) (by decide +kernel) rfl dX0_pass_33 ?_
        refine g_is (nI ni) hIi.2.2.2.1.1 ?_
        refine g_icmp_ge 51 C dX0_pass_36 (by decide) (fun c_36_3 => ?_) (fun c_36_3 => ?_)
        ·
          have d_36_3 : ni ≤ i := (nI_leI (a := ni) (b := i) (by omega) (by omega)).mp c_36_3
          refine g_aload_n 0 C rfl dX0_pass_51 rfl ?_
          refine g_dup C dX0_pass_52 rfl ?_
          refine g_get (C0 := RX0) (T := TX0) (N := 17) 0 0 4 (.int ((pfls σ d i).1 4)) C hin rfl rfl (by decide) (by decide +kernel) rfl dX0_pass_53 ?_
          refine g_iload_n 1 C rfl dX0_pass_56 rfl ?_
          refine g_iadd C dX0_pass_57 ?_
          refine g_put (C0 := RX0) (T := TX0) (N := 17) 0 0 4 (wA cI h (sS (pfls σ d i) 4 ((((pfls σ d i).1 4) + d)))) C hin tyX0_ok nmX0 rfl rfl (by decide) (by decide +kernel) rfl (by decide +kernel) (Nat.le_of_ble_eq_true rfl) rfl dX0_pass_58 ?_
          refine g_aload_n 0 C rfl dX0_pass_61 rfl ?_
          refine g_get (C0 := RX0) (T := TX0) (N := 17) 0 0 4 (.int (((pfls σ d i).1 4) + d)) C hin rfl rfl (by decide) (by decide +kernel) rfl dX0_pass_62 ?_
          obtain rfl : K = 0 := hK.trans (by simp [th_pass, c_4_1, c_16_2, c_36_3])
          exact g_iret C hr rfl dX0_pass_65 (Nat.zero_le _) (Nat.zero_le _) rfl (by rw [pfls_1]) (by rw [show ni = i by omega, pfls_1])
        ·
          have d_36_3 : ¬ ni ≤ i := fun zz => c_36_3 ((nI_leI (a := ni) (b := i) (by omega) (by omega)).mpr zz)
          refine g_aload_n 0 C rfl dX0_pass_39 rfl ?_
          refine g_iload_n 2 C rfl dX0_pass_40 rfl ?_
          refine g_iload_n 1 C rfl dX0_pass_41 rfl ?_
          refine g_callV0 (C0 := RX0) (T := TX0) (N := 17) (ci := 0) (na := 2) (As := [.int (nI (i)), .int (d)]) (c_passForLoan l D cI cJ h (pfls σ d i) np nt no ni hIi i d (by omega)) C gX0_pass_X0_passForLoan rfl (by decide +kernel) rfl ⟨Nat.le_of_ble_eq_true rfl, Nat.le_of_ble_eq_true rfl⟩ rfl rfl rfl (Nat.le_of_ble_eq_true rfl) ⟨Nat.zero_le _, Nat.zero_le _⟩ rfl dX0_pass_42 ?_
          refine g_w (wA cI h (pfl (pfls σ d i) d i)) rfl ?_
          refine g_iincN 2 i 1 [(2, .int (nI (i + 1))), (0, .ref (h 0)), (1, .int (d))] C dX0_pass_45 rfl (by decide) (by decide) rfl ?_
          refine g_goto 31 C dX0_pass_48 (by decide) ?_
          refine g_lv [1, 2, 0] [(0, .ref (h 0)), (1, .int (d)), (2, .int (nI (i + 1)))] rfl ?_
          exact ih_31 (i + 1) (by omega) (by omega)
    refine g_lv [1, 2, 0] [(0, .ref (h 0)), (1, .int (d)), (2, .int (0))] rfl ?_
    exact loop_31 (ni + 1) 0 (by omega) (by omega)
  ·
    obtain rfl : K = 3 := hK.trans (by simp [th_pass, c_4_1, c_16_2])
    exact g_throw (cls := eISE) (text := "the book ends before that day") C hst rfl (by decide +kernel) (by decide +kernel) (by decide +kernel) (by decide +kernel) (by decide +kernel) (by decide +kernel) (by decide +kernel) hout dX0_pass_19 dX0_pass_22 dX0_pass_23 dX0_pass_25 dX0_pass_28 (by decide) (by decide) (by decide) (by decide) (by decide) (by decide) rfl
set_option maxRecDepth 100000 in
set_option maxHeartbeats 4000000 in
theorem c_has (l : Launch) (D : va_G) (cI cJ : ClassId) (hst : l.stackTraces = false) (h : Nat → Nat) (σ : gS) (np nt no ni : Nat) (hI : iA σ np nt no ni) (x t : Int32) (K : Nat) (hK : K = th_has nt no x t) : MC l yX0_has wsX0_has 7 111 D (tyIJ cI cJ) [.ref (h 0), .int (x), .int (t)] (wA cI h σ) (wA cI h σ) (exT K) (some (.int (r_has σ nt (cl x) t))) (nT K) := by
  have hI0 := hI
  obtain ⟨⟨hnp, hnp6⟩, ⟨hnt, hnt12⟩, ⟨hno, hno10⟩, ⟨hni, hni8⟩, hPT, hLC, hLH⟩ := hI
  refine MC.ofG (cc := cX0_has) (maxL := 3) (ret := (some .int)) [(0, .ref (h 0)), (1, .int (x)), (2, .int (t))] (by decide) rfl (Nat.le_of_ble_eq_true rfl) rfl ?_
  intro p e s m args below meth c C hr hout
  have hin : ∀ w ∈ wsX00, w ∈ wsX0_has := fun w h => by first | exact List.mem_cons_of_mem _ (List.mem_append_right _ h) | exact List.mem_cons_of_mem _ (List.mem_append_left _ (List.mem_append_right _ h)) | exact List.mem_cons_of_mem _ (List.mem_append_left _ (List.mem_append_left _ (List.mem_append_right _ h))) | exact List.mem_cons_of_mem _ (List.mem_append_left _ (List.mem_append_left _ (List.mem_append_left _ (List.mem_append_right _ h)))) | exact List.mem_cons_of_mem _ (List.mem_append_left _ (List.mem_append_left _ (List.mem_append_left _ (List.mem_append_left _ (List.mem_append_right _ h)))))
  refine g_iload_n 1 C rfl dX0_has_0 rfl ?_
  refine g_aload_n 0 C rfl dX0_has_1 rfl ?_
  refine g_get (C0 := RX0) (T := TX0) (N := 17) 0 0 2 (.int (σ.1 2)) C hin rfl rfl (by decide) (by decide +kernel) rfl dX0_has_2 ?_
  refine g_is (nI no) hno ?_
  by_cases c_5_1 : bad x (nI (no))
  ·
    obtain rfl : K = 1 := hK.trans (by simp [th_has, c_5_1])
    exact g_callSX (na := 2) (av := [.int (x), .int (nI (no))]) (c_checkNumber l D cI cJ hst _ x (nI (no)) 1 (if_pos c_5_1).symm) C gX0_has_X0_checkNumber rfl (by decide +kernel) rfl ⟨by decide, by decide⟩ rfl (Nat.le_of_ble_eq_true rfl) ⟨by decide, by decide⟩ hout (by decide) (by decide) rfl dX0_has_5
  refine g_callS0 (na := 2) (av := [.int (x), .int (nI (no))]) (c_checkNumber l D cI cJ hst _ x (nI (no)) 0 (if_neg c_5_1).symm) C gX0_has_X0_checkNumber rfl (by decide +kernel) rfl ⟨Nat.le_of_ble_eq_true rfl, Nat.le_of_ble_eq_true rfl⟩ rfl (Nat.le_of_ble_eq_true rfl) ⟨Nat.zero_le _, Nat.zero_le _⟩ rfl dX0_has_5 ?_
  obtain ⟨x', hx', rfl⟩ := nb_of (N := no) rfl (by omega) c_5_1
  have kx' : cl (nI x') = x' := cl_nI (by omega)
  refine g_iload_n 2 C rfl dX0_has_8 rfl ?_
  refine g_iconst (-1) C dX0_has_9 (by decide) ?_
  refine g_icmp_ne 22 C dX0_has_10 (by decide) (fun c_10_2 => ?_) (fun c_10_2 => ?_)
  ·
    refine g_iload_n 2 C rfl dX0_has_22 rfl ?_
    refine g_aload_n 0 C rfl dX0_has_23 rfl ?_
    refine g_get (C0 := RX0) (T := TX0) (N := 17) 0 0 1 (.int (σ.1 1)) C hin rfl rfl (by decide) (by decide +kernel) rfl dX0_has_24 ?_
    refine g_is (nI nt) hnt ?_
    by_cases c_27_3 : bad t (nI (nt))
    ·
      obtain rfl : K = 1 := hK.trans (by simp [th_has, c_5_1, c_10_2, c_27_3, kx'])
      exact g_callSX (na := 2) (av := [.int (t), .int (nI (nt))]) (c_checkNumber l D cI cJ hst _ t (nI (nt)) 1 (if_pos c_27_3).symm) C gX0_has_X0_checkNumber rfl (by decide +kernel) rfl ⟨by decide, by decide⟩ rfl (Nat.le_of_ble_eq_true rfl) ⟨by decide, by decide⟩ hout (by decide) (by decide) rfl dX0_has_27
    refine g_callS0 (na := 2) (av := [.int (t), .int (nI (nt))]) (c_checkNumber l D cI cJ hst _ t (nI (nt)) 0 (if_neg c_27_3).symm) C gX0_has_X0_checkNumber rfl (by decide +kernel) rfl ⟨Nat.le_of_ble_eq_true rfl, Nat.le_of_ble_eq_true rfl⟩ rfl (Nat.le_of_ble_eq_true rfl) ⟨Nat.zero_le _, Nat.zero_le _⟩ rfl dX0_has_27 ?_
    obtain ⟨t', ht', rfl⟩ := nb_of (N := nt) rfl (by omega) c_27_3
    have kt' : cl (nI t') = t' := cl_nI (by omega)
    refine g_aload_n 0 C rfl dX0_has_30 rfl ?_
    refine g_get (C0 := RX0) (T := TX0) (N := 17) 0 0 8 (.ref (h 4)) C hin rfl rfl (by decide) (by decide +kernel) rfl dX0_has_31 ?_
    refine g_iload_n 1 C rfl dX0_has_34 rfl ?_
    refine g_callS0 (na := 1) (av := [.int (nI (x'))]) (c_potRow l D cI cJ _ (nI (x'))) C gX0_has_X0_potRow rfl (by decide +kernel) rfl ⟨Nat.le_of_ble_eq_true rfl, Nat.le_of_ble_eq_true rfl⟩ rfl (Nat.le_of_ble_eq_true rfl) ⟨Nat.zero_le _, Nat.zero_le _⟩ rfl dX0_has_35 ?_
    refine g_iload_n 2 C rfl dX0_has_38 rfl ?_
    refine g_callS0 (na := 2) (av := [.int (nI (x')), .int (nI (t'))]) (c_place l D cI cJ _ x' t') C gX0_has_X0_place rfl (by decide +kernel) rfl ⟨Nat.le_of_ble_eq_true rfl, Nat.le_of_ble_eq_true rfl⟩ rfl (Nat.le_of_ble_eq_true rfl) ⟨Nat.zero_le _, Nat.zero_le _⟩ rfl dX0_has_39 ?_
    refine g_ialdN (cA := cI) (n := 1284) (a := h 4) (f := σ.2 3) (x' * 12 + t') 4 0 C rfl rfl (by omega) (by decide) dX0_has_42 ?_
    obtain rfl : K = 0 := hK.trans (by simp [th_has, c_5_1, c_10_2, c_27_3, kx', kt'])
    exact g_iret C hr rfl dX0_has_43 (Nat.zero_le _) (Nat.zero_le _) rfl (by rw [kx', r_has, if_neg c_10_2, kt']) rfl
  ·
    refine g_aload_n 0 C rfl dX0_has_13 rfl ?_
    refine g_iload_n 1 C rfl dX0_has_14 rfl ?_
    refine g_callS0 (na := 1) (av := [.int (nI (x'))]) (c_potRow l D cI cJ _ (nI (x'))) C gX0_has_X0_potRow rfl (by decide +kernel) rfl ⟨Nat.le_of_ble_eq_true rfl, Nat.le_of_ble_eq_true rfl⟩ rfl (Nat.le_of_ble_eq_true rfl) ⟨Nat.zero_le _, Nat.zero_le _⟩ rfl dX0_has_15 ?_
    refine g_callV0 (C0 := RX0) (T := TX0) (N := 17) (ci := 0) (na := 1) (As := [.int (nI (x'))]) (c_sumOfRow l D cI cJ h σ np nt no ni hI0 x' (by omega)) C gX0_has_X0_sumOfRow rfl (by decide +kernel) rfl ⟨Nat.le_of_ble_eq_true rfl, Nat.le_of_ble_eq_true rfl⟩ rfl rfl rfl (Nat.le_of_ble_eq_true rfl) ⟨Nat.zero_le _, Nat.zero_le _⟩ rfl dX0_has_18 ?_
    obtain rfl : K = 0 := hK.trans (by simp [th_has, c_5_1, c_10_2, kx'])
    exact g_iret C hr rfl dX0_has_21 (Nat.zero_le _) (Nat.zero_le _) rfl (by rw [kx', r_has, if_pos c_10_2]) rfl
set_option maxRecDepth 100000 in
set_option maxHeartbeats 4000000 in
theorem c_of (l : Launch) (D : va_G) (cI cJ : ClassId) (hst : l.stackTraces = false) (h : Nat → Nat) (σ : gS) (np nt no ni : Nat) (hI : iA σ np nt no ni) (q v : Int32) (K : Nat) (hK : K = th_of ni q v) : MC l yX0_of wsX0_of 7 139 D (tyIJ cI cJ) [.ref (h 0), .int (q), .int (v)] (wA cI h σ) (wA cI h σ) (exT K) (some (.int (r_of σ np nt ni (cl q) (cl v)))) (nT K) := by
  have hI0 := hI
  obtain ⟨⟨hnp, hnp6⟩, ⟨hnt, hnt12⟩, ⟨hno, hno10⟩, ⟨hni, hni8⟩, hPT, hLC, hLH⟩ := hI
  refine MC.ofG (cc := cX0_of) (maxL := 3) (ret := (some .int)) [(0, .ref (h 0)), (1, .int (q)), (2, .int (v))] (by decide) rfl (Nat.le_of_ble_eq_true rfl) rfl ?_
  intro p e s m args below meth c C hr hout
  have hin : ∀ w ∈ wsX00, w ∈ wsX0_of := fun w h => by first | exact List.mem_cons_of_mem _ (List.mem_append_right _ h) | exact List.mem_cons_of_mem _ (List.mem_append_left _ (List.mem_append_right _ h)) | exact List.mem_cons_of_mem _ (List.mem_append_left _ (List.mem_append_left _ (List.mem_append_right _ h))) | exact List.mem_cons_of_mem _ (List.mem_append_left _ (List.mem_append_left _ (List.mem_append_left _ (List.mem_append_right _ h)))) | exact List.mem_cons_of_mem _ (List.mem_append_left _ (List.mem_append_left _ (List.mem_append_left _ (List.mem_append_left _ (List.mem_append_right _ h)))))
  refine g_iload_n 1 C rfl dX0_of_0 rfl ?_
  refine g_aload_n 0 C rfl dX0_of_1 rfl ?_
  refine g_get (C0 := RX0) (T := TX0) (N := 17) 0 0 3 (.int (σ.1 3)) C hin rfl rfl (by decide) (by decide +kernel) rfl dX0_of_2 ?_
  refine g_is (nI ni) hni ?_
  by_cases c_5_1 : bad q (nI (ni))
  ·
    obtain rfl : K = 1 := hK.trans (by simp [th_of, c_5_1])
    exact g_callSX (na := 2) (av := [.int (q), .int (nI (ni))]) (c_checkNumber l D cI cJ hst _ q (nI (ni)) 1 (if_pos c_5_1).symm) C gX0_of_X0_checkNumber rfl (by decide +kernel) rfl ⟨by decide, by decide⟩ rfl (Nat.le_of_ble_eq_true rfl) ⟨by decide, by decide⟩ hout (by decide) (by decide) rfl dX0_of_5
  refine g_callS0 (na := 2) (av := [.int (q), .int (nI (ni))]) (c_checkNumber l D cI cJ hst _ q (nI (ni)) 0 (if_neg c_5_1).symm) C gX0_of_X0_checkNumber rfl (by decide +kernel) rfl ⟨Nat.le_of_ble_eq_true rfl, Nat.le_of_ble_eq_true rfl⟩ rfl (Nat.le_of_ble_eq_true rfl) ⟨Nat.zero_le _, Nat.zero_le _⟩ rfl dX0_of_5 ?_
  obtain ⟨q', hq', rfl⟩ := nb_of (N := ni) rfl (by omega) c_5_1
  have kq' : cl (nI q') = q' := cl_nI (by omega)
  refine g_iload_n 2 C rfl dX0_of_8 rfl ?_
  refine g_iconst 0 C dX0_of_9 (by decide) ?_
  refine g_bipush 8 C dX0_of_10 (by decide) ?_
  by_cases c_12_2 : out (v) (0) (8)
  ·
    obtain rfl : K = 2 := hK.trans (by simp [th_of, c_5_1, c_12_2, kq'])
    exact g_callSX (na := 3) (av := [.int (v), .int (0), .int (8)]) (c_checkRange l D cI cJ hst _ (v) (0) (8) 2 (if_pos c_12_2).symm) C gX0_of_X0_checkRange rfl (by decide +kernel) rfl ⟨by decide, by decide⟩ rfl (Nat.le_of_ble_eq_true rfl) ⟨by decide, by decide⟩ hout (by decide) (by decide) rfl dX0_of_12
  refine g_callS0 (na := 3) (av := [.int (v), .int (0), .int (8)]) (c_checkRange l D cI cJ hst _ (v) (0) (8) 0 (if_neg c_12_2).symm) C gX0_of_X0_checkRange rfl (by decide +kernel) rfl ⟨Nat.le_of_ble_eq_true rfl, Nat.le_of_ble_eq_true rfl⟩ rfl (Nat.le_of_ble_eq_true rfl) ⟨Nat.zero_le _, Nat.zero_le _⟩ rfl dX0_of_12 ?_
  have hv1 := out_lo c_12_2
  obtain ⟨v', hv', rfl⟩ := out_nat (M := 8) rfl (by decide) c_12_2
  have kv' : cl (nI v') = v' := cl_nI (by omega)
  refine g_iload_n 2 C rfl dX0_of_15 rfl ?_
  by_cases e0 : v' = 0
  ·
    subst e0
    refine g_tableIn (off := 40) 56 C dX0_of_16 (by decide +kernel) (by decide +kernel) (by decide +kernel) (by decide) ?_
    refine g_aload_n 0 C rfl dX0_of_56 rfl ?_
    refine g_get (C0 := RX0) (T := TX0) (N := 17) 0 0 9 (.ref (h 5)) C hin rfl rfl (by decide) (by decide +kernel) rfl dX0_of_57 ?_
    refine g_iload_n 1 C rfl dX0_of_60 rfl ?_
    refine g_ialdN (cA := cI) (n := 8) (a := h 5) (f := σ.2 4) q' 5 0 C rfl rfl (by omega) (by decide) dX0_of_61 ?_
    obtain rfl : K = 0 := hK.trans (by simp [th_of, c_5_1, c_12_2, kq', kv'])
    exact g_iret C hr rfl dX0_of_62 (Nat.zero_le _) (Nat.zero_le _) rfl (by rw [kq', kv']; rfl) rfl
  by_cases e1 : v' = 1
  ·
    subst e1
    refine g_tableIn (off := 47) 63 C dX0_of_16 (by decide +kernel) (by decide +kernel) (by decide +kernel) (by decide) ?_
    refine g_aload_n 0 C rfl dX0_of_63 rfl ?_
    refine g_get (C0 := RX0) (T := TX0) (N := 17) 0 0 10 (.ref (h 6)) C hin rfl rfl (by decide) (by decide +kernel) rfl dX0_of_64 ?_
    refine g_iload_n 1 C rfl dX0_of_67 rfl ?_
    refine g_ialdN (cA := cI) (n := 8) (a := h 6) (f := σ.2 5) q' 6 0 C rfl rfl (by omega) (by decide) dX0_of_68 ?_
    obtain rfl : K = 0 := hK.trans (by simp [th_of, c_5_1, c_12_2, kq', kv'])
    exact g_iret C hr rfl dX0_of_69 (Nat.zero_le _) (Nat.zero_le _) rfl (by rw [kq', kv']; rfl) rfl
  by_cases e2 : v' = 2
  ·
    subst e2
    refine g_tableIn (off := 54) 70 C dX0_of_16 (by decide +kernel) (by decide +kernel) (by decide +kernel) (by decide) ?_
    refine g_aload_n 0 C rfl dX0_of_70 rfl ?_
    refine g_iload_n 1 C rfl dX0_of_71 rfl ?_
    refine g_callV0 (C0 := RX0) (T := TX0) (N := 17) (ci := 0) (na := 1) (As := [.int (nI (q'))]) (c_valueOf l D cI cJ h σ np nt no ni hI0 q' (by omega)) C gX0_of_X0_valueOf rfl (by decide +kernel) rfl ⟨Nat.le_of_ble_eq_true rfl, Nat.le_of_ble_eq_true rfl⟩ rfl rfl rfl (Nat.le_of_ble_eq_true rfl) ⟨Nat.zero_le _, Nat.zero_le _⟩ rfl dX0_of_72 ?_
    obtain rfl : K = 0 := hK.trans (by simp [th_of, c_5_1, c_12_2, kq', kv'])
    exact g_iret C hr rfl dX0_of_75 (Nat.zero_le _) (Nat.zero_le _) rfl (by rw [kq', kv']; rfl) rfl
  by_cases e3 : v' = 3
  ·
    subst e3
    refine g_tableIn (off := 60) 76 C dX0_of_16 (by decide +kernel) (by decide +kernel) (by decide +kernel) (by decide) ?_
    refine g_aload_n 0 C rfl dX0_of_76 rfl ?_
    refine g_iload_n 1 C rfl dX0_of_77 rfl ?_
    refine g_callV0 (C0 := RX0) (T := TX0) (N := 17) (ci := 0) (na := 1) (As := [.int (nI (q'))]) (c_mainPigmentOf l D cI cJ h σ np nt no ni hI0 q' (by omega)) C gX0_of_X0_mainPigmentOf rfl (by decide +kernel) rfl ⟨Nat.le_of_ble_eq_true rfl, Nat.le_of_ble_eq_true rfl⟩ rfl rfl rfl (Nat.le_of_ble_eq_true rfl) ⟨Nat.zero_le _, Nat.zero_le _⟩ rfl dX0_of_78 ?_
    obtain rfl : K = 0 := hK.trans (by simp [th_of, c_5_1, c_12_2, kq', kv'])
    exact g_iret C hr rfl dX0_of_81 (Nat.zero_le _) (Nat.zero_le _) rfl (by rw [kq', kv']; rfl) rfl
  by_cases e4 : v' = 4
  ·
    subst e4
    refine g_tableIn (off := 66) 82 C dX0_of_16 (by decide +kernel) (by decide +kernel) (by decide +kernel) (by decide) ?_
    refine g_aload_n 0 C rfl dX0_of_82 rfl ?_
    refine g_iload_n 1 C rfl dX0_of_83 rfl ?_
    refine g_callV0 (C0 := RX0) (T := TX0) (N := 17) (ci := 0) (na := 1) (As := [.int (nI (q'))]) (c_isLent l D cI cJ h σ np nt no ni hI0 q' (by omega)) C gX0_of_X0_isLent rfl (by decide +kernel) rfl ⟨Nat.le_of_ble_eq_true rfl, Nat.le_of_ble_eq_true rfl⟩ rfl rfl rfl (Nat.le_of_ble_eq_true rfl) ⟨Nat.zero_le _, Nat.zero_le _⟩ rfl dX0_of_84 ?_
    refine g_if_eq 99 C dX0_of_87 (by decide) (fun c_87_3 => ?_) (fun c_87_3 => ?_)
    ·
      refine g_iconst (-1) C dX0_of_99 (by decide) ?_
      obtain rfl : K = 0 := hK.trans (by simp [th_of, c_5_1, c_12_2, c_87_3, kq', kv'])
      exact g_iret C hr rfl dX0_of_100 (Nat.zero_le _) (Nat.zero_le _) rfl (by rw [kq', kv']; exact congrArg (fun x => some (Value.int x)) (if_neg (bI_eq c_87_3)).symm) rfl
    ·
      refine g_aload_n 0 C rfl dX0_of_90 rfl ?_
      refine g_get (C0 := RX0) (T := TX0) (N := 17) 0 0 13 (.ref (h 9)) C hin rfl rfl (by decide) (by decide +kernel) rfl dX0_of_91 ?_
      refine g_iload_n 1 C rfl dX0_of_94 rfl ?_
      refine g_ialdN (cA := cI) (n := 8) (a := h 9) (f := σ.2 8) q' 9 0 C rfl rfl (by omega) (by decide) dX0_of_95 ?_
      refine g_goto 100 C dX0_of_96 (by decide) ?_
      obtain rfl : K = 0 := hK.trans (by simp [th_of, c_5_1, c_12_2, c_87_3, kq', kv'])
      exact g_iret C hr rfl dX0_of_100 (Nat.zero_le _) (Nat.zero_le _) rfl (by rw [kq', kv']; exact congrArg (fun x => some (Value.int x)) (if_pos (bI_ne c_87_3)).symm) rfl
  by_cases e5 : v' = 5
  ·
    subst e5
    refine g_tableIn (off := 85) 101 C dX0_of_16 (by decide +kernel) (by decide +kernel) (by decide +kernel) (by decide) ?_
    refine g_aload_n 0 C rfl dX0_of_101 rfl ?_
    refine g_get (C0 := RX0) (T := TX0) (N := 17) 0 0 12 (.ref (h 8)) C hin rfl rfl (by decide) (by decide +kernel) rfl dX0_of_102 ?_
    refine g_iload_n 1 C rfl dX0_of_105 rfl ?_
    refine g_ialdN (cA := cI) (n := 8) (a := h 8) (f := σ.2 7) q' 8 0 C rfl rfl (by omega) (by decide) dX0_of_106 ?_
    obtain rfl : K = 0 := hK.trans (by simp [th_of, c_5_1, c_12_2, kq', kv'])
    exact g_iret C hr rfl dX0_of_107 (Nat.zero_le _) (Nat.zero_le _) rfl (by rw [kq', kv']; rfl) rfl
  refine g_tableOut 108 C dX0_of_16 (Or.inr (by rw [nI_toInt (by omega)]; omega)) (by decide) ?_
  refine g_aload_n 0 C rfl dX0_of_108 rfl ?_
  refine g_iload_n 1 C rfl dX0_of_109 rfl ?_
  refine g_iload_n 2 C rfl dX0_of_110 rfl ?_
  refine g_bipush 6 C dX0_of_111 (by decide) ?_
  refine g_isubN v' 6 C (by omega) dX0_of_113 ?_
  refine g_callV0 (C0 := RX0) (T := TX0) (N := 17) (ci := 0) (na := 2) (As := [.int (nI (q')), .int (nI (v' - 6))]) (c_lookOf l D cI cJ h σ np nt no ni hI0 q' (v' - 6) (by omega) (by omega)) C gX0_of_X0_lookOf rfl (by decide +kernel) rfl ⟨Nat.le_of_ble_eq_true rfl, Nat.le_of_ble_eq_true rfl⟩ rfl rfl rfl (Nat.le_of_ble_eq_true rfl) ⟨Nat.zero_le _, Nat.zero_le _⟩ rfl dX0_of_114 ?_
  obtain rfl : K = 0 := hK.trans (by simp [th_of, c_5_1, c_12_2, kq', kv'])
  exact g_iret C hr rfl dX0_of_117 (Nat.zero_le _) (Nat.zero_le _) rfl (by rw [kq', kv', r_of, if_neg e0, if_neg e1, if_neg e2, if_neg e3, if_neg e4, if_neg e5]) rfl
set_option maxRecDepth 100000 in
set_option maxHeartbeats 4000000 in
theorem c_where (l : Launch) (D : va_G) (cI cJ : ClassId) (hst : l.stackTraces = false) (h : Nat → Nat) (σ : gS) (np nt no ni : Nat) (hI : iA σ np nt no ni) (t v : Int32) (K : Nat) (hK : K = th_where nt t v) : MC l yX0_where wsX0_where 7 112 D (tyIJ cI cJ) [.ref (h 0), .int (t), .int (v)] (wA cI h σ) (wA cI h σ) (exT K) (some (.int (r_where σ (cl t) (cl v)))) (nT K) := by
  have hI0 := hI
  obtain ⟨⟨hnp, hnp6⟩, ⟨hnt, hnt12⟩, ⟨hno, hno10⟩, ⟨hni, hni8⟩, hPT, hLC, hLH⟩ := hI
  refine MC.ofG (cc := cX0_where) (maxL := 3) (ret := (some .int)) [(0, .ref (h 0)), (1, .int (t)), (2, .int (v))] (by decide) rfl (Nat.le_of_ble_eq_true rfl) rfl ?_
  intro p e s m args below meth c C hr hout
  have hin : ∀ w ∈ wsX00, w ∈ wsX0_where := fun w h => by first | exact List.mem_cons_of_mem _ (List.mem_append_right _ h) | exact List.mem_cons_of_mem _ (List.mem_append_left _ (List.mem_append_right _ h)) | exact List.mem_cons_of_mem _ (List.mem_append_left _ (List.mem_append_left _ (List.mem_append_right _ h))) | exact List.mem_cons_of_mem _ (List.mem_append_left _ (List.mem_append_left _ (List.mem_append_left _ (List.mem_append_right _ h)))) | exact List.mem_cons_of_mem _ (List.mem_append_left _ (List.mem_append_left _ (List.mem_append_left _ (List.mem_append_left _ (List.mem_append_right _ h)))))
  refine g_iload_n 1 C rfl dX0_where_0 rfl ?_
  refine g_aload_n 0 C rfl dX0_where_1 rfl ?_
  refine g_get (C0 := RX0) (T := TX0) (N := 17) 0 0 1 (.int (σ.1 1)) C hin rfl rfl (by decide) (by decide +kernel) rfl dX0_where_2 ?_
  refine g_is (nI nt) hnt ?_
  by_cases c_5_1 : bad t (nI (nt))
  ·
    obtain rfl : K = 1 := hK.trans (by simp [th_where, c_5_1])
    exact g_callSX (na := 2) (av := [.int (t), .int (nI (nt))]) (c_checkNumber l D cI cJ hst _ t (nI (nt)) 1 (if_pos c_5_1).symm) C gX0_where_X0_checkNumber rfl (by decide +kernel) rfl ⟨by decide, by decide⟩ rfl (Nat.le_of_ble_eq_true rfl) ⟨by decide, by decide⟩ hout (by decide) (by decide) rfl dX0_where_5
  refine g_callS0 (na := 2) (av := [.int (t), .int (nI (nt))]) (c_checkNumber l D cI cJ hst _ t (nI (nt)) 0 (if_neg c_5_1).symm) C gX0_where_X0_checkNumber rfl (by decide +kernel) rfl ⟨Nat.le_of_ble_eq_true rfl, Nat.le_of_ble_eq_true rfl⟩ rfl (Nat.le_of_ble_eq_true rfl) ⟨Nat.zero_le _, Nat.zero_le _⟩ rfl dX0_where_5 ?_
  obtain ⟨t', ht', rfl⟩ := nb_of (N := nt) rfl (by omega) c_5_1
  have kt' : cl (nI t') = t' := cl_nI (by omega)
  refine g_iload_n 2 C rfl dX0_where_8 rfl ?_
  refine g_iconst 0 C dX0_where_9 (by decide) ?_
  refine g_iconst 3 C dX0_where_10 (by decide) ?_
  by_cases c_11_2 : out (v) (0) (3)
  ·
    obtain rfl : K = 2 := hK.trans (by simp [th_where, c_5_1, c_11_2, kt'])
    exact g_callSX (na := 3) (av := [.int (v), .int (0), .int (3)]) (c_checkRange l D cI cJ hst _ (v) (0) (3) 2 (if_pos c_11_2).symm) C gX0_where_X0_checkRange rfl (by decide +kernel) rfl ⟨by decide, by decide⟩ rfl (Nat.le_of_ble_eq_true rfl) ⟨by decide, by decide⟩ hout (by decide) (by decide) rfl dX0_where_11
  refine g_callS0 (na := 3) (av := [.int (v), .int (0), .int (3)]) (c_checkRange l D cI cJ hst _ (v) (0) (3) 0 (if_neg c_11_2).symm) C gX0_where_X0_checkRange rfl (by decide +kernel) rfl ⟨Nat.le_of_ble_eq_true rfl, Nat.le_of_ble_eq_true rfl⟩ rfl (Nat.le_of_ble_eq_true rfl) ⟨Nat.zero_le _, Nat.zero_le _⟩ rfl dX0_where_11 ?_
  have hv1 := out_lo c_11_2
  obtain ⟨v', hv', rfl⟩ := out_nat (M := 3) rfl (by decide) c_11_2
  have kv' : cl (nI v') = v' := cl_nI (by omega)
  refine g_iload_n 2 C rfl dX0_where_14 rfl ?_
  by_cases e0 : v' = 0
  ·
    subst e0
    refine g_tableIn (off := 25) 40 C dX0_where_15 (by decide +kernel) (by decide +kernel) (by decide +kernel) (by decide) ?_
    refine g_aload_n 0 C rfl dX0_where_40 rfl ?_
    refine g_get (C0 := RX0) (T := TX0) (N := 17) 0 0 7 (.ref (h 3)) C hin rfl rfl (by decide) (by decide +kernel) rfl dX0_where_41 ?_
    refine g_iload_n 1 C rfl dX0_where_44 rfl ?_
    refine g_ialdN (cA := cI) (n := 12) (a := h 3) (f := σ.2 2) t' 3 0 C rfl rfl (by omega) (by decide) dX0_where_45 ?_
    obtain rfl : K = 0 := hK.trans (by simp [th_where, c_5_1, c_11_2, kt', kv'])
    exact g_iret C hr rfl dX0_where_46 (Nat.zero_le _) (Nat.zero_le _) rfl (by rw [kt', kv']; rfl) rfl
  by_cases e1 : v' = 1
  ·
    subst e1
    refine g_tableIn (off := 32) 47 C dX0_where_15 (by decide +kernel) (by decide +kernel) (by decide +kernel) (by decide) ?_
    refine g_aload_n 0 C rfl dX0_where_47 rfl ?_
    refine g_iload_n 1 C rfl dX0_where_48 rfl ?_
    refine g_iconst 0 C dX0_where_49 (by decide) ?_
    refine g_bipush 10 C dX0_where_50 (by decide) ?_
    refine g_callV0 (C0 := RX0) (T := TX0) (N := 17) (ci := 0) (na := 3) (As := [.int (nI (t')), .int (0), .int (10)]) (c_sumOfTube l D cI cJ h σ np nt no ni hI0 t' 0 10 (by omega) (by decide)) C gX0_where_X0_sumOfTube rfl (by decide +kernel) rfl ⟨Nat.le_of_ble_eq_true rfl, Nat.le_of_ble_eq_true rfl⟩ rfl rfl rfl (Nat.le_of_ble_eq_true rfl) ⟨Nat.zero_le _, Nat.zero_le _⟩ rfl dX0_where_52 ?_
    obtain rfl : K = 0 := hK.trans (by simp [th_where, c_5_1, c_11_2, kt', kv'])
    exact g_iret C hr rfl dX0_where_55 (Nat.zero_le _) (Nat.zero_le _) rfl (by rw [kt', kv']; rfl) rfl
  by_cases e2 : v' = 2
  ·
    subst e2
    refine g_tableIn (off := 41) 56 C dX0_where_15 (by decide +kernel) (by decide +kernel) (by decide +kernel) (by decide) ?_
    refine g_aload_n 0 C rfl dX0_where_56 rfl ?_
    refine g_iload_n 1 C rfl dX0_where_57 rfl ?_
    refine g_bipush 10 C dX0_where_58 (by decide) ?_
    refine g_bipush 106 C dX0_where_60 (by decide) ?_
    refine g_callV0 (C0 := RX0) (T := TX0) (N := 17) (ci := 0) (na := 3) (As := [.int (nI (t')), .int (10), .int (106)]) (c_sumOfTube l D cI cJ h σ np nt no ni hI0 t' 10 96 (by omega) (by decide)) C gX0_where_X0_sumOfTube rfl (by decide +kernel) rfl ⟨Nat.le_of_ble_eq_true rfl, Nat.le_of_ble_eq_true rfl⟩ rfl rfl rfl (Nat.le_of_ble_eq_true rfl) ⟨Nat.zero_le _, Nat.zero_le _⟩ rfl dX0_where_62 ?_
    obtain rfl : K = 0 := hK.trans (by simp [th_where, c_5_1, c_11_2, kt', kv'])
    exact g_iret C hr rfl dX0_where_65 (Nat.zero_le _) (Nat.zero_le _) rfl (by rw [kt', kv']; rfl) rfl
  refine g_tableOut 66 C dX0_where_15 (Or.inr (by rw [nI_toInt (by omega)]; omega)) (by decide) ?_
  refine g_aload_n 0 C rfl dX0_where_66 rfl ?_
  refine g_iload_n 1 C rfl dX0_where_67 rfl ?_
  refine g_bipush 106 C dX0_where_68 (by decide) ?_
  refine g_bipush 107 C dX0_where_70 (by decide) ?_
  refine g_callV0 (C0 := RX0) (T := TX0) (N := 17) (ci := 0) (na := 3) (As := [.int (nI (t')), .int (106), .int (107)]) (c_sumOfTube l D cI cJ h σ np nt no ni hI0 t' 106 1 (by omega) (by decide)) C gX0_where_X0_sumOfTube rfl (by decide +kernel) rfl ⟨Nat.le_of_ble_eq_true rfl, Nat.le_of_ble_eq_true rfl⟩ rfl rfl rfl (Nat.le_of_ble_eq_true rfl) ⟨Nat.zero_le _, Nat.zero_le _⟩ rfl dX0_where_72 ?_
  obtain rfl : K = 0 := hK.trans (by simp [th_where, c_5_1, c_11_2, kt', kv'])
  exact g_iret C hr rfl dX0_where_75 (Nat.zero_le _) (Nat.zero_le _) rfl (by rw [kt', kv', r_where, if_neg e0, if_neg e1, if_neg e2]) rfl
set_option maxRecDepth 100000 in
set_option maxHeartbeats 4000000 in
theorem c_recipe (l : Launch) (D : va_G) (cI cJ : ClassId) (hst : l.stackTraces = false) (h : Nat → Nat) (σ : gS) (np nt no ni : Nat) (hI : iA σ np nt no ni) (r g b : Int32) (K : Nat) (hK : K = th_recipe r g b) : MC l yX0_recipe wsX0_recipe 8 134 D (tyIJ cI cJ) [.ref (h 0), .int (r), .int (g), .int (b)] (wA cI h σ) (wA cI h σ) (exT K) (some (.int (rA σ r g b nt nt).1)) (nT K) := by
  have hI0 := hI
  obtain ⟨⟨hnp, hnp6⟩, ⟨hnt, hnt12⟩, ⟨hno, hno10⟩, ⟨hni, hni8⟩, hPT, hLC, hLH⟩ := hI
  refine MC.ofG (cc := cX0_recipe) (maxL := 10) (ret := (some .int)) [(0, .ref (h 0)), (1, .int (r)), (2, .int (g)), (3, .int (b))] (by decide) rfl (Nat.le_of_ble_eq_true rfl) rfl ?_
  intro p e s m args below meth c C hr hout
  have hin : ∀ w ∈ wsX00, w ∈ wsX0_recipe := fun w h => by first | exact List.mem_cons_of_mem _ (List.mem_append_right _ h) | exact List.mem_cons_of_mem _ (List.mem_append_left _ (List.mem_append_right _ h)) | exact List.mem_cons_of_mem _ (List.mem_append_left _ (List.mem_append_left _ (List.mem_append_right _ h))) | exact List.mem_cons_of_mem _ (List.mem_append_left _ (List.mem_append_left _ (List.mem_append_left _ (List.mem_append_right _ h)))) | exact List.mem_cons_of_mem _ (List.mem_append_left _ (List.mem_append_left _ (List.mem_append_left _ (List.mem_append_left _ (List.mem_append_right _ h)))))
  refine g_iload_n 1 C rfl dX0_recipe_0 rfl ?_
  refine g_iload_n 2 C rfl dX0_recipe_1 rfl ?_
  refine g_iload_n 3 C rfl dX0_recipe_2 rfl ?_
  by_cases c_3_1 : out (r) 0 255 ∨ out (g) 0 255 ∨ out (b) 0 255
  ·
    obtain rfl : K = 2 := hK.trans (by simp only [th_recipe, c_3_1, if_true, if_false])
    exact g_callSX (na := 3) (av := [.int (r), .int (g), .int (b)]) (c_checkColour l D cI cJ hst _ (r) (g) (b) 2 (if_pos c_3_1).symm) C gX0_recipe_X0_checkColour rfl (by decide +kernel) rfl ⟨by decide, by decide⟩ rfl (Nat.le_of_ble_eq_true rfl) ⟨by decide, by decide⟩ hout (by decide) (by decide) rfl dX0_recipe_3
  refine g_callS0 (na := 3) (av := [.int (r), .int (g), .int (b)]) (c_checkColour l D cI cJ hst _ (r) (g) (b) 0 (if_neg c_3_1).symm) C gX0_recipe_X0_checkColour rfl (by decide +kernel) rfl ⟨Nat.le_of_ble_eq_true rfl, Nat.le_of_ble_eq_true rfl⟩ rfl (Nat.le_of_ble_eq_true rfl) ⟨Nat.zero_le _, Nat.zero_le _⟩ rfl dX0_recipe_3 ?_
  refine g_iconst (-1) C dX0_recipe_6 (by decide) ?_
  refine g_istore [(4, .int ((-1))), (0, .ref (h 0)), (1, .int (r)), (2, .int (g)), (3, .int (b))] C dX0_recipe_7 (by decide) rfl ?_
  refine g_iconst 0 C dX0_recipe_9 (by decide) ?_
  refine g_istore [(5, .int (0)), (4, .int ((-1))), (0, .ref (h 0)), (1, .int (r)), (2, .int (g)), (3, .int (b))] C dX0_recipe_10 (by decide) rfl ?_
  refine g_iconst 0 C dX0_recipe_12 (by decide) ?_
  refine g_istore [(6, .int (0)), (5, .int (0)), (4, .int ((-1))), (0, .ref (h 0)), (1, .int (r)), (2, .int (g)), (3, .int (b))] C dX0_recipe_13 (by decide) rfl ?_
  have loop_15 : ∀ (fu : Nat) (i : Nat), i ≤ nt → nt + 1 ≤ i + fu → G p l e ({ frames := 8, cells := (nT K), slots := 6 * (nT K), locals := 134 } : Room) s m args below meth c D (va_A (wA cI h σ) s.heap.size) 10 0 0 (gQ below D (wA cI h σ) (wA cI h σ) (exT K) (some (.int (rA σ r g b nt nt).1)) (nT K) args s) (wA cI h σ) [(0, .ref (h 0)), (1, .int (r)), (2, .int (g)), (3, .int (b)), (4, .int ((rA σ r g b nt i).1)), (5, .int ((rA σ r g b nt i).2)), (6, .int (nI (i)))] 15 [] := by
    intro fu
    induction fu with
    | zero => intro i hi hf; exact absurd True.intro (by omega)
    | succ fu ih_15 =>
      intro i hi hf
      refine g_iload 6 C rfl dX0_recipe_15 ?_
      refine g_aload_n 0 C rfl dX0_recipe_17 rfl ?_
      refine g_get (C0 := RX0) (T := TX0) (N := 17) 0 0 1 (.int (σ.1 1)) C hin rfl rfl (by decide) (by decide +kernel) rfl dX0_recipe_18 ?_
      refine g_is (nI nt) hnt ?_
      refine g_icmp_ge 173 C dX0_recipe_21 (by decide) (fun c_21_2 => ?_) (fun c_21_2 => ?_)
      ·
        have d_21_2 : nt ≤ i := (nI_leI (a := nt) (b := i) (by omega) (by omega)).mp c_21_2
        refine g_iload 4 C rfl dX0_recipe_173 ?_
        obtain rfl : K = 0 := hK.trans (by simp only [th_recipe, c_3_1, if_true, if_false])
        exact g_iret C hr rfl dX0_recipe_175 (Nat.zero_le _) (Nat.zero_le _) rfl (by rw [show nt = i by omega]) rfl
      ·
        have d_21_2 : ¬ nt ≤ i := fun zz => c_21_2 ((nI_leI (a := nt) (b := i) (by omega) (by omega)).mpr zz)
        refine g_iload 6 C rfl dX0_recipe_24 ?_
        refine g_istore [(7, .int (nI (i))), (0, .ref (h 0)), (1, .int (r)), (2, .int (g)), (3, .int (b)), (4, .int ((rA σ r g b nt i).1)), (5, .int ((rA σ r g b nt i).2)), (6, .int (nI (i)))] C dX0_recipe_26 (by decide) rfl ?_
        have loop_28 : ∀ (fu : Nat) (k : Nat), i + k ≤ nt → nt + 1 ≤ i + k + fu → G p l e ({ frames := 8, cells := (nT K), slots := 6 * (nT K), locals := 134 } : Room) s m args below meth c D (va_A (wA cI h σ) s.heap.size) 10 0 0 (gQ below D (wA cI h σ) (wA cI h σ) (exT K) (some (.int (rA σ r g b nt nt).1)) (nT K) args s) (wA cI h σ) [(0, .ref (h 0)), (1, .int (r)), (2, .int (g)), (3, .int (b)), (4, .int ((rB σ r g b i (rA σ r g b nt i) k).1)), (5, .int ((rB σ r g b i (rA σ r g b nt i) k).2)), (6, .int (nI (i))), (7, .int (nI (i + k)))] 28 [] := by
          intro fu
          induction fu with
          | zero => intro k hk hf2; exact absurd True.intro (by omega)
          | succ fu ih_28 =>
            intro k hk hf2
            refine g_iload 7 C rfl dX0_recipe_28 ?_
            refine g_aload_n 0 C rfl dX0_recipe_30 rfl ?_
            refine g_get (C0 := RX0) (T := TX0) (N := 17) 0 0 1 (.int (σ.1 1)) C hin rfl rfl (by decide) (by decide +kernel) rfl dX0_recipe_31 ?_
            refine g_is (nI nt) hnt ?_
            refine g_icmp_ge 167 C dX0_recipe_34 (by decide) (fun c_34_3 => ?_) (fun c_34_3 => ?_)
            ·
              have d_34_3 : nt ≤ (i + k) := (nI_leI (a := nt) (b := (i + k)) (by omega) (by omega)).mp c_34_3
              have ea : rA σ r g b nt (i + 1) = rB σ r g b i (rA σ r g b nt i) k := by rw [rA, show nt - i = k by omega]
              refine g_iincN 6 i 1 [(6, .int (nI (i + 1))), (0, .ref (h 0)), (1, .int (r)), (2, .int (g)), (3, .int (b)), (4, .int ((rB σ r g b i (rA σ r g b nt i) k).1)), (5, .int ((rB σ r g b i (rA σ r g b nt i) k).2)), (7, .int (nI (i + k)))] C dX0_recipe_167 rfl (by decide) (by decide) rfl ?_
              refine g_goto 15 C dX0_recipe_170 (by decide) ?_
              refine g_lv [1, 2, 3, 4, 5, 6, 0] [(0, .ref (h 0)), (1, .int (r)), (2, .int (g)), (3, .int (b)), (4, .int ((rB σ r g b i (rA σ r g b nt i) k).1)), (5, .int ((rB σ r g b i (rA σ r g b nt i) k).2)), (6, .int (nI (i + 1)))] rfl ?_
              have hx := ih_15 (i + 1) (by omega) (by omega)
              rw [ea] at hx
              exact hx
            ·
              have d_34_3 : ¬ nt ≤ (i + k) := fun zz => c_34_3 ((nI_leI (a := nt) (b := (i + k)) (by omega) (by omega)).mpr zz)
              refine g_aload_n 0 C rfl dX0_recipe_37 rfl ?_
              refine g_get (C0 := RX0) (T := TX0) (N := 17) 0 0 7 (.ref (h 3)) C hin rfl rfl (by decide) (by decide +kernel) rfl dX0_recipe_38 ?_
              refine g_iload 6 C rfl dX0_recipe_41 ?_
              refine g_ialdN (cA := cI) (n := 12) (a := h 3) (f := σ.2 2) i 3 0 C rfl rfl (by omega) (by decide) dX0_recipe_43 ?_
              refine g_if_eq 161 C dX0_recipe_44 (by decide) (fun c_44_4 => ?_) (fun c_44_4 => ?_)
              ·
                have eb : rB σ r g b i (rA σ r g b nt i) (k + 1) = rB σ r g b i (rA σ r g b nt i) k := if_pos (Or.inl c_44_4)
                refine g_iincN 7 (i + k) 1 [(7, .int (nI ((i + k) + 1))), (0, .ref (h 0)), (1, .int (r)), (2, .int (g)), (3, .int (b)), (4, .int ((rB σ r g b i (rA σ r g b nt i) k).1)), (5, .int ((rB σ r g b i (rA σ r g b nt i) k).2)), (6, .int (nI (i)))] C dX0_recipe_161 rfl (by decide) (by decide) rfl ?_
                refine g_goto 28 C dX0_recipe_164 (by decide) ?_
                refine g_lv [1, 2, 3, 4, 5, 6, 7, 0] [(0, .ref (h 0)), (1, .int (r)), (2, .int (g)), (3, .int (b)), (4, .int ((rB σ r g b i (rA σ r g b nt i) k).1)), (5, .int ((rB σ r g b i (rA σ r g b nt i) k).2)), (6, .int (nI (i))), (7, .int (nI ((i + k) + 1)))] rfl ?_
                have hx := ih_28 (k + 1) (by omega) (by omega)
                rw [eb] at hx
                exact hx
              ·
                have za := c_44_4
                refine g_aload_n 0 C rfl dX0_recipe_47 rfl ?_
                refine g_get (C0 := RX0) (T := TX0) (N := 17) 0 0 7 (.ref (h 3)) C hin rfl rfl (by decide) (by decide +kernel) rfl dX0_recipe_48 ?_
                refine g_iload 7 C rfl dX0_recipe_51 ?_
                refine g_ialdN (cA := cI) (n := 12) (a := h 3) (f := σ.2 2) (i + k) 3 0 C rfl rfl (by omega) (by decide) dX0_recipe_53 ?_
                refine g_if_ne 60 C dX0_recipe_54 (by decide) (fun c_54_5 => ?_) (fun c_54_5 => ?_)
                ·
                  have zb := c_54_5
                  refine g_iconst 0 C dX0_recipe_60 (by decide) ?_
                  refine g_istore [(8, .int (0)), (0, .ref (h 0)), (1, .int (r)), (2, .int (g)), (3, .int (b)), (4, .int ((rB σ r g b i (rA σ r g b nt i) k).1)), (5, .int ((rB σ r g b i (rA σ r g b nt i) k).2)), (6, .int (nI (i))), (7, .int (nI (i + k)))] C dX0_recipe_61 (by decide) rfl ?_
                  have loop_63 : ∀ (fu : Nat) (q : Nat), q ≤ 5 → 6 ≤ q + fu → G p l e ({ frames := 8, cells := (nT K), slots := 6 * (nT K), locals := 134 } : Room) s m args below meth c D (va_A (wA cI h σ) s.heap.size) 10 0 0 (gQ below D (wA cI h σ) (wA cI h σ) (exT K) (some (.int (rA σ r g b nt nt).1)) (nT K) args s) (wA cI h σ) [(0, .ref (h 0)), (1, .int (r)), (2, .int (g)), (3, .int (b)), (4, .int ((rP σ r g b i (i + k) (rB σ r g b i (rA σ r g b nt i) k) q).1)), (5, .int ((rP σ r g b i (i + k) (rB σ r g b i (rA σ r g b nt i) k) q).2)), (6, .int (nI (i))), (7, .int (nI (i + k))), (8, .int (nI (q)))] 63 [] := by
                    intro fu
                    induction fu with
                    | zero => intro q hq hf3; exact absurd True.intro (by omega)
                    | succ fu ih_63 =>
                      intro q hq hf3
                      refine g_iload 8 C rfl dX0_recipe_63 ?_
                      refine g_iconst 4 C dX0_recipe_65 (by decide) ?_
                      refine g_icmp_gt 161 C dX0_recipe_66 (by decide) (fun c_66_6 => ?_) (fun c_66_6 => ?_)
                      ·
                        have d_66_6 : 4 < q := (nI_ltI (a := 4) (b := q) (by omega) (by omega)).mp c_66_6
                        have eb : rB σ r g b i (rA σ r g b nt i) (k + 1) = rP σ r g b i (i + k) (rB σ r g b i (rA σ r g b nt i) k) q := (if_neg (fun z => z.elim za zb)).trans (by rw [show q = 5 by omega])
                        refine g_iincN 7 (i + k) 1 [(7, .int (nI ((i + k) + 1))), (0, .ref (h 0)), (1, .int (r)), (2, .int (g)), (3, .int (b)), (4, .int ((rP σ r g b i (i + k) (rB σ r g b i (rA σ r g b nt i) k) q).1)), (5, .int ((rP σ r g b i (i + k) (rB σ r g b i (rA σ r g b nt i) k) q).2)), (6, .int (nI (i))), (8, .int (nI (q)))] C dX0_recipe_161 rfl (by decide) (by decide) rfl ?_
                        refine g_goto 28 C dX0_recipe_164 (by decide) ?_
                        refine g_lv [1, 2, 3, 4, 5, 6, 7, 0] [(0, .ref (h 0)), (1, .int (r)), (2, .int (g)), (3, .int (b)), (4, .int ((rP σ r g b i (i + k) (rB σ r g b i (rA σ r g b nt i) k) q).1)), (5, .int ((rP σ r g b i (i + k) (rB σ r g b i (rA σ r g b nt i) k) q).2)), (6, .int (nI (i))), (7, .int (nI ((i + k) + 1)))] rfl ?_
                        have hx := ih_28 (k + 1) (by omega) (by omega)
                        rw [eb] at hx
                        exact hx
                      ·
                        have d_66_6 : ¬ 4 < q := fun zz => c_66_6 ((nI_ltI (a := 4) (b := q) (by omega) (by omega)).mpr zz)
                        refine g_aload_n 0 C rfl dX0_recipe_69 rfl ?_
                        refine g_iload 6 C rfl dX0_recipe_70 ?_
                        refine g_iload 7 C rfl dX0_recipe_72 ?_
                        refine g_iload 8 C rfl dX0_recipe_74 ?_
                        refine g_iconst 0 C dX0_recipe_76 (by decide) ?_
                        refine g_callV0 (C0 := RX0) (T := TX0) (N := 17) (ci := 0) (na := 4) (As := [.int (nI (i)), .int (nI (i + k)), .int (nI (q)), .int (0)]) (c_mixed l D cI cJ h σ np nt no ni hI0 i (i + k) (nI (q)) 0 (by omega) (by omega) (by decide)) C gX0_recipe_X0_mixed rfl (by decide +kernel) rfl ⟨Nat.le_of_ble_eq_true rfl, Nat.le_of_ble_eq_true rfl⟩ rfl rfl rfl (Nat.le_of_ble_eq_true rfl) ⟨Nat.zero_le _, Nat.zero_le _⟩ rfl dX0_recipe_77 ?_
                        refine g_iload_n 1 C rfl dX0_recipe_80 rfl ?_
                        refine g_isub C dX0_recipe_81 ?_
                        refine g_callS0 (na := 1) (av := [.int ((mixd σ i (i + k) (nI (q)) 0) - r)]) (c_square l D cI cJ _ (((mixd σ i (i + k) (nI (q)) 0) - r))) C gX0_recipe_X0_square rfl (by decide +kernel) rfl ⟨Nat.le_of_ble_eq_true rfl, Nat.le_of_ble_eq_true rfl⟩ rfl (Nat.le_of_ble_eq_true rfl) ⟨Nat.zero_le _, Nat.zero_le _⟩ rfl dX0_recipe_82 ?_
                        refine g_aload_n 0 C rfl dX0_recipe_85 rfl ?_
                        refine g_iload 6 C rfl dX0_recipe_86 ?_
                        refine g_iload 7 C rfl dX0_recipe_88 ?_
                        refine g_iload 8 C rfl dX0_recipe_90 ?_
                        refine g_iconst 1 C dX0_recipe_92 (by decide) ?_
                        refine g_callV0 (C0 := RX0) (T := TX0) (N := 17) (ci := 0) (na := 4) (As := [.int (nI (i)), .int (nI (i + k)), .int (nI (q)), .int (1)]) (c_mixed l D cI cJ h σ np nt no ni hI0 i (i + k) (nI (q)) 1 (by omega) (by omega) (by decide)) C gX0_recipe_X0_mixed rfl (by decide +kernel) rfl ⟨Nat.le_of_ble_eq_true rfl, Nat.le_of_ble_eq_true rfl⟩ rfl rfl rfl (Nat.le_of_ble_eq_true rfl) ⟨Nat.zero_le _, Nat.zero_le _⟩ rfl dX0_recipe_93 ?_
                        refine g_iload_n 2 C rfl dX0_recipe_96 rfl ?_
                        refine g_isub C dX0_recipe_97 ?_
                        refine g_callS0 (na := 1) (av := [.int ((mixd σ i (i + k) (nI (q)) 1) - g)]) (c_square l D cI cJ _ (((mixd σ i (i + k) (nI (q)) 1) - g))) C gX0_recipe_X0_square rfl (by decide +kernel) rfl ⟨Nat.le_of_ble_eq_true rfl, Nat.le_of_ble_eq_true rfl⟩ rfl (Nat.le_of_ble_eq_true rfl) ⟨Nat.zero_le _, Nat.zero_le _⟩ rfl dX0_recipe_98 ?_
                        refine g_iadd C dX0_recipe_101 ?_
                        refine g_aload_n 0 C rfl dX0_recipe_102 rfl ?_
                        refine g_iload 6 C rfl dX0_recipe_103 ?_
                        refine g_iload 7 C rfl dX0_recipe_105 ?_
                        refine g_iload 8 C rfl dX0_recipe_107 ?_
                        refine g_iconst 2 C dX0_recipe_109 (by decide) ?_
                        refine g_callV0 (C0 := RX0) (T := TX0) (N := 17) (ci := 0) (na := 4) (As := [.int (nI (i)), .int (nI (i + k)), .int (nI (q)), .int (2)]) (c_mixed l D cI cJ h σ np nt no ni hI0 i (i + k) (nI (q)) 2 (by omega) (by omega) (by decide)) C gX0_recipe_X0_mixed rfl (by decide +kernel) rfl ⟨Nat.le_of_ble_eq_true rfl, Nat.le_of_ble_eq_true rfl⟩ rfl rfl rfl (Nat.le_of_ble_eq_true rfl) ⟨Nat.zero_le _, Nat.zero_le _⟩ rfl dX0_recipe_110 ?_
                        refine g_iload_n 3 C rfl dX0_recipe_113 rfl ?_
                        refine g_isub C dX0_recipe_114 ?_
                        refine g_callS0 (na := 1) (av := [.int ((mixd σ i (i + k) (nI (q)) 2) - b)]) (c_square l D cI cJ _ (((mixd σ i (i + k) (nI (q)) 2) - b))) C gX0_recipe_X0_square rfl (by decide +kernel) rfl ⟨Nat.le_of_ble_eq_true rfl, Nat.le_of_ble_eq_true rfl⟩ rfl (Nat.le_of_ble_eq_true rfl) ⟨Nat.zero_le _, Nat.zero_le _⟩ rfl dX0_recipe_115 ?_
                        refine g_iadd C dX0_recipe_118 ?_
                        refine g_is ((rdist σ i (i + k) q r g b)) rfl ?_
                        refine g_istore [(9, .int (rdist σ i (i + k) q r g b)), (0, .ref (h 0)), (1, .int (r)), (2, .int (g)), (3, .int (b)), (4, .int ((rP σ r g b i (i + k) (rB σ r g b i (rA σ r g b nt i) k) q).1)), (5, .int ((rP σ r g b i (i + k) (rB σ r g b i (rA σ r g b nt i) k) q).2)), (6, .int (nI (i))), (7, .int (nI (i + k))), (8, .int (nI (q)))] C dX0_recipe_119 (by decide) rfl ?_
                        refine g_iload 5 C rfl dX0_recipe_121 ?_
                        refine g_iconst (-1) C dX0_recipe_123 (by decide) ?_
                        refine g_icmp_eq 134 C dX0_recipe_124 (by decide) (fun c_124_7 => ?_) (fun c_124_7 => ?_)
                        ·
                          have ep : rP σ r g b i (i + k) (rB σ r g b i (rA σ r g b nt i) k) (q + 1) = (nI (1000 * i + 10 * (i + k) + q), rdist σ i (i + k) q r g b) := if_pos (Or.inl c_124_7)
                          refine g_sipush 1000 C dX0_recipe_134 (by decide) ?_
                          refine g_iload 7 C rfl dX0_recipe_137 ?_
                          refine g_imulN 1000 i C dX0_recipe_139 ?_
                          refine g_bipush 10 C dX0_recipe_140 (by decide) ?_
                          refine g_iload 8 C rfl dX0_recipe_142 ?_
                          refine g_imulN 10 (i + k) C dX0_recipe_144 ?_
                          refine g_iaddN (1000 * i) (10 * (i + k)) C dX0_recipe_145 ?_
                          refine g_iload 9 C rfl dX0_recipe_146 ?_
                          refine g_iaddN ((1000 * i) + (10 * (i + k))) q C dX0_recipe_148 ?_
                          refine g_istore [(4, .int (nI (((1000 * i) + (10 * (i + k))) + q))), (9, .int (rdist σ i (i + k) q r g b)), (0, .ref (h 0)), (1, .int (r)), (2, .int (g)), (3, .int (b)), (5, .int ((rP σ r g b i (i + k) (rB σ r g b i (rA σ r g b nt i) k) q).2)), (6, .int (nI (i))), (7, .int (nI (i + k))), (8, .int (nI (q)))] C dX0_recipe_149 (by decide) rfl ?_
                          refine g_iload 1 C rfl dX0_recipe_151 ?_
                          refine g_istore [(5, .int (rdist σ i (i + k) q r g b)), (4, .int (nI (((1000 * i) + (10 * (i + k))) + q))), (9, .int (rdist σ i (i + k) q r g b)), (0, .ref (h 0)), (1, .int (r)), (2, .int (g)), (3, .int (b)), (6, .int (nI (i))), (7, .int (nI (i + k))), (8, .int (nI (q)))] C dX0_recipe_153 (by decide) rfl ?_
                          refine g_iincN 9 q 1 [(8, .int (nI (q + 1))), (5, .int (rdist σ i (i + k) q r g b)), (4, .int (nI (((1000 * i) + (10 * (i + k))) + q))), (9, .int (rdist σ i (i + k) q r g b)), (0, .ref (h 0)), (1, .int (r)), (2, .int (g)), (3, .int (b)), (6, .int (nI (i))), (7, .int (nI (i + k)))] C dX0_recipe_155 rfl (by decide) (by decide) rfl ?_
                          refine g_goto 63 C dX0_recipe_158 (by decide) ?_
                          refine g_lv [4, 5, 6, 7, 2, 1, 8, 9, 0] [(0, .ref (h 0)), (1, .int (r)), (2, .int (g)), (3, .int (b)), (4, .int (nI (((1000 * i) + (10 * (i + k))) + q))), (5, .int (rdist σ i (i + k) q r g b)), (6, .int (nI (i))), (7, .int (nI (i + k))), (8, .int (nI (q + 1)))] rfl ?_
                          have hx := ih_63 (q + 1) (by omega) (by omega)
                          rw [ep] at hx
                          exact hx
                        ·
                          have zc := c_124_7
                          refine g_iload 0 C rfl dX0_recipe_127 ?_
                          refine g_iload 6 C rfl dX0_recipe_129 ?_
                          refine g_icmp_ge 155 C dX0_recipe_131 (by decide) (fun c_131_8 => ?_) (fun c_131_8 => ?_)
                          ·
                            have ep : rP σ r g b i (i + k) (rB σ r g b i (rA σ r g b nt i) k) (q + 1) = rP σ r g b i (i + k) (rB σ r g b i (rA σ r g b nt i) k) q := if_neg (fun z => z.elim zc (fun y => y c_131_8))
                            refine g_iincN 9 q 1 [(8, .int (nI (q + 1))), (9, .int (rdist σ i (i + k) q r g b)), (0, .ref (h 0)), (1, .int (r)), (2, .int (g)), (3, .int (b)), (4, .int ((rP σ r g b i (i + k) (rB σ r g b i (rA σ r g b nt i) k) q).1)), (5, .int ((rP σ r g b i (i + k) (rB σ r g b i (rA σ r g b nt i) k) q).2)), (6, .int (nI (i))), (7, .int (nI (i + k)))] C dX0_recipe_155 rfl (by decide) (by decide) rfl ?_
                            refine g_goto 63 C dX0_recipe_158 (by decide) ?_
                            refine g_lv [2, 3, 4, 5, 6, 7, 8, 9, 0] [(0, .ref (h 0)), (1, .int (r)), (2, .int (g)), (3, .int (b)), (4, .int ((rP σ r g b i (i + k) (rB σ r g b i (rA σ r g b nt i) k) q).1)), (5, .int ((rP σ r g b i (i + k) (rB σ r g b i (rA σ r g b nt i) k) q).2)), (6, .int (nI (i))), (7, .int (nI (i + k))), (8, .int (nI (q + 1)))] rfl ?_
                            have hx := ih_63 (q + 1) (by omega) (by omega)
                            rw [ep] at hx
                            exact hx
                          ·
                            have ep : rP σ r g b i (i + k) (rB σ r g b i (rA σ r g b nt i) k) (q + 1) = (nI (1000 * i + 10 * (i + k) + q), rdist σ i (i + k) q r g b) := if_pos (Or.inr c_131_8)
                            refine g_sipush 1000 C dX0_recipe_134 (by decide) ?_
                            refine g_iload 7 C rfl dX0_recipe_137 ?_
                            refine g_imulN 1000 i C dX0_recipe_139 ?_
                            refine g_bipush 10 C dX0_recipe_140 (by decide) ?_
                            refine g_iload 8 C rfl dX0_recipe_142 ?_
                            refine g_imulN 10 (i + k) C dX0_recipe_144 ?_
                            refine g_iaddN (1000 * i) (10 * (i + k)) C dX0_recipe_145 ?_
                            refine g_iload 9 C rfl dX0_recipe_146 ?_
                            refine g_iaddN ((1000 * i) + (10 * (i + k))) q C dX0_recipe_148 ?_
                            refine g_istore [(4, .int (nI (((1000 * i) + (10 * (i + k))) + q))), (9, .int (rdist σ i (i + k) q r g b)), (0, .ref (h 0)), (1, .int (r)), (2, .int (g)), (3, .int (b)), (5, .int ((rP σ r g b i (i + k) (rB σ r g b i (rA σ r g b nt i) k) q).2)), (6, .int (nI (i))), (7, .int (nI (i + k))), (8, .int (nI (q)))] C dX0_recipe_149 (by decide) rfl ?_
                            refine g_iload 1 C rfl dX0_recipe_151 ?_
                            refine g_istore [(5, .int (rdist σ i (i + k) q r g b)), (4, .int (nI (((1000 * i) + (10 * (i + k))) + q))), (9, .int (rdist σ i (i + k) q r g b)), (0, .ref (h 0)), (1, .int (r)), (2, .int (g)), (3, .int (b)), (6, .int (nI (i))), (7, .int (nI (i + k))), (8, .int (nI (q)))] C dX0_recipe_153 (by decide) rfl ?_
                            refine g_iincN 9 q 1 [(8, .int (nI (q + 1))), (5, .int (rdist σ i (i + k) q r g b)), (4, .int (nI (((1000 * i) + (10 * (i + k))) + q))), (9, .int (rdist σ i (i + k) q r g b)), (0, .ref (h 0)), (1, .int (r)), (2, .int (g)), (3, .int (b)), (6, .int (nI (i))), (7, .int (nI (i + k)))] C dX0_recipe_155 rfl (by decide) (by decide) rfl ?_
                            refine g_goto 63 C dX0_recipe_158 (by decide) ?_
                            refine g_lv [4, 5, 6, 7, 2, 1, 8, 9, 0] [(0, .ref (h 0)), (1, .int (r)), (2, .int (g)), (3, .int (b)), (4, .int (nI (((1000 * i) + (10 * (i + k))) + q))), (5, .int (rdist σ i (i + k) q r g b)), (6, .int (nI (i))), (7, .int (nI (i + k))), (8, .int (nI (q + 1)))] rfl ?_
                            have hx := ih_63 (q + 1) (by omega) (by omega)
                            rw [ep] at hx
                            exact hx
                  refine g_lv [1, 2, 3, 4, 5, 6, 7, 8, 0] [(0, .ref (h 0)), (1, .int (r)), (2, .int (g)), (3, .int (b)), (4, .int ((rB σ r g b i (rA σ r g b nt i) k).1)), (5, .int ((rB σ r g b i (rA σ r g b nt i) k).2)), (6, .int (nI (i))), (7, .int (nI (i + k))), (8, .int (0))] rfl ?_
                  exact loop_63 6 0 (by omega) (by omega)
                ·
                  have eb : rB σ r g b i (rA σ r g b nt i) (k + 1) = rB σ r g b i (rA σ r g b nt i) k := if_pos (Or.inr c_54_5)
                  refine g_goto 161 C dX0_recipe_57 (by decide) ?_
                  refine g_iincN 7 (i + k) 1 [(7, .int (nI ((i + k) + 1))), (0, .ref (h 0)), (1, .int (r)), (2, .int (g)), (3, .int (b)), (4, .int ((rB σ r g b i (rA σ r g b nt i) k).1)), (5, .int ((rB σ r g b i (rA σ r g b nt i) k).2)), (6, .int (nI (i)))] C dX0_recipe_161 rfl (by decide) (by decide) rfl ?_
                  refine g_goto 28 C dX0_recipe_164 (by decide) ?_
                  refine g_lv [1, 2, 3, 4, 5, 6, 7, 0] [(0, .ref (h 0)), (1, .int (r)), (2, .int (g)), (3, .int (b)), (4, .int ((rB σ r g b i (rA σ r g b nt i) k).1)), (5, .int ((rB σ r g b i (rA σ r g b nt i) k).2)), (6, .int (nI (i))), (7, .int (nI ((i + k) + 1)))] rfl ?_
                  have hx := ih_28 (k + 1) (by omega) (by omega)
                  rw [eb] at hx
                  exact hx
        refine g_lv [1, 2, 3, 4, 5, 6, 7, 0] [(0, .ref (h 0)), (1, .int (r)), (2, .int (g)), (3, .int (b)), (4, .int ((rA σ r g b nt i).1)), (5, .int ((rA σ r g b nt i).2)), (6, .int (nI (i))), (7, .int (nI (i)))] rfl ?_
        exact loop_28 (nt + 1) 0 (by omega) (by omega)
  refine g_lv [3, 4, 5, 6, 2, 1, 0] [(0, .ref (h 0)), (1, .int (r)), (2, .int (g)), (3, .int (b)), (4, .int ((-1))), (5, .int (0)), (6, .int (0))] rfl ?_
  exact loop_15 (nt + 1) 0 (by omega) (by omega)
end
section
theorem fillF_at (F fl : Nat → Int32) : ∀ (n i : Nat), i < n → fillF F fl n i = fl i
  | 0, i, h => absurd h (Nat.not_lt_zero i)
  | n + 1, i, h => by
    by_cases e : i = n
    · rw [fillF, upd, if_pos e, e]
    · rw [fillF, upd, if_neg e]; exact fillF_at F fl n i (by omega)
theorem bst_le (F : Nat → Int32) : ∀ i, bst F i ≤ i
  | 0 => Nat.le_refl 0
  | i + 1 => by
    rw [bst]; split
    · exact Nat.le_succ_of_le (bst_le F i)
    · exact Nat.le_refl _
theorem p1_sc (τ : gS) (q k : Nat) : (p1 τ q).1 k = τ.1 k := by
  rw [p1]; split <;> rfl
theorem p1_ar (τ : gS) (q k : Nat) (h13 : k ≠ 13) (h7 : k ≠ 7) (h10 : k ≠ 10) (h9 : k ≠ 9) : (p1 τ q).2 k = τ.2 k := by
  rw [p1]; split
  · rfl
  · simp [sA, va_up, h13, h7, h10, h9]
theorem iM0_p1 {τ : gS} {np nt no ni : Nat} (h : iM0 τ np nt no ni) (q : Nat) : iM0 (p1 τ q) np nt no ni := by
  obtain ⟨h1, h2, h3, h4, h5, h6, h7⟩ := h
  refine ⟨by rw [p1_sc]; exact h1, by rw [p1_sc]; exact h2, by rw [p1_sc]; exact h3, by rw [p1_sc]; exact h4, by rw [p1_ar _ _ _ (by decide) (by decide) (by decide) (by decide)]; exact h5, by rw [p1_ar _ _ _ (by decide) (by decide) (by decide) (by decide)]; exact h6, fun x => ?_⟩
  by_cases c : τ.2 9 q = -1
  · rw [p1, if_pos c]; exact h7 x
  · rw [p1, if_neg c]
    show upd (τ.2 9) q _ x = -1 ∨ ∃ j, j < 4 ∧ upd (τ.2 9) q _ x = nI j
    by_cases e : x = q
    · rw [upd, if_pos e]
      split
      · exact h7 q
      · exact Or.inl rfl
    · rw [upd, if_neg e]; exact h7 x
theorem iM0_p1s {τ : gS} {np nt no ni : Nat} (h : iM0 τ np nt no ni) : ∀ k, iM0 (p1s τ k) np nt no ni
  | 0 => h
  | k + 1 => iM0_p1 (iM0_p1s h k) k
theorem iM0_S5 {τ : gS} {np nt no ni : Nat} (h : iM0 τ np nt no ni) (x : Int32) : iM0 (sS τ 5 x) np nt no ni := h
theorem iM0_S0 {τ : gS} {np nt no ni : Nat} (h : iM0 τ np nt no ni) (x : Int32) : iM0 (sS τ 0 x) np nt no ni := h
theorem iM0_pN {τ : gS} {np nt no ni : Nat} (h : iM0 τ np nt no ni) : ∀ k, iM0 (pN τ ni k) np nt no ni
  | 0 => h
  | k + 1 => iM0_p1s (iM0_S5 (iM0_pN h k) _) ni
theorem bI_nar (P : Prop) [Decidable P] : narrow .boolean (.int (bI P)) = .int (bI P) := by
  unfold bI; split <;> rfl
end
section
/-! The reference, its small methods. -/
set_option maxRecDepth 100000 in
set_option maxHeartbeats 4000000 in
theorem c_m_thrown (l : Launch) (D : va_G) (cI cJ : ClassId) (h : Nat → Nat) (τ : gS) : MC l yX1_thrown wsX1_thrown 0 0 D (tyIJ cI cJ) [.ref (h 0)] (wM cI h τ) (wM cI h τ) none (some (.int (τ.1 0))) 0 := by
  refine MC.ofG (cc := cX1_thrown) (maxL := 1) (ret := (some .int)) [(0, .ref (h 0))] (by decide) rfl (Nat.le_of_ble_eq_true rfl) rfl ?_
  intro p e s m args below meth c C hr hout
  have hin : ∀ w ∈ wsX10, w ∈ wsX1_thrown := fun w h => by first | exact List.mem_cons_of_mem _ (List.mem_append_right _ h) | exact List.mem_cons_of_mem _ (List.mem_append_left _ (List.mem_append_right _ h)) | exact List.mem_cons_of_mem _ (List.mem_append_left _ (List.mem_append_left _ (List.mem_append_right _ h))) | exact List.mem_cons_of_mem _ (List.mem_append_left _ (List.mem_append_left _ (List.mem_append_left _ (List.mem_append_right _ h)))) | exact List.mem_cons_of_mem _ (List.mem_append_left _ (List.mem_append_left _ (List.mem_append_left _ (List.mem_append_left _ (List.mem_append_right _ h)))))
  refine g_aload_n 0 C rfl dX1_thrown_0 rfl ?_
  refine g_get (C0 := RX1) (T := TX1) (N := 22) 0 1 0 (.int (τ.1 0)) C hin rfl rfl (by decide) (by decide +kernel) rfl dX1_thrown_1 ?_
  exact g_iret C hr rfl dX1_thrown_4 (Nat.zero_le _) (Nat.zero_le _) rfl rfl rfl
set_option maxRecDepth 100000 in
set_option maxHeartbeats 4000000 in
theorem c_m_in (l : Launch) (D : va_G) (cI cJ : ClassId) (w : va_W) (x lo hi : Int32) : MC l yX1_in wsX1_in 0 0 D (tyIJ cI cJ) [.int (x), .int (lo), .int (hi)] w w none (some (.int (bI (¬ out x lo hi)))) 0 := by
  refine MC.ofG (cc := cX1_in) (maxL := 3) (ret := (some .boolean)) [(0, .int (x)), (1, .int (lo)), (2, .int (hi))] (by decide) rfl (Nat.le_of_ble_eq_true rfl) rfl ?_
  intro p e s m args below meth c C hr hout
  refine g_iload_n 0 C rfl dX1_in_0 rfl ?_
  refine g_iload_n 1 C rfl dX1_in_1 rfl ?_
  refine g_icmp_lt 14 C dX1_in_2 (by decide) (fun c_2_1 => ?_) (fun c_2_1 => ?_)
  ·
    refine g_iconst 0 C dX1_in_14 (by decide) ?_
    exact g_iret C hr rfl dX1_in_15 (Nat.zero_le _) (Nat.zero_le _) rfl (congrArg (fun x => some (Value.int x)) (bI_0 (fun q => q (Or.inl c_2_1))).symm) rfl
  ·
    refine g_iload_n 0 C rfl dX1_in_5 rfl ?_
    refine g_iload_n 2 C rfl dX1_in_6 rfl ?_
    refine g_icmp_gt 14 C dX1_in_7 (by decide) (fun c_7_2 => ?_) (fun c_7_2 => ?_)
    ·
      refine g_iconst 0 C dX1_in_14 (by decide) ?_
      exact g_iret C hr rfl dX1_in_15 (Nat.zero_le _) (Nat.zero_le _) rfl (congrArg (fun x => some (Value.int x)) (bI_0 (fun q => q (Or.inr (i32_nle c_7_2)))).symm) rfl
    ·
      refine g_iconst 1 C dX1_in_10 (by decide) ?_
      refine g_goto 15 C dX1_in_11 (by decide) ?_
      exact g_iret C hr rfl dX1_in_15 (Nat.zero_le _) (Nat.zero_le _) rfl (congrArg (fun x => some (Value.int x)) (bI_1 (show ¬ out x lo hi from fun q => q.elim c_2_1 (fun z => z (i32_ge c_7_2)))).symm) rfl
set_option maxRecDepth 100000 in
set_option maxHeartbeats 4000000 in
theorem c_m_areShades (l : Launch) (D : va_G) (cI cJ : ClassId) (w : va_W) (r g b : Int32) : MC l yX1_areShades wsX1_areShades 1 22 D (tyIJ cI cJ) [.int (r), .int (g), .int (b)] w w none (some (.int (bI (¬ (out r 0 255 ∨ out g 0 255 ∨ out b 0 255))))) 0 := by
  refine MC.ofG (cc := cX1_areShades) (maxL := 3) (ret := (some .boolean)) [(0, .int (r)), (1, .int (g)), (2, .int (b))] (by decide) rfl (Nat.le_of_ble_eq_true rfl) rfl ?_
  intro p e s m args below meth c C hr hout
  refine g_iload_n 0 C rfl dX1_areShades_0 rfl ?_
  refine g_iconst 0 C dX1_areShades_1 (by decide) ?_
  refine g_sipush 255 C dX1_areShades_2 (by decide) ?_
  refine g_callS0 (na := 3) (av := [.int (r), .int (0), .int (255)]) (c_m_in l D cI cJ _ (r) (0) (255)) C gX1_areShades_X1_in rfl (by decide +kernel) rfl ⟨Nat.le_of_ble_eq_true rfl, Nat.le_of_ble_eq_true rfl⟩ rfl (Nat.le_of_ble_eq_true rfl) ⟨Nat.zero_le _, Nat.zero_le _⟩ rfl dX1_areShades_5 ?_
  refine g_if_eq 37 C dX1_areShades_8 (by decide) (fun c_8_1 => ?_) (fun c_8_1 => ?_)
  ·
    have b_8_1 : ¬ (¬ out (r) (0) (255)) := bI_eq c_8_1
    refine g_iconst 0 C dX1_areShades_37 (by decide) ?_
    exact g_iret C hr rfl dX1_areShades_38 (Nat.zero_le _) (Nat.zero_le _) rfl (congrArg (fun x => some (Value.int x)) (bI_0 (show ¬ ¬ (out r 0 255 ∨ out g 0 255 ∨ out b 0 255) from fun q => b_8_1 (fun z => q (Or.inl z)))).symm) rfl
  ·
    have b_8_1 : ¬ out (r) (0) (255) := bI_ne c_8_1
    refine g_iload_n 1 C rfl dX1_areShades_11 rfl ?_
    refine g_iconst 0 C dX1_areShades_12 (by decide) ?_
    refine g_sipush 255 C dX1_areShades_13 (by decide) ?_
    refine g_callS0 (na := 3) (av := [.int (g), .int (0), .int (255)]) (c_m_in l D cI cJ _ (g) (0) (255)) C gX1_areShades_X1_in rfl (by decide +kernel) rfl ⟨Nat.le_of_ble_eq_true rfl, Nat.le_of_ble_eq_true rfl⟩ rfl (Nat.le_of_ble_eq_true rfl) ⟨Nat.zero_le _, Nat.zero_le _⟩ rfl dX1_areShades_16 ?_
    refine g_if_eq 37 C dX1_areShades_19 (by decide) (fun c_19_2 => ?_) (fun c_19_2 => ?_)
    ·
      have b_19_2 : ¬ (¬ out (g) (0) (255)) := bI_eq c_19_2
      refine g_iconst 0 C dX1_areShades_37 (by decide) ?_
      exact g_iret C hr rfl dX1_areShades_38 (Nat.zero_le _) (Nat.zero_le _) rfl (congrArg (fun x => some (Value.int x)) (bI_0 (show ¬ ¬ (out r 0 255 ∨ out g 0 255 ∨ out b 0 255) from fun q => b_19_2 (fun z => q (Or.inr (Or.inl z))))).symm) rfl
    ·
      have b_19_2 : ¬ out (g) (0) (255) := bI_ne c_19_2
      refine g_iload_n 2 C rfl dX1_areShades_22 rfl ?_
      refine g_iconst 0 C dX1_areShades_23 (by decide) ?_
      refine g_sipush 255 C dX1_areShades_24 (by decide) ?_
      refine g_callS0 (na := 3) (av := [.int (b), .int (0), .int (255)]) (c_m_in l D cI cJ _ (b) (0) (255)) C gX1_areShades_X1_in rfl (by decide +kernel) rfl ⟨Nat.le_of_ble_eq_true rfl, Nat.le_of_ble_eq_true rfl⟩ rfl (Nat.le_of_ble_eq_true rfl) ⟨Nat.zero_le _, Nat.zero_le _⟩ rfl dX1_areShades_27 ?_
      refine g_if_eq 37 C dX1_areShades_30 (by decide) (fun c_30_3 => ?_) (fun c_30_3 => ?_)
      ·
        have b_30_3 : ¬ (¬ out (b) (0) (255)) := bI_eq c_30_3
        refine g_iconst 0 C dX1_areShades_37 (by decide) ?_
        exact g_iret C hr rfl dX1_areShades_38 (Nat.zero_le _) (Nat.zero_le _) rfl (congrArg (fun x => some (Value.int x)) (bI_0 (show ¬ ¬ (out r 0 255 ∨ out g 0 255 ∨ out b 0 255) from fun q => b_30_3 (fun z => q (Or.inr (Or.inr z))))).symm) rfl
      ·
        have b_30_3 : ¬ out (b) (0) (255) := bI_ne c_30_3
        refine g_iconst 1 C dX1_areShades_33 (by decide) ?_
        refine g_goto 38 C dX1_areShades_34 (by decide) ?_
        exact g_iret C hr rfl dX1_areShades_38 (Nat.zero_le _) (Nat.zero_le _) rfl (congrArg (fun x => some (Value.int x)) (bI_1 (show ¬ (out r 0 255 ∨ out g 0 255 ∨ out b 0 255) from fun q => q.elim b_8_1 (fun q => q.elim b_19_2 b_30_3))).symm) rfl
set_option maxRecDepth 100000 in
set_option maxHeartbeats 4000000 in
theorem c_m_isTube (l : Launch) (D : va_G) (cI cJ : ClassId) (h : Nat → Nat) (τ : gS) (np nt no ni : Nat) (hI : iM0 τ np nt no ni) (x : Int32) : MC l yX1_isTube wsX1_isTube 1 22 D (tyIJ cI cJ) [.ref (h 0), .int (x)] (wM cI h τ) (wM cI h τ) none (some (.int (bI (¬ bad x (nI nt))))) 0 := by
  have hI0 := hI
  obtain ⟨⟨hnp, hnp6⟩, ⟨hnt, hnt12⟩, ⟨hno, hno10⟩, ⟨hni, hni8⟩, hPT, hLC, hHS⟩ := hI
  refine MC.ofG (cc := cX1_isTube) (maxL := 2) (ret := (some .boolean)) [(0, .ref (h 0)), (1, .int (x))] (by decide) rfl (Nat.le_of_ble_eq_true rfl) rfl ?_
  intro p e s m args below meth c C hr hout
  have hin : ∀ w ∈ wsX10, w ∈ wsX1_isTube := fun w h => by first | exact List.mem_cons_of_mem _ (List.mem_append_right _ h) | exact List.mem_cons_of_mem _ (List.mem_append_left _ (List.mem_append_right _ h)) | exact List.mem_cons_of_mem _ (List.mem_append_left _ (List.mem_append_left _ (List.mem_append_right _ h))) | exact List.mem_cons_of_mem _ (List.mem_append_left _ (List.mem_append_left _ (List.mem_append_left _ (List.mem_append_right _ h)))) | exact List.mem_cons_of_mem _ (List.mem_append_left _ (List.mem_append_left _ (List.mem_append_left _ (List.mem_append_left _ (List.mem_append_right _ h)))))
  refine g_iload_n 1 C rfl dX1_isTube_0 rfl ?_
  refine g_iconst 0 C dX1_isTube_1 (by decide) ?_
  refine g_aload_n 0 C rfl dX1_isTube_2 rfl ?_
  refine g_get (C0 := RX1) (T := TX1) (N := 22) 0 1 3 (.int (τ.1 2)) C hin rfl rfl (by decide) (by decide +kernel) rfl dX1_isTube_3 ?_
  refine g_is (nI nt) hnt ?_
  refine g_iconst 1 C dX1_isTube_6 (by decide) ?_
  refine g_isub C dX1_isTube_7 ?_
  refine g_callS0 (na := 3) (av := [.int (x), .int (0), .int (nI (nt) - 1)]) (c_m_in l D cI cJ _ (x) (0) ((nI (nt) - 1))) C gX1_isTube_X1_in rfl (by decide +kernel) rfl ⟨Nat.le_of_ble_eq_true rfl, Nat.le_of_ble_eq_true rfl⟩ rfl (Nat.le_of_ble_eq_true rfl) ⟨Nat.zero_le _, Nat.zero_le _⟩ rfl dX1_isTube_8 ?_
  exact g_iret C hr (bI_nar _) dX1_isTube_11 (Nat.zero_le _) (Nat.zero_le _) rfl (congrArg (fun x => some (Value.int x)) (bI_congr (in_bad (by omega)))) rfl
set_option maxRecDepth 100000 in
set_option maxHeartbeats 4000000 in
theorem c_m_isPot (l : Launch) (D : va_G) (cI cJ : ClassId) (h : Nat → Nat) (τ : gS) (np nt no ni : Nat) (hI : iM0 τ np nt no ni) (x : Int32) : MC l yX1_isPot wsX1_isPot 1 22 D (tyIJ cI cJ) [.ref (h 0), .int (x)] (wM cI h τ) (wM cI h τ) none (some (.int (bI (¬ bad x (nI no))))) 0 := by
  have hI0 := hI
  obtain ⟨⟨hnp, hnp6⟩, ⟨hnt, hnt12⟩, ⟨hno, hno10⟩, ⟨hni, hni8⟩, hPT, hLC, hHS⟩ := hI
  refine MC.ofG (cc := cX1_isPot) (maxL := 2) (ret := (some .boolean)) [(0, .ref (h 0)), (1, .int (x))] (by decide) rfl (Nat.le_of_ble_eq_true rfl) rfl ?_
  intro p e s m args below meth c C hr hout
  have hin : ∀ w ∈ wsX10, w ∈ wsX1_isPot := fun w h => by first | exact List.mem_cons_of_mem _ (List.mem_append_right _ h) | exact List.mem_cons_of_mem _ (List.mem_append_left _ (List.mem_append_right _ h)) | exact List.mem_cons_of_mem _ (List.mem_append_left _ (List.mem_append_left _ (List.mem_append_right _ h))) | exact List.mem_cons_of_mem _ (List.mem_append_left _ (List.mem_append_left _ (List.mem_append_left _ (List.mem_append_right _ h)))) | exact List.mem_cons_of_mem _ (List.mem_append_left _ (List.mem_append_left _ (List.mem_append_left _ (List.mem_append_left _ (List.mem_append_right _ h)))))
  refine g_iload_n 1 C rfl dX1_isPot_0 rfl ?_
  refine g_iconst 0 C dX1_isPot_1 (by decide) ?_
  refine g_aload_n 0 C rfl dX1_isPot_2 rfl ?_
  refine g_get (C0 := RX1) (T := TX1) (N := 22) 0 1 7 (.int (τ.1 3)) C hin rfl rfl (by decide) (by decide +kernel) rfl dX1_isPot_3 ?_
  refine g_is (nI no) hno ?_
  refine g_iconst 1 C dX1_isPot_6 (by decide) ?_
  refine g_isub C dX1_isPot_7 ?_
  refine g_callS0 (na := 3) (av := [.int (x), .int (0), .int (nI (no) - 1)]) (c_m_in l D cI cJ _ (x) (0) ((nI (no) - 1))) C gX1_isPot_X1_in rfl (by decide +kernel) rfl ⟨Nat.le_of_ble_eq_true rfl, Nat.le_of_ble_eq_true rfl⟩ rfl (Nat.le_of_ble_eq_true rfl) ⟨Nat.zero_le _, Nat.zero_le _⟩ rfl dX1_isPot_8 ?_
  exact g_iret C hr (bI_nar _) dX1_isPot_11 (Nat.zero_le _) (Nat.zero_le _) rfl (congrArg (fun x => some (Value.int x)) (bI_congr (in_bad (by omega)))) rfl
set_option maxRecDepth 100000 in
set_option maxHeartbeats 4000000 in
theorem c_m_isPicture (l : Launch) (D : va_G) (cI cJ : ClassId) (h : Nat → Nat) (τ : gS) (np nt no ni : Nat) (hI : iM0 τ np nt no ni) (x : Int32) : MC l yX1_isPicture wsX1_isPicture 1 22 D (tyIJ cI cJ) [.ref (h 0), .int (x)] (wM cI h τ) (wM cI h τ) none (some (.int (bI (¬ bad x (nI ni))))) 0 := by
  have hI0 := hI
  obtain ⟨⟨hnp, hnp6⟩, ⟨hnt, hnt12⟩, ⟨hno, hno10⟩, ⟨hni, hni8⟩, hPT, hLC, hHS⟩ := hI
  refine MC.ofG (cc := cX1_isPicture) (maxL := 2) (ret := (some .boolean)) [(0, .ref (h 0)), (1, .int (x))] (by decide) rfl (Nat.le_of_ble_eq_true rfl) rfl ?_
  intro p e s m args below meth c C hr hout
  have hin : ∀ w ∈ wsX10, w ∈ wsX1_isPicture := fun w h => by first | exact List.mem_cons_of_mem _ (List.mem_append_right _ h) | exact List.mem_cons_of_mem _ (List.mem_append_left _ (List.mem_append_right _ h)) | exact List.mem_cons_of_mem _ (List.mem_append_left _ (List.mem_append_left _ (List.mem_append_right _ h))) | exact List.mem_cons_of_mem _ (List.mem_append_left _ (List.mem_append_left _ (List.mem_append_left _ (List.mem_append_right _ h)))) | exact List.mem_cons_of_mem _ (List.mem_append_left _ (List.mem_append_left _ (List.mem_append_left _ (List.mem_append_left _ (List.mem_append_right _ h)))))
  refine g_iload_n 1 C rfl dX1_isPicture_0 rfl ?_
  refine g_iconst 0 C dX1_isPicture_1 (by decide) ?_
  refine g_aload_n 0 C rfl dX1_isPicture_2 rfl ?_
  refine g_get (C0 := RX1) (T := TX1) (N := 22) 0 1 9 (.int (τ.1 4)) C hin rfl rfl (by decide) (by decide +kernel) rfl dX1_isPicture_3 ?_
  refine g_is (nI ni) hni ?_
  refine g_iconst 1 C dX1_isPicture_6 (by decide) ?_
  refine g_isub C dX1_isPicture_7 ?_
  refine g_callS0 (na := 3) (av := [.int (x), .int (0), .int (nI (ni) - 1)]) (c_m_in l D cI cJ _ (x) (0) ((nI (ni) - 1))) C gX1_isPicture_X1_in rfl (by decide +kernel) rfl ⟨Nat.le_of_ble_eq_true rfl, Nat.le_of_ble_eq_true rfl⟩ rfl (Nat.le_of_ble_eq_true rfl) ⟨Nat.zero_le _, Nat.zero_le _⟩ rfl dX1_isPicture_8 ?_
  exact g_iret C hr (bI_nar _) dX1_isPicture_11 (Nat.zero_le _) (Nat.zero_le _) rfl (congrArg (fun x => some (Value.int x)) (bI_congr (in_bad (by omega)))) rfl
set_option maxRecDepth 100000 in
set_option maxHeartbeats 4000000 in
theorem c_m_isHouse (l : Launch) (D : va_G) (cI cJ : ClassId) (w : va_W) (x : Int32) : MC l yX1_isHouse wsX1_isHouse 1 22 D (tyIJ cI cJ) [.int (x)] w w none (some (.int (bI (¬ bad x 4)))) 0 := by
  refine MC.ofG (cc := cX1_isHouse) (maxL := 1) (ret := (some .boolean)) [(0, .int (x))] (by decide) rfl (Nat.le_of_ble_eq_true rfl) rfl ?_
  intro p e s m args below meth c C hr hout
  refine g_iload_n 0 C rfl dX1_isHouse_0 rfl ?_
  refine g_iconst 0 C dX1_isHouse_1 (by decide) ?_
  refine g_iconst 3 C dX1_isHouse_2 (by decide) ?_
  refine g_callS0 (na := 3) (av := [.int (x), .int (0), .int (3)]) (c_m_in l D cI cJ _ (x) (0) (3)) C gX1_isHouse_X1_in rfl (by decide +kernel) rfl ⟨Nat.le_of_ble_eq_true rfl, Nat.le_of_ble_eq_true rfl⟩ rfl (Nat.le_of_ble_eq_true rfl) ⟨Nat.zero_le _, Nat.zero_le _⟩ rfl dX1_isHouse_3 ?_
  exact g_iret C hr (bI_nar _) dX1_isHouse_6 (Nat.zero_le _) (Nat.zero_le _) rfl (congrArg (fun x => some (Value.int x)) (bI_congr (in_bad (n := 4) (by decide)))) rfl
set_option maxRecDepth 100000 in
set_option maxHeartbeats 4000000 in
theorem c_m_layerAt (l : Launch) (D : va_G) (cI cJ : ClassId) (w : va_W) (a b : Nat) : MC l yX1_layerAt wsX1_layerAt 0 0 D (tyIJ cI cJ) [.int (nI (a)), .int (nI (b))] w w none (some (.int (nI (12 * (12 * a + b))))) 0 := by
  refine MC.ofG (cc := cX1_layerAt) (maxL := 2) (ret := (some .int)) [(0, .int (nI (a))), (1, .int (nI (b)))] (by decide) rfl (Nat.le_of_ble_eq_true rfl) rfl ?_
  intro p e s m args below meth c C hr hout
  refine g_bipush 12 C dX1_layerAt_0 (by decide) ?_
  refine g_bipush 12 C dX1_layerAt_2 (by decide) ?_
  refine g_iload_n 0 C rfl dX1_layerAt_4 rfl ?_
  refine g_imulN 12 a C dX1_layerAt_5 ?_
  refine g_iload_n 1 C rfl dX1_layerAt_6 rfl ?_
  refine g_iaddN (12 * a) b C dX1_layerAt_7 ?_
  refine g_imulN 12 ((12 * a) + b) C dX1_layerAt_8 ?_
  exact g_iret C hr rfl dX1_layerAt_9 (Nat.zero_le _) (Nat.zero_le _) rfl rfl rfl
set_option maxRecDepth 100000 in
set_option maxHeartbeats 4000000 in
theorem c_m_gramsOf (l : Launch) (D : va_G) (cI cJ : ClassId) (h : Nat → Nat) (τ : gS) (np nt no ni : Nat) (hI : iM0 τ np nt no ni) (a : Nat) (hp : a < 10) : MC l yX1_gramsOf wsX1_gramsOf 0 0 D (tyIJ cI cJ) [.ref (h 0), .int (nI (a))] (wM cI h τ) (wM cI h τ) none (some (.int (potS (τ.2 4) a 12))) 0 := by
  have hI0 := hI
  obtain ⟨⟨hnp, hnp6⟩, ⟨hnt, hnt12⟩, ⟨hno, hno10⟩, ⟨hni, hni8⟩, hPT, hLC, hHS⟩ := hI
  refine MC.ofG (cc := cX1_gramsOf) (maxL := 4) (ret := (some .int)) [(0, .ref (h 0)), (1, .int (nI (a)))] (by decide) rfl (Nat.le_of_ble_eq_true rfl) rfl ?_
  intro p e s m args below meth c C hr hout
  have hin : ∀ w ∈ wsX10, w ∈ wsX1_gramsOf := fun w h => by first | exact List.mem_cons_of_mem _ (List.mem_append_right _ h) | exact List.mem_cons_of_mem _ (List.mem_append_left _ (List.mem_append_right _ h)) | exact List.mem_cons_of_mem _ (List.mem_append_left _ (List.mem_append_left _ (List.mem_append_right _ h))) | exact List.mem_cons_of_mem _ (List.mem_append_left _ (List.mem_append_left _ (List.mem_append_left _ (List.mem_append_right _ h)))) | exact List.mem_cons_of_mem _ (List.mem_append_left _ (List.mem_append_left _ (List.mem_append_left _ (List.mem_append_left _ (List.mem_append_right _ h)))))
  refine g_iconst 0 C dX1_gramsOf_0 (by decide) ?_
  refine g_istore_n [(2, .int (0)), (0, .ref (h 0)), (1, .int (nI (a)))] C dX1_gramsOf_1 rfl (by decide) rfl ?_
  refine g_iconst 0 C dX1_gramsOf_2 (by decide) ?_
  refine g_istore_n [(3, .int (0)), (2, .int (0)), (0, .ref (h 0)), (1, .int (nI (a)))] C dX1_gramsOf_3 rfl (by decide) rfl ?_
  have loop_4 : ∀ (fu : Nat) (i : Nat), i ≤ 12 → 13 ≤ i + fu → G p l e ({ frames := 0, cells := 0, slots := 6 * 0, locals := 0 } : Room) s m args below meth c D (va_A (wM cI h τ) s.heap.size) 4 0 0 (gQ below D (wM cI h τ) (wM cI h τ) none (some (.int (potS (τ.2 4) a 12))) 0 args s) (wM cI h τ) [(0, .ref (h 0)), (1, .int (nI (a))), (2, .int (potS (τ.2 4) a i)), (3, .int (nI (i)))] 4 [] := by
    intro fu
    induction fu with
    | zero => intro i hi hf; exact absurd True.intro (by omega)
    | succ fu ih_4 =>
      intro i hi hf
      refine g_iload_n 3 C rfl dX1_gramsOf_4 rfl ?_
      refine g_bipush 12 C dX1_gramsOf_5 (by decide) ?_
      refine g_icmp_ge 30 C dX1_gramsOf_7 (by decide) (fun c_7_1 => ?_) (fun c_7_1 => ?_)
      ·
        have d_7_1 : 12 ≤ i := (nI_leI (a := 12) (b := i) (by omega) (by omega)).mp c_7_1
        refine g_iload_n 2 C rfl dX1_gramsOf_30 rfl ?_
        exact g_iret C hr rfl dX1_gramsOf_31 (Nat.zero_le _) (Nat.zero_le _) rfl (by rw [show i = 12 by omega]) rfl
      ·
        have d_7_1 : ¬ 12 ≤ i := fun zz => c_7_1 ((nI_leI (a := 12) (b := i) (by omega) (by omega)).mpr zz)
        refine g_iload_n 2 C rfl dX1_gramsOf_10 rfl ?_
        refine g_aload_n 0 C rfl dX1_gramsOf_11 rfl ?_
        refine g_get (C0 := RX1) (T := TX1) (N := 22) 0 1 8 (.ref (h 5)) C hin rfl rfl (by decide) (by decide +kernel) rfl dX1_gramsOf_12 ?_
        refine g_bipush 12 C dX1_gramsOf_15 (by decide) ?_
        refine g_iload_n 1 C rfl dX1_gramsOf_17 rfl ?_
        refine g_imulN 12 a C dX1_gramsOf_18 ?_
        refine g_iload_n 3 C rfl dX1_gramsOf_19 rfl ?_
        refine g_iaddN (12 * a) i C dX1_gramsOf_20 ?_
        refine g_ialdN (cA := cI) (n := 120) (a := h 5) (f := τ.2 4) ((12 * a) + i) 5 0 C rfl rfl (by omega) (by decide) dX1_gramsOf_21 ?_
        refine g_iadd C dX1_gramsOf_22 ?_
        refine g_istore_n [(2, .int ((potS (τ.2 4) a i) + (τ.2 4 ((12 * a) + i)))), (0, .ref (h 0)), (1, .int (nI (a))), (3, .int (nI (i)))] C dX1_gramsOf_23 rfl (by decide) rfl ?_
        refine g_iincN 3 i 1 [(3, .int (nI (i + 1))), (2, .int ((potS (τ.2 4) a i) + (τ.2 4 ((12 * a) + i)))), (0, .ref (h 0)), (1, .int (nI (a)))] C dX1_gramsOf_24 rfl (by decide) (by decide) rfl ?_
        refine g_goto 4 C dX1_gramsOf_27 (by decide) ?_
        refine g_lv [2, 3, 1, 0] [(0, .ref (h 0)), (1, .int (nI (a))), (2, .int ((potS (τ.2 4) a i) + (τ.2 4 ((12 * a) + i)))), (3, .int (nI (i + 1)))] rfl ?_
        exact ih_4 (i + 1) (by omega) (by omega)
  refine g_lv [2, 3, 1, 0] [(0, .ref (h 0)), (1, .int (nI (a))), (2, .int (0)), (3, .int (0))] rfl ?_
  exact loop_4 13 0 (by omega) (by omega)
set_option maxRecDepth 100000 in
set_option maxHeartbeats 4000000 in
theorem c_m_flows (l : Launch) (D : va_G) (cI cJ : ClassId) (h : Nat → Nat) (τ : gS) (np nt no ni : Nat) (hI : iM0 τ np nt no ni) (a : Nat) (g : Int32) (hp : a < 10) (hz : ¬ potS (τ.2 4) a 12 = 0) : MC l yX1_flows wsX1_flows 1 23 D (tyIJ cI cJ) [.ref (h 0), .int (nI (a)), .int (g)] (wM cI h τ) (wM cI h (flwS τ a g)) none none 0 := by
  have hI0 := hI
  obtain ⟨⟨hnp, hnp6⟩, ⟨hnt, hnt12⟩, ⟨hno, hno10⟩, ⟨hni, hni8⟩, hPT, hLC, hHS⟩ := hI
  refine MC.ofG (cc := cX1_flows) (maxL := 7) (ret := none) [(0, .ref (h 0)), (1, .int (nI (a))), (2, .int (g))] (by decide) rfl (Nat.le_of_ble_eq_true rfl) rfl ?_
  intro p e s m args below meth c C hr hout
  have hin : ∀ w ∈ wsX10, w ∈ wsX1_flows := fun w h => by first | exact List.mem_cons_of_mem _ (List.mem_append_right _ h) | exact List.mem_cons_of_mem _ (List.mem_append_left _ (List.mem_append_right _ h)) | exact List.mem_cons_of_mem _ (List.mem_append_left _ (List.mem_append_left _ (List.mem_append_right _ h))) | exact List.mem_cons_of_mem _ (List.mem_append_left _ (List.mem_append_left _ (List.mem_append_left _ (List.mem_append_right _ h)))) | exact List.mem_cons_of_mem _ (List.mem_append_left _ (List.mem_append_left _ (List.mem_append_left _ (List.mem_append_left _ (List.mem_append_right _ h)))))
  refine g_aload_n 0 C rfl dX1_flows_0 rfl ?_
  refine g_iload_n 1 C rfl dX1_flows_1 rfl ?_
  refine g_callV0 (C0 := RX1) (T := TX1) (N := 22) (ci := 1) (na := 1) (As := [.int (nI (a))]) (c_m_gramsOf l D cI cJ h τ np nt no ni hI0 a (by omega)) C gX1_flows_X1_gramsOf rfl (by decide +kernel) rfl ⟨Nat.le_of_ble_eq_true rfl, Nat.le_of_ble_eq_true rfl⟩ rfl rfl rfl (Nat.le_of_ble_eq_true rfl) ⟨Nat.zero_le _, Nat.zero_le _⟩ rfl dX1_flows_2 ?_
  refine g_istore_n [(3, .int (potS (τ.2 4) a 12)), (0, .ref (h 0)), (1, .int (nI (a))), (2, .int (g))] C dX1_flows_5 rfl (by decide) rfl ?_
  refine g_iconst 0 C dX1_flows_6 (by decide) ?_
  refine g_istore [(4, .int (0)), (3, .int (potS (τ.2 4) a 12)), (0, .ref (h 0)), (1, .int (nI (a))), (2, .int (g))] C dX1_flows_7 (by decide) rfl ?_
  refine g_iconst 0 C dX1_flows_9 (by decide) ?_
  refine g_istore [(5, .int (0)), (4, .int (0)), (3, .int (potS (τ.2 4) a 12)), (0, .ref (h 0)), (1, .int (nI (a))), (2, .int (g))] C dX1_flows_10 (by decide) rfl ?_
  have loop_12 : ∀ (fu : Nat) (i : Nat), i ≤ 12 → 13 ≤ i + fu → G p l e ({ frames := 1, cells := 0, slots := 6 * 0, locals := 23 } : Room) s m args below meth c D (va_A (wM cI h τ) s.heap.size) 7 0 0 (gQ below D (wM cI h τ) (wM cI h (flwS τ a g)) none none 0 args s) (wM cI h (sA τ 14 (fillF (τ.2 14) (flM (τ.2 4) a g) i))) [(0, .ref (h 0)), (1, .int (nI (a))), (2, .int (g)), (3, .int (potS (τ.2 4) a 12)), (4, .int (potS (τ.2 4) a i)), (5, .int (nI (i)))] 12 [] := by
    intro fu
    induction fu with
    | zero => intro i hi hf; exact absurd True.intro (by omega)
    | succ fu ih_12 =>
      intro i hi hf
      refine g_iload 5 C rfl dX1_flows_12 ?_
      refine g_bipush 12 C dX1_flows_14 (by decide) ?_
      refine g_icmp_ge 69 C dX1_flows_16 (by decide) (fun c_16_1 => ?_) (fun c_16_1 => ?_)
      ·
        have d_16_1 : 12 ≤ i := (nI_leI (a := 12) (b := i) (by omega) (by omega)).mp c_16_1
        obtain rfl : i = 12 := by omega
        refine g_w (wM cI h (sA τ 14 (flwF τ a g))) rfl ?_
        refine g_iconst 0 C dX1_flows_69 (by decide) ?_
        refine g_istore [(5, .int (0)), (0, .ref (h 0)), (1, .int (nI (a))), (2, .int (g)), (3, .int (potS (τ.2 4) a 12)), (4, .int (potS (τ.2 4) a 12))] C dX1_flows_70 (by decide) rfl ?_
        have loop_72 : ∀ (fu : Nat) (i2 : Nat), i2 ≤ 12 → 13 ≤ i2 + fu → G p l e ({ frames := 1, cells := 0, slots := 6 * 0, locals := 23 } : Room) s m args below meth c D (va_A (wM cI h τ) s.heap.size) 7 0 0 (gQ below D (wM cI h τ) (wM cI h (flwS τ a g)) none none 0 args s) (wM cI h (sA (sA τ 14 (flwF τ a g)) 4 (subF (τ.2 4) (flwF τ a g) (12 * a) i2))) [(0, .ref (h 0)), (1, .int (nI (a))), (5, .int (nI (i2)))] 72 [] := by
          intro fu
          induction fu with
          | zero => intro i2 hi2 hf2; exact absurd True.intro (by omega)
          | succ fu ih_72 =>
            intro i2 hi2 hf2
            refine g_iload 2 C rfl dX1_flows_72 ?_
            refine g_bipush 12 C dX1_flows_74 (by decide) ?_
            refine g_icmp_ge 107 C dX1_flows_76 (by decide) (fun c_76_2 => ?_) (fun c_76_2 => ?_)
            ·
              have d_76_2 : 12 ≤ i2 := (nI_leI (a := 12) (b := i2) (by omega) (by omega)).mp c_76_2
              exact g_vret C hr dX1_flows_107 (Nat.zero_le _) (Nat.zero_le _) rfl rfl (by rw [show i2 = 12 by omega]; rfl)
            ·
              have d_76_2 : ¬ 12 ≤ i2 := fun zz => c_76_2 ((nI_leI (a := 12) (b := i2) (by omega) (by omega)).mpr zz)
              refine g_aload_n 0 C rfl dX1_flows_79 rfl ?_
              refine g_get (C0 := RX1) (T := TX1) (N := 22) 0 1 8 (.ref (h 5)) C hin rfl rfl (by decide) (by decide +kernel) rfl dX1_flows_80 ?_
              refine g_bipush 12 C dX1_flows_83 (by decide) ?_
              refine g_iload_n 1 C rfl dX1_flows_85 rfl ?_
              refine g_imulN 12 a C dX1_flows_86 ?_
              refine g_iload 2 C rfl dX1_flows_87 ?_
              refine g_iaddN (12 * a) i2 C dX1_flows_89 ?_
              refine g_dup2 C dX1_flows_90 rfl rfl ?_
              refine g_ialdN (cA := cI) (n := 120) (a := h 5) (f := subF (τ.2 4) (flwF τ a g) (12 * a) i2) ((12 * a) + i2) 5 0 C rfl rfl (by omega) (by decide) dX1_flows_91 ?_
              refine g_aload_n 0 C rfl dX1_flows_92 rfl ?_
              refine g_get (C0 := RX1) (T := TX1) (N := 22) 0 1 20 (.ref (h 15)) C hin rfl rfl (by decide) (by decide +kernel) rfl dX1_flows_93 ?_
              refine g_iload 2 C rfl dX1_flows_96 ?_
              refine g_ialdN (cA := cI) (n := 12) (a := h 15) (f := flwF τ a g) i2 15 0 C rfl rfl (by omega) (by decide) dX1_flows_98 ?_
              refine g_isub C dX1_flows_99 ?_
              refine g_iastN (cA := cI) (n := 120) (a := h 5) (f := subF (τ.2 4) (flwF τ a g) (12 * a) i2) (x := (((subF (τ.2 4) (flwF τ a g) (12 * a) i2) ((12 * a) + i2)) - ((flwF τ a g) i2))) ((12 * a) + i2) 5 0 (wM cI h (sA (sA τ 14 (flwF τ a g)) 4 (upd (subF (τ.2 4) (flwF τ a g) (12 * a) i2) ((12 * a) + i2) ((((subF (τ.2 4) (flwF τ a g) (12 * a) i2) ((12 * a) + i2)) - ((flwF τ a g) i2)))))) C rfl rfl (by omega) (by decide) rfl dX1_flows_100 ?_
              refine g_iincN 2 i2 1 [(5, .int (nI (i2 + 1))), (0, .ref (h 0)), (1, .int (nI (a)))] C dX1_flows_101 rfl (by decide) (by decide) rfl ?_
              refine g_goto 72 C dX1_flows_104 (by decide) ?_
              refine g_lv [1, 2, 0] [(0, .ref (h 0)), (1, .int (nI (a))), (5, .int (nI (i2 + 1)))] rfl ?_
              exact ih_72 (i2 + 1) (by omega) (by omega)
        refine g_lv [1, 2, 0] [(0, .ref (h 0)), (1, .int (nI (a))), (5, .int (0))] rfl ?_
        exact loop_72 13 0 (by omega) (by omega)
      ·
        have d_16_1 : ¬ 12 ≤ i := fun zz => c_16_1 ((nI_leI (a := 12) (b := i) (by omega) (by omega)).mpr zz)
        refine g_aload_n 0 C rfl dX1_flows_19 rfl ?_
        refine g_get (C0 := RX1) (T := TX1) (N := 22) 0 1 8 (.ref (h 5)) C hin rfl rfl (by decide) (by decide +kernel) rfl dX1_flows_20 ?_
        refine g_bipush 12 C dX1_flows_23 (by decide) ?_
        refine g_iload_n 1 C rfl dX1_flows_25 rfl ?_
        refine g_imulN 12 a C dX1_flows_26 ?_
        refine g_iload 5 C rfl dX1_flows_27 ?_
        refine g_iaddN (12 * a) i C dX1_flows_29 ?_
        refine g_ialdN (cA := cI) (n := 120) (a := h 5) (f := τ.2 4) ((12 * a) + i) 5 0 C rfl rfl (by omega) (by decide) dX1_flows_30 ?_
        refine g_istore [(6, .int (τ.2 4 ((12 * a) + i))), (0, .ref (h 0)), (1, .int (nI (a))), (2, .int (g)), (3, .int (potS (τ.2 4) a 12)), (4, .int (potS (τ.2 4) a i)), (5, .int (nI (i)))] C dX1_flows_31 (by decide) rfl ?_
        refine g_aload_n 1 C rfl dX1_flows_33 rfl ?_
        refine g_get (C0 := RX1) (T := TX1) (N := 22) 0 1 20 (.ref (h 15)) C hin rfl rfl (by decide) (by decide +kernel) rfl dX1_flows_34 ?_
        refine g_iload 6 C rfl dX1_flows_37 ?_
        refine g_iload 5 C rfl dX1_flows_39 ?_
        refine g_iload 0 C rfl dX1_flows_41 ?_
        refine g_iadd C dX1_flows_43 ?_
        refine g_iload_n 3 C rfl dX1_flows_44 rfl ?_
        refine g_imul C dX1_flows_45 ?_
        refine g_iload_n 4 C rfl dX1_flows_46 rfl ?_
        refine g_idiv C hz dX1_flows_47 ?_
        refine g_iload 5 C rfl dX1_flows_48 ?_
        refine g_iload_n 3 C rfl dX1_flows_50 rfl ?_
        refine g_imul C dX1_flows_51 ?_
        refine g_iload_n 4 C rfl dX1_flows_52 rfl ?_
        refine g_idiv C hz dX1_flows_53 ?_
        refine g_isub C dX1_flows_54 ?_
        refine g_is ((flM (τ.2 4) a g i)) rfl ?_
        refine g_iastN (cA := cI) (n := 12) (a := h 15) (f := fillF (τ.2 14) (flM (τ.2 4) a g) i) (x := (flM (τ.2 4) a g i)) i 15 0 (wM cI h (sA τ 14 (upd (fillF (τ.2 14) (flM (τ.2 4) a g) i) i ((flM (τ.2 4) a g i))))) C rfl rfl (by omega) (by decide) rfl dX1_flows_55 ?_
        refine g_iload 5 C rfl dX1_flows_56 ?_
        refine g_iload 0 C rfl dX1_flows_58 ?_
        refine g_iadd C dX1_flows_60 ?_
        refine g_istore [(4, .int ((potS (τ.2 4) a i) + (τ.2 4 ((12 * a) + i)))), (6, .int (τ.2 4 ((12 * a) + i))), (0, .ref (h 0)), (1, .int (nI (a))), (2, .int (g)), (3, .int (potS (τ.2 4) a 12)), (5, .int (nI (i)))] C dX1_flows_61 (by decide) rfl ?_
        refine g_iincN 6 i 1 [(5, .int (nI (i + 1))), (4, .int ((potS (τ.2 4) a i) + (τ.2 4 ((12 * a) + i)))), (6, .int (τ.2 4 ((12 * a) + i))), (0, .ref (h 0)), (1, .int (nI (a))), (2, .int (g)), (3, .int (potS (τ.2 4) a 12))] C dX1_flows_63 rfl (by decide) (by decide) rfl ?_
        refine g_goto 12 C dX1_flows_66 (by decide) ?_
        refine g_lv [3, 4, 5, 6, 1, 0] [(0, .ref (h 0)), (1, .int (nI (a))), (2, .int (g)), (3, .int (potS (τ.2 4) a 12)), (4, .int ((potS (τ.2 4) a i) + (τ.2 4 ((12 * a) + i)))), (5, .int (nI (i + 1)))] rfl ?_
        exact ih_12 (i + 1) (by omega) (by omega)
  refine g_lv [3, 4, 5, 2, 1, 0] [(0, .ref (h 0)), (1, .int (nI (a))), (2, .int (g)), (3, .int (potS (τ.2 4) a 12)), (4, .int (0)), (5, .int (0))] rfl ?_
  exact loop_12 13 0 (by omega) (by omega)
end
section
theorem zz_end : True := trivial
end
