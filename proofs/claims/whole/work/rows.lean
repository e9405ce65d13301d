section
-- ===== PART A: goes FIRST, ahead of the names: the tables' words, and 'selects' of the private methods out of them =====
/-- a private method of a class that the tables say can be made, by its rows of tables_1 -/
def lw_okq (q : MethodName × Nat) : Prop := (q.1.cls ≠ "java/lang/invoke/MethodHandle" ∧ q.1.cls ≠ "java/lang/invoke/VarHandle") ∧ Cond.instantiable q.1.cls q.2 ∈ tables_1 ∧ Cond.privateMethod q.1 ∈ tables_1 ∧ Cond.instanceMethod q.1 ∈ tables_1
theorem lw_p0 : lw_okq (⟨"java/lang/Throwable", "fillInStackTrace", "(I)Ljava/lang/Throwable;"⟩, 6) := ⟨⟨by decide +kernel, by decide +kernel⟩, List.mem_of_getElem? (i := 125) (by decide +kernel), List.mem_of_getElem? (i := 123) (by decide +kernel), List.mem_of_getElem? (i := 124) (by decide +kernel)⟩
theorem lw_p1 : lw_okq (⟨"AtelierBook", "move", "(III)Z"⟩, 17) := ⟨⟨by decide +kernel, by decide +kernel⟩, List.mem_of_getElem? (i := 11) (by decide +kernel), List.mem_of_getElem? (i := 229) (by decide +kernel), List.mem_of_getElem? (i := 230) (by decide +kernel)⟩
theorem lw_p2 : lw_okq (⟨"AtelierBook", "sumOfRow", "(I)I"⟩, 17) := ⟨⟨by decide +kernel, by decide +kernel⟩, List.mem_of_getElem? (i := 11) (by decide +kernel), List.mem_of_getElem? (i := 233) (by decide +kernel), List.mem_of_getElem? (i := 234) (by decide +kernel)⟩
theorem lw_p3 : lw_okq (⟨"AtelierBook", "waste", "(I)I"⟩, 17) := ⟨⟨by decide +kernel, by decide +kernel⟩, List.mem_of_getElem? (i := 11) (by decide +kernel), List.mem_of_getElem? (i := 245) (by decide +kernel), List.mem_of_getElem? (i := 246) (by decide +kernel)⟩
theorem lw_p4 : lw_okq (⟨"AtelierBook", "checkAtHome", "(I)V"⟩, 17) := ⟨⟨by decide +kernel, by decide +kernel⟩, List.mem_of_getElem? (i := 11) (by decide +kernel), List.mem_of_getElem? (i := 264) (by decide +kernel), List.mem_of_getElem? (i := 265) (by decide +kernel)⟩
theorem lw_p5 : lw_okq (⟨"AtelierBook", "isLent", "(I)Z"⟩, 17) := ⟨⟨by decide +kernel, by decide +kernel⟩, List.mem_of_getElem? (i := 11) (by decide +kernel), List.mem_of_getElem? (i := 268) (by decide +kernel), List.mem_of_getElem? (i := 269) (by decide +kernel)⟩
theorem lw_p6 : lw_okq (⟨"AtelierBook", "valueOf", "(I)I"⟩, 17) := ⟨⟨by decide +kernel, by decide +kernel⟩, List.mem_of_getElem? (i := 11) (by decide +kernel), List.mem_of_getElem? (i := 300) (by decide +kernel), List.mem_of_getElem? (i := 301) (by decide +kernel)⟩
theorem lw_p7 : lw_okq (⟨"AtelierBook", "averagePriceOfAlike", "(I)I"⟩, 17) := ⟨⟨by decide +kernel, by decide +kernel⟩, List.mem_of_getElem? (i := 11) (by decide +kernel), List.mem_of_getElem? (i := 304) (by decide +kernel), List.mem_of_getElem? (i := 305) (by decide +kernel)⟩
theorem lw_p8 : lw_okq (⟨"AtelierBook", "mainPigmentOf", "(I)I"⟩, 17) := ⟨⟨by decide +kernel, by decide +kernel⟩, List.mem_of_getElem? (i := 11) (by decide +kernel), List.mem_of_getElem? (i := 308) (by decide +kernel), List.mem_of_getElem? (i := 309) (by decide +kernel)⟩
theorem lw_p9 : lw_okq (⟨"AtelierBook", "mainPigmentOfRow", "(I)I"⟩, 17) := ⟨⟨by decide +kernel, by decide +kernel⟩, List.mem_of_getElem? (i := 11) (by decide +kernel), List.mem_of_getElem? (i := 312) (by decide +kernel), List.mem_of_getElem? (i := 313) (by decide +kernel)⟩
theorem lw_p10 : lw_okq (⟨"AtelierBook", "gramsOfPigment", "(II)I"⟩, 17) := ⟨⟨by decide +kernel, by decide +kernel⟩, List.mem_of_getElem? (i := 11) (by decide +kernel), List.mem_of_getElem? (i := 316) (by decide +kernel), List.mem_of_getElem? (i := 317) (by decide +kernel)⟩
theorem lw_p11 : lw_okq (⟨"AtelierBook", "passForLoan", "(II)V"⟩, 17) := ⟨⟨by decide +kernel, by decide +kernel⟩, List.mem_of_getElem? (i := 11) (by decide +kernel), List.mem_of_getElem? (i := 340) (by decide +kernel), List.mem_of_getElem? (i := 341) (by decide +kernel)⟩
theorem lw_p12 : lw_okq (⟨"AtelierBook", "colourOfRow", "(II)I"⟩, 17) := ⟨⟨by decide +kernel, by decide +kernel⟩, List.mem_of_getElem? (i := 11) (by decide +kernel), List.mem_of_getElem? (i := 371) (by decide +kernel), List.mem_of_getElem? (i := 372) (by decide +kernel)⟩
theorem lw_p13 : lw_okq (⟨"AtelierBook", "colourOfTube", "(II)I"⟩, 17) := ⟨⟨by decide +kernel, by decide +kernel⟩, List.mem_of_getElem? (i := 11) (by decide +kernel), List.mem_of_getElem? (i := 375) (by decide +kernel), List.mem_of_getElem? (i := 376) (by decide +kernel)⟩
theorem lw_p14 : lw_okq (⟨"AtelierBook", "lookOf", "(II)I"⟩, 17) := ⟨⟨by decide +kernel, by decide +kernel⟩, List.mem_of_getElem? (i := 11) (by decide +kernel), List.mem_of_getElem? (i := 386) (by decide +kernel), List.mem_of_getElem? (i := 387) (by decide +kernel)⟩
theorem lw_p15 : lw_okq (⟨"AtelierBook", "sumOfTube", "(III)I"⟩, 17) := ⟨⟨by decide +kernel, by decide +kernel⟩, List.mem_of_getElem? (i := 11) (by decide +kernel), List.mem_of_getElem? (i := 404) (by decide +kernel), List.mem_of_getElem? (i := 405) (by decide +kernel)⟩
def lw_privs_1 : List (MethodName × Nat) := [(⟨"java/lang/Throwable", "fillInStackTrace", "(I)Ljava/lang/Throwable;"⟩, 6), (⟨"AtelierBook", "move", "(III)Z"⟩, 17), (⟨"AtelierBook", "sumOfRow", "(I)I"⟩, 17), (⟨"AtelierBook", "waste", "(I)I"⟩, 17), (⟨"AtelierBook", "checkAtHome", "(I)V"⟩, 17), (⟨"AtelierBook", "isLent", "(I)Z"⟩, 17), (⟨"AtelierBook", "valueOf", "(I)I"⟩, 17), (⟨"AtelierBook", "averagePriceOfAlike", "(I)I"⟩, 17), (⟨"AtelierBook", "mainPigmentOf", "(I)I"⟩, 17), (⟨"AtelierBook", "mainPigmentOfRow", "(I)I"⟩, 17), (⟨"AtelierBook", "gramsOfPigment", "(II)I"⟩, 17), (⟨"AtelierBook", "passForLoan", "(II)V"⟩, 17), (⟨"AtelierBook", "colourOfRow", "(II)I"⟩, 17), (⟨"AtelierBook", "colourOfTube", "(II)I"⟩, 17), (⟨"AtelierBook", "lookOf", "(II)I"⟩, 17), (⟨"AtelierBook", "sumOfTube", "(III)I"⟩, 17)]
theorem lw_r1 : ∀ q ∈ lw_privs_1, lw_okq q := List.forall_mem_cons.mpr ⟨lw_p0, List.forall_mem_cons.mpr ⟨lw_p1, List.forall_mem_cons.mpr ⟨lw_p2, List.forall_mem_cons.mpr ⟨lw_p3, List.forall_mem_cons.mpr ⟨lw_p4, List.forall_mem_cons.mpr ⟨lw_p5, List.forall_mem_cons.mpr ⟨lw_p6, List.forall_mem_cons.mpr ⟨lw_p7, List.forall_mem_cons.mpr ⟨lw_p8, List.forall_mem_cons.mpr ⟨lw_p9, List.forall_mem_cons.mpr ⟨lw_p10, List.forall_mem_cons.mpr ⟨lw_p11, List.forall_mem_cons.mpr ⟨lw_p12, List.forall_mem_cons.mpr ⟨lw_p13, List.forall_mem_cons.mpr ⟨lw_p14, List.forall_mem_cons.mpr ⟨lw_p15, fun _ h => absurd h List.not_mem_nil⟩⟩⟩⟩⟩⟩⟩⟩⟩⟩⟩⟩⟩⟩⟩⟩
theorem lw_p16 : lw_okq (⟨"AtelierBook", "mixed", "(IIII)I"⟩, 17) := ⟨⟨by decide +kernel, by decide +kernel⟩, List.mem_of_getElem? (i := 11) (by decide +kernel), List.mem_of_getElem? (i := 415) (by decide +kernel), List.mem_of_getElem? (i := 416) (by decide +kernel)⟩
theorem lw_p17 : lw_okq (⟨"AtelierBookModel", "isPot", "(I)Z"⟩, 22) := ⟨⟨by decide +kernel, by decide +kernel⟩, List.mem_of_getElem? (i := 429) (by decide +kernel), List.mem_of_getElem? (i := 528) (by decide +kernel), List.mem_of_getElem? (i := 529) (by decide +kernel)⟩
theorem lw_p18 : lw_okq (⟨"AtelierBookModel", "isTube", "(I)Z"⟩, 22) := ⟨⟨by decide +kernel, by decide +kernel⟩, List.mem_of_getElem? (i := 429) (by decide +kernel), List.mem_of_getElem? (i := 532) (by decide +kernel), List.mem_of_getElem? (i := 533) (by decide +kernel)⟩
theorem lw_p19 : lw_okq (⟨"AtelierBookModel", "gramsOf", "(I)I"⟩, 22) := ⟨⟨by decide +kernel, by decide +kernel⟩, List.mem_of_getElem? (i := 429) (by decide +kernel), List.mem_of_getElem? (i := 540) (by decide +kernel), List.mem_of_getElem? (i := 541) (by decide +kernel)⟩
theorem lw_p20 : lw_okq (⟨"AtelierBookModel", "flows", "(II)V"⟩, 22) := ⟨⟨by decide +kernel, by decide +kernel⟩, List.mem_of_getElem? (i := 429) (by decide +kernel), List.mem_of_getElem? (i := 544) (by decide +kernel), List.mem_of_getElem? (i := 545) (by decide +kernel)⟩
theorem lw_p21 : lw_okq (⟨"AtelierBookModel", "isPicture", "(I)Z"⟩, 22) := ⟨⟨by decide +kernel, by decide +kernel⟩, List.mem_of_getElem? (i := 429) (by decide +kernel), List.mem_of_getElem? (i := 560) (by decide +kernel), List.mem_of_getElem? (i := 561) (by decide +kernel)⟩
theorem lw_p22 : lw_okq (⟨"AtelierBookModel", "value", "(I)I"⟩, 22) := ⟨⟨by decide +kernel, by decide +kernel⟩, List.mem_of_getElem? (i := 429) (by decide +kernel), List.mem_of_getElem? (i := 582) (by decide +kernel), List.mem_of_getElem? (i := 583) (by decide +kernel)⟩
theorem lw_p23 : lw_okq (⟨"AtelierBookModel", "main", "(I)I"⟩, 22) := ⟨⟨by decide +kernel, by decide +kernel⟩, List.mem_of_getElem? (i := 429) (by decide +kernel), List.mem_of_getElem? (i := 586) (by decide +kernel), List.mem_of_getElem? (i := 587) (by decide +kernel)⟩
theorem lw_p24 : lw_okq (⟨"AtelierBookModel", "passOne", "()V"⟩, 22) := ⟨⟨by decide +kernel, by decide +kernel⟩, List.mem_of_getElem? (i := 429) (by decide +kernel), List.mem_of_getElem? (i := 599) (by decide +kernel), List.mem_of_getElem? (i := 600) (by decide +kernel)⟩
theorem lw_p25 : lw_okq (⟨"AtelierBookModel", "look", "(II)I"⟩, 22) := ⟨⟨by decide +kernel, by decide +kernel⟩, List.mem_of_getElem? (i := 429) (by decide +kernel), List.mem_of_getElem? (i := 619) (by decide +kernel), List.mem_of_getElem? (i := 620) (by decide +kernel)⟩
theorem lw_p26 : lw_okq (⟨"AtelierBookModel", "inPots", "(I)I"⟩, 22) := ⟨⟨by decide +kernel, by decide +kernel⟩, List.mem_of_getElem? (i := 429) (by decide +kernel), List.mem_of_getElem? (i := 631) (by decide +kernel), List.mem_of_getElem? (i := 632) (by decide +kernel)⟩
theorem lw_p27 : lw_okq (⟨"AtelierBookModel", "onPictures", "(I)I"⟩, 22) := ⟨⟨by decide +kernel, by decide +kernel⟩, List.mem_of_getElem? (i := 429) (by decide +kernel), List.mem_of_getElem? (i := 635) (by decide +kernel), List.mem_of_getElem? (i := 636) (by decide +kernel)⟩
theorem lw_p28 : lw_okq (⟨"AtelierBookModel", "far", "(IIIII)I"⟩, 22) := ⟨⟨by decide +kernel, by decide +kernel⟩, List.mem_of_getElem? (i := 429) (by decide +kernel), List.mem_of_getElem? (i := 643) (by decide +kernel), List.mem_of_getElem? (i := 644) (by decide +kernel)⟩
def lw_privs_2 : List (MethodName × Nat) := [(⟨"AtelierBook", "mixed", "(IIII)I"⟩, 17), (⟨"AtelierBookModel", "isPot", "(I)Z"⟩, 22), (⟨"AtelierBookModel", "isTube", "(I)Z"⟩, 22), (⟨"AtelierBookModel", "gramsOf", "(I)I"⟩, 22), (⟨"AtelierBookModel", "flows", "(II)V"⟩, 22), (⟨"AtelierBookModel", "isPicture", "(I)Z"⟩, 22), (⟨"AtelierBookModel", "value", "(I)I"⟩, 22), (⟨"AtelierBookModel", "main", "(I)I"⟩, 22), (⟨"AtelierBookModel", "passOne", "()V"⟩, 22), (⟨"AtelierBookModel", "look", "(II)I"⟩, 22), (⟨"AtelierBookModel", "inPots", "(I)I"⟩, 22), (⟨"AtelierBookModel", "onPictures", "(I)I"⟩, 22), (⟨"AtelierBookModel", "far", "(IIIII)I"⟩, 22)]
theorem lw_r2 : ∀ q ∈ lw_privs_2, lw_okq q := List.forall_mem_cons.mpr ⟨lw_p16, List.forall_mem_cons.mpr ⟨lw_p17, List.forall_mem_cons.mpr ⟨lw_p18, List.forall_mem_cons.mpr ⟨lw_p19, List.forall_mem_cons.mpr ⟨lw_p20, List.forall_mem_cons.mpr ⟨lw_p21, List.forall_mem_cons.mpr ⟨lw_p22, List.forall_mem_cons.mpr ⟨lw_p23, List.forall_mem_cons.mpr ⟨lw_p24, List.forall_mem_cons.mpr ⟨lw_p25, List.forall_mem_cons.mpr ⟨lw_p26, List.forall_mem_cons.mpr ⟨lw_p27, List.forall_mem_cons.mpr ⟨lw_p28, fun _ h => absurd h List.not_mem_nil⟩⟩⟩⟩⟩⟩⟩⟩⟩⟩⟩⟩⟩
def lw_privs : List (MethodName × Nat) := lw_privs_1 ++ (lw_privs_2)
def lw_tbl : List Cond := k2_sels lw_privs ++ tables_1
theorem lw_privs_ok : ∀ q ∈ lw_privs, lw_okq q := by
  show ∀ q ∈ lw_privs_1 ++ (lw_privs_2), lw_okq q
  exact List.forall_mem_append.mpr ⟨lw_r1, lw_r2⟩
-- ===== end of PART A; then your names; then what follows =====
end
section
/-! ===== BEGIN words of one list among another's, by their places ===== -/
theorem goodIn_r {big : List Cond} (ws : List Cond) (ps : List Nat) (hp : ws = ps.filterMap (fun i => big[i]?)) (h : ws.all goodWord = true) : GoodIn big ws := by
  intro w hw
  have h1 := List.all_eq_true.mp h w hw
  rw [hp] at hw
  obtain ⟨i, -, hi⟩ := List.mem_filterMap.mp hw
  have hm : w ∈ big := by first | exact List.mem_of_getElem? hi | exact List.getElem?_mem hi
  exact ⟨hm, good_of_word h1⟩
theorem goodIn_app {big a b : List Cond} (ha : GoodIn big a) (hb : GoodIn big b) : GoodIn big (a ++ b) := fun w h => (List.mem_append.mp h).elim (ha w) (hb w)
theorem goodIn_ca {big a b : List Cond} {c : Cond} (ha : GoodIn big (c :: a)) (hb : GoodIn big b) : GoodIn big (c :: (a ++ b)) := fun w h => (List.mem_cons.mp h).elim (fun e => ha w (List.mem_cons.mpr (Or.inl e))) (fun h => (List.mem_append.mp h).elim (fun h => ha w (List.mem_cons.mpr (Or.inr h))) (hb w))
theorem goodIn_sub {big ws : List Cond} (hm : ∀ w ∈ ws, w ∈ big) (h : ws.all goodWord = true) : GoodIn big ws := fun w hw => ⟨hm w hw, good_of_word (List.all_eq_true.mp h w hw)⟩
/-! ===== END ===== -/

/-! ===== BEGIN exceptions that leave a method, and their catching by the caller (launches without stack traces) ===== -/
section VXA
/-! The laws vx_back, vx_callV, vx_callS, vx_callSW, vx_throw0, vx_throwS follow proofs of the library, with one case more: JvmDerived/Free/Laws.lean (Back.of_free), Shelf42/LK1.lean (callV, callS), Shelf/KitTraced.lean (throwNew0V, throwNewS). -/
/-- where a method has thrown q: the class by its name, the cell, what was written, the world -/
def vx_T (XC : String → State → State → Prop) (st : State) (q : Addr) (t : State) (mc ms : Nat) (free : Addr → Prop) : Prop :=
  ∃ (E : String) (ce : Cell) (L : List Loc), XC E st t ∧ t.heap[q]? = some ce ∧ ce.vm = .none ∧ st.vm.findClass E = some ce.cls ∧ st.WarmedH t.vm ∧ st.sameButNew ({ t with vm := st.vm } : State) L mc ms ∧ ∀ z ∈ L, free z.base
def vx_Q (Qc : Array Value → State → Outcome → State → Prop) (XC : String → State → State → Prop) (mc ms : Nat) (free : Addr → Prop) : Array Value → State → Outcome → State → Prop := fun a st o t =>
  (Qc a st o t ∧ ∃ L, FrameEnd st o t L mc ms ∧ ∀ q ∈ L, free q.base) ∨ ∃ q, o = .threw q ∧ vx_T XC st q t mc ms free
/-- a callee that returns or throws -/
def vx_Met (l : Launch) (y : MethodName) (ws : List Cond) (rm : Room) (Pc : Array Value → State → Prop) (Qc : Array Value → State → Outcome → State → Prop) (XC : String → State → State → Prop) (mc ms : Nat) (free : Addr → Prop) : Prop :=
  MetFree l y (headSpec ws rm) Pc (fun _ _ _ _ _ => True) (vx_Q Qc XC mc ms free)
def vx_Post (XC : String → State → State → Prop) (mc ms : Nat) (free : Addr → Prop) : Pt → Array Value → Addr → Pt → Prop := fun A a q B =>
  ∃ (g : JFrame) (mk : MethodId) (t : State) (L : List Loc) (E : String) (ce : Cell), B.U.heap = t.heap ∧ B.U.vm = t.vm ∧ XC E (A.U.calling g mk a) t ∧ t.heap[q]? = some ce ∧ ce.vm = .none ∧ A.U.vm.findClass E = some ce.cls ∧ B.locs = A.locs ++ L ∧ (∀ z ∈ L, free z.base) ∧ B.cells = A.cells + mc ∧ B.slots = A.slots + ms
def vx_Back (l : Launch) (R : Room) (p : Program) (e : Env) (below : List Frame) (s : State) (sargs : Array Value) (y : MethodName) (len W9 : Nat)
    (Pre : Pt → Array Value → Prop) (Post : Pt → Array Value → Option Value → Pt → Prop) (PostX : Pt → Array Value → Addr → Pt → Prop) : Prop :=
  ∀ (m : MethodId) (meth : Method) (c : Code) (A : Pt) (g : JFrame) (ig : Instr) (mk : MethodId) (a : Array Value),
    Stand p l e R s m sargs below meth c A.U A.locs A.cells A.slots → g.method = m → g.locals.size = c.maxLocals → decode c.code g.pc = .ok (ig, len) →
    2 * g.monitorRoom + (g.stack.map fun v => v.category).sum ≤ W9 → A.U.methodNamed? y = some mk → Pre A a →
    (∃ (v : Option Value) (B : Pt), Stand p l e R s m sargs below meth c B.U B.locs B.cells B.slots ∧ Post A a v B ∧
      Steps p.tables e below (doInvoke e (A.U.setTop g) [] mk a).1 (B.U.setTop { g with pc := g.pc + len, stack := v.toList ++ g.stack })) ∨
    (∃ (q : Addr) (B : Pt), Stand p l e R s m sargs below meth c B.U B.locs B.cells B.slots ∧ PostX A a q B ∧
      Steps p.tables e below (doInvoke e (A.U.setTop g) [] mk a).1 ((B.U.setTop g).pushFrame (.throwing q)))
section Payer
variable {l : Launch} {R : Room} {p : Program} {e : Env} {below : List Frame} {s : State} {sargs : Array Value} {y : MethodName} {len W9 : Nat}
theorem vx_back {ws : List Cond} {rm : Room} {Pc : Array Value → State → Prop} {Qc : Array Value → State → Outcome → State → Prop} {XC : String → State → State → Prop} {mc ms : Nat} {free : Addr → Prop} {bytes : ByteArray} {maxL : Nat} {ret : Option FieldType}
    (hM : vx_Met l y ws rm Pc Qc XC mc ms free) (hblind : FrameBlind Pc) (hrc : rm.cells = mc) (hrs : rm.slots = ms)
    (hframes : rm.frames + 1 ≤ R.frames) (hlocals : W9 + (maxL + 11) + rm.locals ≤ R.locals)
    (hws : ∀ w ∈ ws, ∀ a' U, s.WarmedH U.vm → w.before a' U = true) (hcode : Cond.code y bytes maxL ret ∈ ws) (hinit : ∀ a' U, s.WarmedH U.vm → (Cond.initialized y.cls).before a' U = true) :
    vx_Back l R p e below s sargs y len W9 (PreOf R mc ms Pc) (PostOf Qc mc ms free) (vx_Post XC mc ms free) := by
  intro m meth c A g ig mk a X hg hsize hdg hW hn hp
  have h1 : (headSpec ws rm).pre.before a A.U = true := atoms_intro fun w hw => hws w hw _ _ X.warmed
  have h2 : (Cond.code y bytes maxL ret).before a A.U = true := hws _ hcode _ _ X.warmed
  have h3 : (Cond.initialized y.cls).before a A.U = true := hinit _ _ X.warmed
  have h4 : A.cells + (headSpec ws rm).room.cells ≤ R.cells := by rw [show (headSpec ws rm).room.cells = mc from hrc]; exact hp.1
  have h5 : A.slots + (headSpec ws rm).room.slots ≤ R.slots := by rw [show (headSpec ws rm).room.slots = ms from hrs]; exact hp.2.1
  have hPc : Pc a (A.U.calling g mk a) := hblind _ _ _ _ hp.2.2
  obtain ⟨U, Ls, c0, s0⟩ := A
  dsimp only [Pt.U, Pt.locs, Pt.cells, Pt.slots] at h1 h2 h3 h4 h5 X hn hPc ⊢
  obtain ⟨methY, cY, hmY, hcY, -, hlY, -, -, -, -⟩ := Cond.code_spec hn h2
  obtain ⟨kY, hkY, -⟩ := className_of_methodNamed hn
  have hinitY : kY.init = .initialized := Cond.initialized_spec (findClass_of_methodNamed hn) hkY h3
  have h : At U g.method c below := by rw [hg]; exact X.here
  have hlocals9 : W9 + (maxL + 11) + (headSpec ws rm).room.locals ≤ R.locals := hlocals
  have happ : (headSpec ws rm).appliesLoose y e.platform (U.calling g mk a) = true :=
    Spec.appliesLoose_calling (g := g) h hdg hn hkY hinitY
      (X.room_calling (g := g) (R' := (headSpec ws rm).room) hsize hmY hcY hframes (by rw [hlY]; omega) h4 h5) h1
  obtain ⟨mid, hmid⟩ := h.above
  have hfr : (U.setTop g).frames = (.java g :: mid) ++ below := by rw [State.frames_setTop' g h.top, hmid]; rfl
  obtain ⟨o, s₂, hsteps, -, hend, hq⟩ := Steps.callFree hM p X.admits X.cas X.clock (acts := []) hfr happ hPc trivial
  have hq' : vx_Q Qc XC mc ms free a (U.calling g mk a) o s₂ := hq
  rw [State.frames_setTop' g h.top] at hend
  obtain ⟨g₀, hg0⟩ := Option.isSome_iff_exists.mp h.top
  obtain ⟨r, hr⟩ := State.topJava?_eq_some.mp hg0
  have hr' : (({ U with heap := s₂.heap, slotsUsed := s₂.slotsUsed } : State).setVm s₂.vm).frames = .java g₀ :: r := hr
  rcases hq' with ⟨hqc, L, hfe, hL⟩ | ⟨q, rfl, E, ce, L, hx, hce, hcv, hcl, hW₂, hsm, hL⟩
  · obtain ⟨⟨v, rfl⟩, hW₂, e2, q2, q3, q4, q5, q6⟩ := id hfe
    have e3 : s₂ = ({ (U.calling g mk a).setFrames s₂.frames with heap := s₂.heap, slotsUsed := s₂.slotsUsed } : State).setVm s₂.vm := by
      have : s₂ = ({ s₂ with vm := (U.calling g mk a).vm } : State).setVm s₂.vm := rfl
      rw [e2] at this
      exact this
    obtain ⟨c₂, i₂, len₂, hc₂, hd₂, hf₂⟩ := hend
    have hW' : U.WarmedH s₂.vm := hW₂
    have hcc : c₂ = c := by
      have h1 : s₂.code? g.method = U.code? g.method := by
        rw [State.code?_eq, State.code?_eq, hW'.alike.method?]
      exact Option.some.inj (hc₂.symm.trans (h1.trans h.code))
    subst hcc
    have hlen : len₂ = len := by rw [hdg] at hd₂; cases hd₂; rfl
    subst hlen
    have hs₂ : s₂ = (({ U with heap := s₂.heap, slotsUsed := s₂.slotsUsed } : State).setVm s₂.vm).setTop { g with pc := g.pc + len₂, stack := v.toList ++ g.stack } := by
      refine e3.trans ?_
      rw [hf₂, State.calling_eq h.top, State.setFrames_setFrames, State.setTop_of_frames _ hr', hr]
      rfl
    have hsame : U.sameButNew ({ U with heap := s₂.heap, slotsUsed := s₂.slotsUsed } : State) L mc ms := by
      refine ⟨?_, q2, q3, q4, q5, q6⟩
      obtain ⟨t, ht, -⟩ := State.frames_cons hr
      show ({ U with heap := s₂.heap, slotsUsed := s₂.slotsUsed } : State) = { U.setFrames U.frames with heap := s₂.heap, slotsUsed := s₂.slotsUsed }
      rw [State.setFrames_self ht]
    subst hg
    refine Or.inl ⟨v, ⟨(({ U with heap := s₂.heap, slotsUsed := s₂.slotsUsed } : State).setVm s₂.vm), Ls ++ L, c0 + mc, s0 + ms⟩,
      ⟨X.admits, X.cas, X.clock, X.frames, X.room, X.hears, X.method, X.code, (X.here.setHeapUsed s₂.heap s₂.slotsUsed).setVm hW'.alike, X.tail, State.WarmedH.trans X.warmed hW', X.limits, X.bytes, X.same.trans (hsame.setVm s.vm)⟩,
      ⟨g, mk, s₂, L, rfl, rfl, hqc, rfl, hL, rfl, rfl⟩, ?_⟩
    show Steps p.tables e below _ ((({ U with heap := s₂.heap, slotsUsed := s₂.slotsUsed } : State).setVm s₂.vm).setTop { g with pc := g.pc + len₂, stack := v.toList ++ g.stack })
    rw [← hs₂]
    exact hsteps
  · obtain ⟨e2, q2, q3, q4, q5, q6⟩ := id hsm
    have e3 : s₂ = ({ (U.calling g mk a).setFrames s₂.frames with heap := s₂.heap, slotsUsed := s₂.slotsUsed } : State).setVm s₂.vm := by
      have : s₂ = ({ s₂ with vm := (U.calling g mk a).vm } : State).setVm s₂.vm := rfl
      rw [e2] at this
      exact this
    have hf₂ : s₂.frames = .throwing q :: .java g :: U.frames.tail := hend
    have hW' : U.WarmedH s₂.vm := hW₂
    have hs₂ : s₂ = ((({ U with heap := s₂.heap, slotsUsed := s₂.slotsUsed } : State).setVm s₂.vm).setTop g).pushFrame (.throwing q) := by
      refine e3.trans ?_
      rw [hf₂, State.calling_eq h.top, State.setFrames_setFrames, State.pushFrame, State.frames_setTop _ hr', State.setTop_of_frames _ hr', State.setFrames_setFrames, hr]
      rfl
    have hsame : U.sameButNew ({ U with heap := s₂.heap, slotsUsed := s₂.slotsUsed } : State) L mc ms := by
      refine ⟨?_, q2, q3, q4, q5, q6⟩
      obtain ⟨t, ht, -⟩ := State.frames_cons hr
      show ({ U with heap := s₂.heap, slotsUsed := s₂.slotsUsed } : State) = { U.setFrames U.frames with heap := s₂.heap, slotsUsed := s₂.slotsUsed }
      rw [State.setFrames_self ht]
    subst hg
    refine Or.inr ⟨q, ⟨(({ U with heap := s₂.heap, slotsUsed := s₂.slotsUsed } : State).setVm s₂.vm), Ls ++ L, c0 + mc, s0 + ms⟩,
      ⟨X.admits, X.cas, X.clock, X.frames, X.room, X.hears, X.method, X.code, (X.here.setHeapUsed s₂.heap s₂.slotsUsed).setVm hW'.alike, X.tail, State.WarmedH.trans X.warmed hW', X.limits, X.bytes, X.same.trans (hsame.setVm s.vm)⟩,
      ⟨g, mk, s₂, L, E, ce, rfl, rfl, hx, hce, hcv, hcl, rfl, hL, rfl, rfl⟩, ?_⟩
    show Steps p.tables e below _ (((({ U with heap := s₂.heap, slotsUsed := s₂.slotsUsed } : State).setVm s₂.vm).setTop g).pushFrame (.throwing q))
    rw [← hs₂]
    exact hsteps
end Payer
section Calls
variable {p : Program} {l : Launch} {e : Env} {R : Room} {s : State} {m : MethodId} {args : Array Value} {below : List Frame} {meth : Method} {c : Code} {T : State} {locs : List Loc} {cells slots : Nat}
theorem vx_callV (X : Stand p l e R s m args below meth c T locs cells slots) (hexec : p.tables.exec = Jvm.exec) {own C : String} {index : Nat} {y : MethodName} {bytes : ByteArray} {maxL : Nat} {ret : Option FieldType}
    (hown : s.vm.findClass own = some m.cls) (hlink : (Cond.methodLink own index y).before args s = true) (hinst : (Cond.instanceMethod y).before args s = true) (hsel : (Cond.selects C y y).before args s = true)
    (hcode : (Cond.code y bytes maxL ret).before args s = true) (hy : y.cls ≠ "java/lang/invoke/MethodHandle" ∧ y.cls ≠ "java/lang/invoke/VarHandle")
    {W9 : Nat} {Pre : Pt → Array Value → Prop} {Post : Pt → Array Value → Option Value → Pt → Prop} {PostX : Pt → Array Value → Addr → Pt → Prop} (hK : vx_Back l R p e below s args y 3 W9 Pre Post PostX)
    {b : Addr} {cellB : Cell} (hcell : T.heap[b]? = some cellB) (hobj : cellB.vm.isStatics = false) (hcls : s.vm.findClass C = some cellB.cls)
    {g : JFrame} (hg : g.method = m) (hsize : g.locals.size = c.maxLocals) {argsL rest : List Value} (hlen : ∀ sig, parseMethodDescriptor y.desc = some sig → argsL.length = sig.parameters.length)
    (hstack : g.stack = argsL.reverse ++ .ref b :: rest) (hW : 2 * g.monitorRoom + (rest.map fun v => v.category).sum ≤ W9) (hdg : decode c.code g.pc = .ok (.invokevirtual index, 3))
    (hpre : ∀ vm₁, s.WarmedH vm₁ → Pre ⟨T.setVm vm₁, locs, cells, slots⟩ (Value.ref b :: argsL).toArray) :
    (∃ (v : Option Value) (vm₁ : Vm) (B : Pt), s.WarmedH vm₁ ∧ Stand p l e R s m args below meth c B.U B.locs B.cells B.slots ∧ Post ⟨T.setVm vm₁, locs, cells, slots⟩ (Value.ref b :: argsL).toArray v B ∧
      ∀ target, Steps p.tables e below (B.U.setTop { g with pc := g.pc + 3, stack := v.toList ++ rest }) target → Steps p.tables e below (T.setTop g) target) ∨
    (∃ (q : Addr) (vm₁ : Vm) (B : Pt), s.WarmedH vm₁ ∧ Stand p l e R s m args below meth c B.U B.locs B.cells B.slots ∧ PostX ⟨T.setVm vm₁, locs, cells, slots⟩ (Value.ref b :: argsL).toArray q B ∧
      Steps p.tables e below (T.setTop g) ((B.U.setTop { g with stack := rest }).pushFrame (.throwing q))) := by
  obtain ⟨mk, methM, hnamed, hmethM, hstM, habM⟩ := Cond.instanceMethod_spec hinst
  obtain ⟨methM', cM, hmethM', -, -, -, -, -, -, hsigM⟩ := Cond.code_spec hnamed hcode
  cases hmethM.symm.trans hmethM'
  obtain ⟨c2, r2, m2, q1, q2, q3, q4, kP, hkP, hkPi⟩ := Cond.selects_spec hsel
  cases hcls.symm.trans q1
  cases (State.methodFound?_of_named hnamed hy).symm.trans q2
  cases hnamed.symm.trans q3
  have hselP : selectMethod e.platform s.vm cellB.cls mk = .method mk := by rw [Launch.admits_selectMethod X.admits]; exact q4
  obtain ⟨vm₁, X₁, hstep₁⟩ := X.invokevirtual hexec hown hlink hnamed hmethM hstM hkP hkPi hy (a := b) (cell := cellB) hcell
    (fun z h => by rw [h] at hobj; cases hobj) hselP hmethM habM hkP hkPi (g := g) hg (argsL := argsL) (rest := rest) (hlen _ hsigM) hstack hdg
  rcases hK m meth c ⟨T.setVm vm₁, locs, cells, slots⟩ { g with stack := rest } (.invokevirtual index) mk (Value.ref b :: argsL).toArray X₁ hg hsize hdg hW (X₁.named hnamed) (hpre vm₁ X₁.warmed) with ⟨v, B, X', hpost, hsteps⟩ | ⟨q, B, X', hpost, hsteps⟩
  · exact Or.inl ⟨v, vm₁, B, X₁.warmed, X', hpost, fun target h => hstep₁ _ fun acts => by rw [doInvoke_state]; exact hsteps.trans h⟩
  · exact Or.inr ⟨q, vm₁, B, X₁.warmed, X', hpost, hstep₁ _ fun acts => by rw [doInvoke_state]; exact hsteps⟩
theorem vx_callS (X : Stand p l e R s m args below meth c T locs cells slots) (hexec : p.tables.exec = Jvm.exec) {own : String} {index : Nat} {y : MethodName} {bytes : ByteArray} {maxL : Nat} {ret : Option FieldType}
    (hown : s.vm.findClass own = some m.cls) (hlink : (Cond.methodLink own index y).before args s = true) (hstat : (Cond.static y).before args s = true) (hinit : (Cond.initialized y.cls).before args s = true)
    (hcode : (Cond.code y bytes maxL ret).before args s = true) (hy : y.cls ≠ "java/lang/invoke/MethodHandle" ∧ y.cls ≠ "java/lang/invoke/VarHandle")
    {W9 : Nat} {Pre : Pt → Array Value → Prop} {Post : Pt → Array Value → Option Value → Pt → Prop} {PostX : Pt → Array Value → Addr → Pt → Prop} (hK : vx_Back l R p e below s args y 3 W9 Pre Post PostX)
    {g : JFrame} (hg : g.method = m) (hsize : g.locals.size = c.maxLocals) {argsL rest : List Value} (hlen : ∀ sig, parseMethodDescriptor y.desc = some sig → argsL.length = sig.parameters.length)
    (hstack : g.stack = argsL.reverse ++ rest) (hW : 2 * g.monitorRoom + (rest.map fun v => v.category).sum ≤ W9) (hdg : decode c.code g.pc = .ok (.invokestatic index, 3))
    (hpre : ∀ vm₁, s.WarmedH vm₁ → Pre ⟨T.setVm vm₁, locs, cells, slots⟩ argsL.toArray) :
    (∃ (v : Option Value) (vm₁ : Vm) (B : Pt), s.WarmedH vm₁ ∧ Stand p l e R s m args below meth c B.U B.locs B.cells B.slots ∧ Post ⟨T.setVm vm₁, locs, cells, slots⟩ argsL.toArray v B ∧
      ∀ target, Steps p.tables e below (B.U.setTop { g with pc := g.pc + 3, stack := v.toList ++ rest }) target → Steps p.tables e below (T.setTop g) target) ∨
    (∃ (q : Addr) (vm₁ : Vm) (B : Pt), s.WarmedH vm₁ ∧ Stand p l e R s m args below meth c B.U B.locs B.cells B.slots ∧ PostX ⟨T.setVm vm₁, locs, cells, slots⟩ argsL.toArray q B ∧
      Steps p.tables e below (T.setTop g) ((B.U.setTop { g with stack := rest }).pushFrame (.throwing q))) := by
  obtain ⟨mk, hnamed⟩ := Cond.code_named hcode
  obtain ⟨methM, cM, hmethM, -, -, -, -, -, -, hsigM⟩ := Cond.code_spec hnamed hcode
  have hstatic : methM.isStatic = true := Cond.static_spec hnamed hmethM hstat
  obtain ⟨kP, hkP, -⟩ := className_of_methodNamed hnamed
  have hinitP : kP.init = .initialized := Cond.initialized_spec (findClass_of_methodNamed hnamed) hkP hinit
  obtain ⟨vm₁, X₁, hstep₁⟩ := X.invokestatic hexec hown hlink hnamed hmethM hstatic hkP hinitP hy (g := g) hg (argsL := argsL) (rest := rest) (hlen _ hsigM) hstack hdg
  rcases hK m meth c ⟨T.setVm vm₁, locs, cells, slots⟩ { g with stack := rest } (.invokestatic index) mk argsL.toArray X₁ hg hsize hdg hW (X₁.named hnamed) (hpre vm₁ X₁.warmed) with ⟨v, B, X', hpost, hsteps⟩ | ⟨q, B, X', hpost, hsteps⟩
  · exact Or.inl ⟨v, vm₁, B, X₁.warmed, X', hpost, fun target h => hstep₁ _ fun acts => by rw [doInvoke_state]; exact hsteps.trans h⟩
  · exact Or.inr ⟨q, vm₁, B, X₁.warmed, X', hpost, hstep₁ _ fun acts => by rw [doInvoke_state]; exact hsteps⟩
end Calls
theorem vx_cls {s : State} {T : State} {vm₁ : Vm} {E : String} {k : ClassId} (hW : s.WarmedH vm₁) (h : (T.setVm vm₁).vm.findClass E = some k) : s.vm.findClass E = some k := by
  have h1 : vm₁.findClass E = some k := h
  rw [hW.alike.findClass] at h1
  exact h1
/-- the method's frame g, with q thrown over it -/
def vx_W (p : Program) (l : Launch) (e : Env) (R : Room) (s : State) (m : MethodId) (args : Array Value) (below : List Frame) (meth : Method) (c : Code) (H : Heap) (locs : List Loc) (cells slots : Nat) (Q : State → Prop) (g : JFrame) (q : Addr) : Prop :=
  ∀ T : State, T.heap = H → Stand p l e R s m args below meth c T locs cells slots → ∃ t, Steps p.tables e below ((T.setTop g).pushFrame (.throwing q)) t ∧ Q t
def vx_Run (p : Program) (l : Launch) (e : Env) (R : Room) (s : State) (m : MethodId) (args : Array Value) (below : List Frame) (meth : Method) (c : Code) (H : Heap) (locs : List Loc) (cells slots mc ms : Nat) (g : JFrame) (rest : List Value) (Qa : State → Outcome → State → Prop) (XC : String → State → State → Prop) (free : Addr → Prop) : Prop :=
  ∀ T : State, T.heap = H → Stand p l e R s m args below meth c T locs cells slots →
    (∃ (v : Option Value) (st₀ t T' : State) (L : List Loc), st₀.heap = H ∧ Stand p l e R s m args below meth c T' (locs ++ L) (cells + mc) (slots + ms) ∧ (∀ q ∈ L, free q.base) ∧ T'.heap = t.heap ∧ T'.vm = t.vm ∧ Qa st₀ (.returned v) t ∧
      Goes p e below T g T' { g with pc := g.pc + 3, stack := v.toList ++ rest }) ∨
    (∃ (q : Addr) (st₀ t T' : State) (L : List Loc) (E : String) (ce : Cell), st₀.heap = H ∧ Stand p l e R s m args below meth c T' (locs ++ L) (cells + mc) (slots + ms) ∧ (∀ z ∈ L, free z.base) ∧ T'.heap = t.heap ∧ T'.vm = t.vm ∧ XC E st₀ t ∧ t.heap[q]? = some ce ∧ ce.vm = .none ∧ s.vm.findClass E = some ce.cls ∧
      Steps p.tables e below (T.setTop g) ((T'.setTop { g with stack := rest }).pushFrame (.throwing q)))
def vx_X {S : Type} (px : S → Prop) (B : String → S → State → Prop) (A : Nat → Prop) : String → State → State → Prop := fun E st t => ∃ u : S, px u ∧ B E u t ∧ va_F A st t
section Runs
variable {p : Program} {l : Launch} {e : Env} {R : Room} {s : State} {m : MethodId} {args : Array Value} {below : List Frame} {meth : Method} {c : Code} {H : Heap} {locs : List Loc} {cells slots : Nat}
variable {y : MethodName} {bytes cc : ByteArray} {maxL nL mc ms n index : Nat} {ret : Option FieldType} {ws : List Cond} {rm : Room} {Pc : Array Value → State → Prop} {Qc : Array Value → State → Outcome → State → Prop} {XC : String → State → State → Prop} {free : Addr → Prop} {Ts : List Cond} {own C : String} {b : Addr} {As rest : List Value} {g : JFrame}
theorem vx_callBack (cb : CallB R s args own index y bytes maxL ret ws rm mc ms n) (hM : vx_Met l y ws rm Pc Qc XC mc ms free) (hbl : FrameBlind Pc) : vx_Back l R p e below s args y 3 8 (PreOf R mc ms Pc) (PostOf Qc mc ms free) (vx_Post XC mc ms free) := by
  obtain ⟨hrc, hrs, hfr, hlo, hws, hcw, -, hini, -⟩ := cb
  exact vx_back (bytes := bytes) (maxL := maxL) (ret := ret) hM hbl hrc hrs hfr hlo hws hcw (fun a' U hW => word_at hW (Or.inl (by first | rfl | simp [Cond.onTables, Cond.keeps, Cond.steady])) hini)
theorem vx_runV (S : CallFix p m c cc nL s args Ts own) (hM : vx_Met l y ws rm Pc Qc XC mc ms free) (cw : CallW R s args own C index y bytes maxL ret ws rm mc ms n) (hp : PreV s H C b Pc As)
    (hg : g.method = m) (hn : As.length = n) (hsize : g.locals.size = nL) (hstack : g.stack = As.reverse ++ .ref b :: rest) (hW : 2 * g.monitorRoom + (rest.map fun v => v.category).sum ≤ 8) (hdg : decode cc g.pc = .ok (.invokevirtual index, 3)) (hf : cells + mc ≤ R.cells ∧ slots + ms ≤ R.slots) :
    vx_Run p l e R s m args below meth c H locs cells slots mc ms g rest (Qc (Value.ref b :: As).toArray) XC free := by
  have hK : vx_Back l R p e below s args y 3 8 (PreOf R mc ms Pc) (PostOf Qc mc ms free) (vx_Post XC mc ms free) := vx_callBack cw.1 hM hp.1
  obtain ⟨⟨-, -, -, -, -, -, hcode, -, hy, hlen, hl⟩, hin, hse⟩ := cw
  obtain ⟨hx, hb, hml, ho, -⟩ := S
  obtain ⟨-, ⟨cellB, hcB, hoB, hclB⟩, hPc⟩ := hp
  intro T hT X
  rcases vx_callV X hx (C := C) (bytes := bytes) (maxL := maxL) (ret := ret) ho hl hin hse hcode hy hK (by rw [hT]; exact hcB) hoB hclB hg (hsize.trans hml.symm) (argsL := As) (rest := rest) (fun sig h => hn.trans (hlen sig h)) hstack hW (by rw [hb]; exact hdg)
    (fun vm₁ hW₁ => ⟨hf.1, hf.2, hPc (T.setVm vm₁) hT hW₁⟩) with ⟨v, vm₁, ⟨U', l2, c2, s2⟩, hW₁, X', ⟨g', mk, t, L, e1, e2, hq, h1, hL, h2, h3⟩, st⟩ | ⟨q, vm₁, ⟨U', l2, c2, s2⟩, hW₁, X', ⟨g', mk, t, L, E, ce, e1, e2, hq, hce, hcv, hcl, h1, hL, h2, h3⟩, st⟩
  · dsimp only [Pt.U, Pt.locs, Pt.cells, Pt.slots] at X' e1 e2 h1 h2 h3 st
    subst h1; subst h2; subst h3
    exact Or.inl ⟨v, (T.setVm vm₁).calling g' mk (Value.ref b :: As).toArray, t, U', L, hT, X', hL, e1, e2, hq, st⟩
  · dsimp only [Pt.U, Pt.locs, Pt.cells, Pt.slots] at X' e1 e2 h1 h2 h3 st hcl
    subst h1; subst h2; subst h3
    exact Or.inr ⟨q, (T.setVm vm₁).calling g' mk (Value.ref b :: As).toArray, t, U', L, E, ce, hT, X', hL, e1, e2, hq, hce, hcv, vx_cls hW₁ hcl, st⟩
theorem vx_runS (S : CallFix p m c cc nL s args Ts own) (hM : vx_Met l y ws rm Pc Qc XC mc ms free) (cw : CallB R s args own index y bytes maxL ret ws rm mc ms n ∧ (Cond.static y).before args s = true) (hp : PreS s H Pc As)
    (hg : g.method = m) (hn : As.length = n) (hsize : g.locals.size = nL) (hstack : g.stack = As.reverse ++ rest) (hW : 2 * g.monitorRoom + (rest.map fun v => v.category).sum ≤ 8) (hdg : decode cc g.pc = .ok (.invokestatic index, 3)) (hf : cells + mc ≤ R.cells ∧ slots + ms ≤ R.slots) :
    vx_Run p l e R s m args below meth c H locs cells slots mc ms g rest (Qc As.toArray) XC free := by
  have hK : vx_Back l R p e below s args y 3 8 (PreOf R mc ms Pc) (PostOf Qc mc ms free) (vx_Post XC mc ms free) := vx_callBack cw.1 hM hp.1
  obtain ⟨⟨-, -, -, -, -, -, hcode, hini, hy, hlen, hl⟩, hstt⟩ := cw
  obtain ⟨hx, hb, hml, ho, -⟩ := S
  intro T hT X
  rcases vx_callS X hx (bytes := bytes) (maxL := maxL) (ret := ret) ho hl hstt hini hcode hy hK hg (hsize.trans hml.symm) (argsL := As) (rest := rest) (fun sig h => hn.trans (hlen sig h)) hstack hW (by rw [hb]; exact hdg)
    (fun vm₁ hW₁ => ⟨hf.1, hf.2, hp.2 (T.setVm vm₁) hT hW₁⟩) with ⟨v, vm₁, ⟨U', l2, c2, s2⟩, hW₁, X', ⟨g', mk, t, L, e1, e2, hq, h1, hL, h2, h3⟩, st⟩ | ⟨q, vm₁, ⟨U', l2, c2, s2⟩, hW₁, X', ⟨g', mk, t, L, E, ce, e1, e2, hq, hce, hcv, hcl, h1, hL, h2, h3⟩, st⟩
  · dsimp only [Pt.U, Pt.locs, Pt.cells, Pt.slots] at X' e1 e2 h1 h2 h3 st
    subst h1; subst h2; subst h3
    exact Or.inl ⟨v, (T.setVm vm₁).calling g' mk As.toArray, t, U', L, hT, X', hL, e1, e2, hq, st⟩
  · dsimp only [Pt.U, Pt.locs, Pt.cells, Pt.slots] at X' e1 e2 h1 h2 h3 st hcl
    subst h1; subst h2; subst h3
    exact Or.inr ⟨q, (T.setVm vm₁).calling g' mk As.toArray, t, U', L, E, ce, hT, X', hL, e1, e2, hq, hce, hcv, vx_cls hW₁ hcl, st⟩
end Runs
section Rows
variable {p : Program} {l : Launch} {e : Env} {R : Room} {s : State} {m : MethodId} {args : Array Value} {below : List Frame} {meth : Method} {c : Code} {H : Heap} {locs : List Loc} {cells slots : Nat} {Q : State → Prop}
variable {mc ms : Nat} {free : Addr → Prop} {A0 A1 : Nat → Prop} {H0 : Heap} {a : Array Value} {pc : Nat} {ls : Array Slot} {st0 rest : List Value}
theorem vx_keep {st₀ t T' : State} {L : List Loc} (h0 : st₀.heap = H) (e1 : T'.heap = t.heap) (hS : va_S A0 H0 H locs) (hA : ∀ q, q < H.size → A1 q → A0 q) (hf : ∀ q, free q → A0 q) (hL : ∀ q ∈ L, free q.base) (hF : va_F A1 st₀ t) :
    H.size ≤ T'.heap.size ∧ (∀ q : Nat, q < H.size → ¬ A1 q → T'.heap[q]? = H[q]?) ∧ va_S A0 H0 T'.heap (locs ++ L) := by
  obtain ⟨hz, hk⟩ := hF
  rw [h0] at hz hk
  exact ⟨by rw [e1]; exact hz, fun q h1 h2 => by rw [e1]; exact hk q h1 h2,
    ⟨Nat.le_trans hS.1 (by rw [e1]; exact hz), fun q h1 h2 => by rw [e1, hk q (Nat.lt_of_lt_of_le h1 hS.1) (fun z => h2 (hA q (Nat.lt_of_lt_of_le h1 hS.1) z))]; exact hS.2.1 q h1 h2, fun q hq => by
      rcases List.mem_append.mp hq with h | h
      · exact hS.2.2 q h
      · exact hf _ (hL q h)⟩⟩
theorem vx_calli {S SX : Type} {post : Int32 → S → Prop} {px : SX → Prop} {B : S → State → Prop} {BX : String → SX → State → Prop} {AX : Nat → Prop} (hr : vx_Run p l e R s m args below meth c H locs cells slots mc ms (F0 m pc ls st0) rest (va_Qi post B A1 a) (vx_X px BX AX) free) (hS : va_S A0 H0 H locs) (hA : ∀ q, q < H.size → A1 q → A0 q) (hf : ∀ q, free q → A0 q) (hAX : ∀ q, q < H.size → AX q → A0 q)
    (kx : ∀ (E : String) (ce : Cell) (q9 : Addr) (u : SX) (t : State) (H1 : Heap) (locs1 : List Loc), t.heap = H1 → s.vm.Alike t.vm → px u → BX E u t → H.size ≤ H1.size → (∀ q : Nat, q < H.size → ¬ AX q → H1[q]? = H[q]?) → va_S A0 H0 H1 locs1 → H1[q9]? = some ce → ce.vm = .none → s.vm.findClass E = some ce.cls → vx_W p l e R s m args below meth c H1 locs1 (cells + mc) (slots + ms) Q (F0 m pc ls rest) q9)
    (kk : ∀ (r : Int32) (u : S) (t : State) (H1 : Heap) (locs1 : List Loc), t.heap = H1 → s.vm.Alike t.vm → post r u → B u t → H.size ≤ H1.size → (∀ q : Nat, q < H.size → ¬ A1 q → H1[q]? = H[q]?) → va_S A0 H0 H1 locs1 → W p l e R s m args below meth c H1 locs1 (cells + mc) (slots + ms) Q (F0 m (pc + 3) ls (.int r :: rest))) : W p l e R s m args below meth c H locs cells slots Q (F0 m pc ls st0) := by
  intro T hT X
  rcases hr T hT X with ⟨v, st₀, t, T', L, h0, X', hL, e1, e2, ⟨⟨r, u, hv, hp, hb⟩, hF⟩, st⟩ | ⟨q, st₀, t, T', L, E, ce, h0, X', hL, e1, e2, ⟨u, hp, hb, hF⟩, hce, hcv, hcl, st⟩
  · cases hv
    obtain ⟨k1, k2, k3⟩ := vx_keep h0 e1 hS hA hf hL hF
    obtain ⟨t2, a1, b1⟩ := kk r u t T'.heap (locs ++ L) e1.symm (by rw [← e2]; exact X'.warmed.alike) hp hb k1 k2 k3 T' rfl X'
    exact ⟨t2, st t2 a1, b1⟩
  · obtain ⟨k1, k2, k3⟩ := vx_keep h0 e1 hS hAX hf hL hF
    obtain ⟨t2, a1, b1⟩ := kx E ce q u t T'.heap (locs ++ L) e1.symm (by rw [← e2]; exact X'.warmed.alike) hp hb k1 k2 k3 (by rw [e1]; exact hce) hcv hcl T' rfl X'
    exact ⟨t2, st.trans a1, b1⟩
theorem vx_calll {S SX : Type} {post : Int64 → S → Prop} {px : SX → Prop} {B : S → State → Prop} {BX : String → SX → State → Prop} {AX : Nat → Prop} (hr : vx_Run p l e R s m args below meth c H locs cells slots mc ms (F0 m pc ls st0) rest (va_Ql post B A1 a) (vx_X px BX AX) free) (hS : va_S A0 H0 H locs) (hA : ∀ q, q < H.size → A1 q → A0 q) (hf : ∀ q, free q → A0 q) (hAX : ∀ q, q < H.size → AX q → A0 q)
    (kx : ∀ (E : String) (ce : Cell) (q9 : Addr) (u : SX) (t : State) (H1 : Heap) (locs1 : List Loc), t.heap = H1 → s.vm.Alike t.vm → px u → BX E u t → H.size ≤ H1.size → (∀ q : Nat, q < H.size → ¬ AX q → H1[q]? = H[q]?) → va_S A0 H0 H1 locs1 → H1[q9]? = some ce → ce.vm = .none → s.vm.findClass E = some ce.cls → vx_W p l e R s m args below meth c H1 locs1 (cells + mc) (slots + ms) Q (F0 m pc ls rest) q9)
    (kk : ∀ (r : Int64) (u : S) (t : State) (H1 : Heap) (locs1 : List Loc), t.heap = H1 → s.vm.Alike t.vm → post r u → B u t → H.size ≤ H1.size → (∀ q : Nat, q < H.size → ¬ A1 q → H1[q]? = H[q]?) → va_S A0 H0 H1 locs1 → W p l e R s m args below meth c H1 locs1 (cells + mc) (slots + ms) Q (F0 m (pc + 3) ls (.long r :: rest))) : W p l e R s m args below meth c H locs cells slots Q (F0 m pc ls st0) := by
  intro T hT X
  rcases hr T hT X with ⟨v, st₀, t, T', L, h0, X', hL, e1, e2, ⟨⟨r, u, hv, hp, hb⟩, hF⟩, st⟩ | ⟨q, st₀, t, T', L, E, ce, h0, X', hL, e1, e2, ⟨u, hp, hb, hF⟩, hce, hcv, hcl, st⟩
  · cases hv
    obtain ⟨k1, k2, k3⟩ := vx_keep h0 e1 hS hA hf hL hF
    obtain ⟨t2, a1, b1⟩ := kk r u t T'.heap (locs ++ L) e1.symm (by rw [← e2]; exact X'.warmed.alike) hp hb k1 k2 k3 T' rfl X'
    exact ⟨t2, st t2 a1, b1⟩
  · obtain ⟨k1, k2, k3⟩ := vx_keep h0 e1 hS hAX hf hL hF
    obtain ⟨t2, a1, b1⟩ := kx E ce q u t T'.heap (locs ++ L) e1.symm (by rw [← e2]; exact X'.warmed.alike) hp hb k1 k2 k3 (by rw [e1]; exact hce) hcv hcl T' rfl X'
    exact ⟨t2, st.trans a1, b1⟩
theorem vx_callf {S SX : Type} {post : UInt32 → S → Prop} {px : SX → Prop} {B : S → State → Prop} {BX : String → SX → State → Prop} {AX : Nat → Prop} (hr : vx_Run p l e R s m args below meth c H locs cells slots mc ms (F0 m pc ls st0) rest (va_Qf post B A1 a) (vx_X px BX AX) free) (hS : va_S A0 H0 H locs) (hA : ∀ q, q < H.size → A1 q → A0 q) (hf : ∀ q, free q → A0 q) (hAX : ∀ q, q < H.size → AX q → A0 q)
    (kx : ∀ (E : String) (ce : Cell) (q9 : Addr) (u : SX) (t : State) (H1 : Heap) (locs1 : List Loc), t.heap = H1 → s.vm.Alike t.vm → px u → BX E u t → H.size ≤ H1.size → (∀ q : Nat, q < H.size → ¬ AX q → H1[q]? = H[q]?) → va_S A0 H0 H1 locs1 → H1[q9]? = some ce → ce.vm = .none → s.vm.findClass E = some ce.cls → vx_W p l e R s m args below meth c H1 locs1 (cells + mc) (slots + ms) Q (F0 m pc ls rest) q9)
    (kk : ∀ (r : UInt32) (u : S) (t : State) (H1 : Heap) (locs1 : List Loc), t.heap = H1 → s.vm.Alike t.vm → post r u → B u t → H.size ≤ H1.size → (∀ q : Nat, q < H.size → ¬ A1 q → H1[q]? = H[q]?) → va_S A0 H0 H1 locs1 → W p l e R s m args below meth c H1 locs1 (cells + mc) (slots + ms) Q (F0 m (pc + 3) ls (.float r :: rest))) : W p l e R s m args below meth c H locs cells slots Q (F0 m pc ls st0) := by
  intro T hT X
  rcases hr T hT X with ⟨v, st₀, t, T', L, h0, X', hL, e1, e2, ⟨⟨r, u, hv, hp, hb⟩, hF⟩, st⟩ | ⟨q, st₀, t, T', L, E, ce, h0, X', hL, e1, e2, ⟨u, hp, hb, hF⟩, hce, hcv, hcl, st⟩
  · cases hv
    obtain ⟨k1, k2, k3⟩ := vx_keep h0 e1 hS hA hf hL hF
    obtain ⟨t2, a1, b1⟩ := kk r u t T'.heap (locs ++ L) e1.symm (by rw [← e2]; exact X'.warmed.alike) hp hb k1 k2 k3 T' rfl X'
    exact ⟨t2, st t2 a1, b1⟩
  · obtain ⟨k1, k2, k3⟩ := vx_keep h0 e1 hS hAX hf hL hF
    obtain ⟨t2, a1, b1⟩ := kx E ce q u t T'.heap (locs ++ L) e1.symm (by rw [← e2]; exact X'.warmed.alike) hp hb k1 k2 k3 (by rw [e1]; exact hce) hcv hcl T' rfl X'
    exact ⟨t2, st.trans a1, b1⟩
theorem vx_calld {S SX : Type} {post : UInt64 → S → Prop} {px : SX → Prop} {B : S → State → Prop} {BX : String → SX → State → Prop} {AX : Nat → Prop} (hr : vx_Run p l e R s m args below meth c H locs cells slots mc ms (F0 m pc ls st0) rest (va_Qd post B A1 a) (vx_X px BX AX) free) (hS : va_S A0 H0 H locs) (hA : ∀ q, q < H.size → A1 q → A0 q) (hf : ∀ q, free q → A0 q) (hAX : ∀ q, q < H.size → AX q → A0 q)
    (kx : ∀ (E : String) (ce : Cell) (q9 : Addr) (u : SX) (t : State) (H1 : Heap) (locs1 : List Loc), t.heap = H1 → s.vm.Alike t.vm → px u → BX E u t → H.size ≤ H1.size → (∀ q : Nat, q < H.size → ¬ AX q → H1[q]? = H[q]?) → va_S A0 H0 H1 locs1 → H1[q9]? = some ce → ce.vm = .none → s.vm.findClass E = some ce.cls → vx_W p l e R s m args below meth c H1 locs1 (cells + mc) (slots + ms) Q (F0 m pc ls rest) q9)
    (kk : ∀ (r : UInt64) (u : S) (t : State) (H1 : Heap) (locs1 : List Loc), t.heap = H1 → s.vm.Alike t.vm → post r u → B u t → H.size ≤ H1.size → (∀ q : Nat, q < H.size → ¬ A1 q → H1[q]? = H[q]?) → va_S A0 H0 H1 locs1 → W p l e R s m args below meth c H1 locs1 (cells + mc) (slots + ms) Q (F0 m (pc + 3) ls (.double r :: rest))) : W p l e R s m args below meth c H locs cells slots Q (F0 m pc ls st0) := by
  intro T hT X
  rcases hr T hT X with ⟨v, st₀, t, T', L, h0, X', hL, e1, e2, ⟨⟨r, u, hv, hp, hb⟩, hF⟩, st⟩ | ⟨q, st₀, t, T', L, E, ce, h0, X', hL, e1, e2, ⟨u, hp, hb, hF⟩, hce, hcv, hcl, st⟩
  · cases hv
    obtain ⟨k1, k2, k3⟩ := vx_keep h0 e1 hS hA hf hL hF
    obtain ⟨t2, a1, b1⟩ := kk r u t T'.heap (locs ++ L) e1.symm (by rw [← e2]; exact X'.warmed.alike) hp hb k1 k2 k3 T' rfl X'
    exact ⟨t2, st t2 a1, b1⟩
  · obtain ⟨k1, k2, k3⟩ := vx_keep h0 e1 hS hAX hf hL hF
    obtain ⟨t2, a1, b1⟩ := kx E ce q u t T'.heap (locs ++ L) e1.symm (by rw [← e2]; exact X'.warmed.alike) hp hb k1 k2 k3 (by rw [e1]; exact hce) hcv hcl T' rfl X'
    exact ⟨t2, st.trans a1, b1⟩
theorem vx_callv {S SX : Type} {post : S → Prop} {px : SX → Prop} {B : S → State → Prop} {BX : String → SX → State → Prop} {AX : Nat → Prop} (hr : vx_Run p l e R s m args below meth c H locs cells slots mc ms (F0 m pc ls st0) rest (va_Qv post B A1 a) (vx_X px BX AX) free) (hS : va_S A0 H0 H locs) (hA : ∀ q, q < H.size → A1 q → A0 q) (hf : ∀ q, free q → A0 q) (hAX : ∀ q, q < H.size → AX q → A0 q)
    (kx : ∀ (E : String) (ce : Cell) (q9 : Addr) (u : SX) (t : State) (H1 : Heap) (locs1 : List Loc), t.heap = H1 → s.vm.Alike t.vm → px u → BX E u t → H.size ≤ H1.size → (∀ q : Nat, q < H.size → ¬ AX q → H1[q]? = H[q]?) → va_S A0 H0 H1 locs1 → H1[q9]? = some ce → ce.vm = .none → s.vm.findClass E = some ce.cls → vx_W p l e R s m args below meth c H1 locs1 (cells + mc) (slots + ms) Q (F0 m pc ls rest) q9)
    (kk : ∀ (u : S) (t : State) (H1 : Heap) (locs1 : List Loc), t.heap = H1 → s.vm.Alike t.vm → post u → B u t → H.size ≤ H1.size → (∀ q : Nat, q < H.size → ¬ A1 q → H1[q]? = H[q]?) → va_S A0 H0 H1 locs1 → W p l e R s m args below meth c H1 locs1 (cells + mc) (slots + ms) Q (F0 m (pc + 3) ls (rest))) : W p l e R s m args below meth c H locs cells slots Q (F0 m pc ls st0) := by
  intro T hT X
  rcases hr T hT X with ⟨v, st₀, t, T', L, h0, X', hL, e1, e2, ⟨⟨u, hv, hp, hb⟩, hF⟩, st⟩ | ⟨q, st₀, t, T', L, E, ce, h0, X', hL, e1, e2, ⟨u, hp, hb, hF⟩, hce, hcv, hcl, st⟩
  · cases hv
    obtain ⟨k1, k2, k3⟩ := vx_keep h0 e1 hS hA hf hL hF
    obtain ⟨t2, a1, b1⟩ := kk u t T'.heap (locs ++ L) e1.symm (by rw [← e2]; exact X'.warmed.alike) hp hb k1 k2 k3 T' rfl X'
    exact ⟨t2, st t2 a1, b1⟩
  · obtain ⟨k1, k2, k3⟩ := vx_keep h0 e1 hS hAX hf hL hF
    obtain ⟨t2, a1, b1⟩ := kx E ce q u t T'.heap (locs ++ L) e1.symm (by rw [← e2]; exact X'.warmed.alike) hp hb k1 k2 k3 (by rw [e1]; exact hce) hcv hcl T' rfl X'
    exact ⟨t2, st.trans a1, b1⟩
/-- caught by the row x of this method's table; the rows ahead don't take it -/
theorem vx_catch {own name : String} {E : String} {ce : Cell} {q : Addr} (hown : s.vm.findClass own = some m.cls) (pre : List ExceptionTableEntry) (x : ExceptionTableEntry) (suf : List ExceptionTableEntry) (hsplit : c.exceptionTable.toList = pre ++ x :: suf)
    (hpass : ∀ z ∈ pre, covers z pc = false ∨ (z.catchType ≠ 0 ∧ ∃ nm : String, (Cond.classLink own z.catchType nm).before args s = true ∧ va_Nc E nm s)) (hx : covers x pc = true) (h0 : x.catchType ≠ 0)
    (hlink : (Cond.classLink own x.catchType name).before args s = true) (hcast : (Cond.castable E name).before args s = true) (hcell : H[q]? = some ce) (hv : ce.vm = .none) (hcl : s.vm.findClass E = some ce.cls)
    (kk : W p l e R s m args below meth c H locs cells slots Q (F0 m x.handlerPc ls [.ref q])) : vx_W p l e R s m args below meth c H locs cells slots Q (F0 m pc ls rest) q := by
  intro T hT X
  have hpl : e.platform.magicAccessors = ({} : Platform).magicAccessors := by rw [X.admits.platform]
  obtain ⟨c3, c4, hc3, hc4, hasg⟩ := Cond.castable_spec hcast
  cases Option.some.inj (hc3.symm.trans hcl)
  obtain ⟨c5, hc5, hcl5⟩ := Cond.classLink_spec hown hlink e.platform hpl
  cases Option.some.inj (hc4.symm.trans hc5)
  obtain ⟨vm', X', st⟩ := X.thenCaughtThrough q (g := F0 m pc ls rest) rfl (Steps.refl _) (by rw [hT]; exact hcell) (by rw [hv]; rfl) (by obtain ⟨k9, h9, -⟩ := Vm.findClass_spec hcl; exact ⟨k9, h9⟩) pre x suf hsplit
    (fun z hz => by
      rcases hpass z hz with h | ⟨hz0, nm, hl1, hn1⟩
      · exact Or.inl h
      · obtain ⟨c6, hc6, hcl6⟩ := Cond.classLink_spec hown hl1 e.platform hpl
        obtain ⟨a8, b8, h1, h2, h3⟩ := hn1
        cases Option.some.inj (h1.symm.trans hcl)
        cases Option.some.inj (h2.symm.trans hc6)
        exact Or.inr ⟨hz0, _, hcl6, h3⟩) hx (Or.inr ⟨h0, c4, hcl5, hasg⟩)
  obtain ⟨t, a1, b1⟩ := kk (T.setVm vm') hT X'
  exact ⟨t, st.trans a1, b1⟩
end Rows
section Ends
variable {p : Program} {l : Launch} {e : Env} {R : Room} {s : State} {m : MethodId} {args : Array Value} {below : List Frame} {meth : Method} {c : Code} {H : Heap} {locs : List Loc} {cells slots : Nat} {Q : State → Prop}
variable {mc ms : Nat} {free : Addr → Prop} {A0 A1 : Nat → Prop} {H0 : Heap} {a : Array Value} {ls : Array Slot} {st0 rest : List Value}
variable {Qc : Array Value → State → Outcome → State → Prop} {XC : String → State → State → Prop}
/-- what a body that may throw owes at its end -/
def vx_MQ (below : List Frame) (Qc : Array Value → State → Outcome → State → Prop) (XC : String → State → State → Prop) (a : Array Value) (s : State) (mc ms : Nat) (free : Addr → Prop) : State → Prop := fun t =>
  ∃ o, t.status = .running ∧ Ended t below o ∧ vx_Q Qc XC mc ms free a s o t
theorem vx_ret {g : JFrame} {mc ms : Nat} (k : W p l e R s m args below meth c H locs cells slots (MQ below Qc args s mc ms free) g) : W p l e R s m args below meth c H locs cells slots (vx_MQ below Qc XC args s mc ms free) g := by
  intro T hT X
  obtain ⟨t, a1, o, b1, b2, b3, b4⟩ := k T hT X
  exact ⟨t, a1, o, b1, b2, Or.inl ⟨b3, b4⟩⟩
/-- not caught here: it goes on to the caller -/
theorem vx_widen {g : JFrame} {q : Addr} {k n : Nat} (h1 : cells ≤ k) (h2 : slots ≤ n) (kk : vx_W p l e R s m args below meth c H locs k n Q g q) : vx_W p l e R s m args below meth c H locs cells slots Q g q := fun T hT X => kk T hT (stand_widen X h1 h2)
theorem vx_out {pc : Nat} {E : String} {ce : Cell} {q : Addr} {mc ms : Nat} (hout : ∀ x ∈ c.exceptionTable.toList, covers x pc = false) (hlocks : meth.locks = false) (hcell : H[q]? = some ce) (hv : ce.vm = .none) (hcl : s.vm.findClass E = some ce.cls)
    (hx : ∀ t : State, t.heap = H → s.vm.Alike t.vm → XC E s t) (hf : ∀ z ∈ locs, free z.base) (hc : cells ≤ mc) (hs : slots ≤ ms) :
    vx_W p l e R s m args below meth c H locs cells slots (vx_MQ below Qc XC args s mc ms free) (F0 m pc ls rest) q := by
  intro T hT X
  obtain ⟨st1, hrun, hend, hW, hsm⟩ := X.leaveThrown q (g := F0 m pc ls rest) rfl rfl rfl hout hlocks
  have hcell9 : (T.setFrames (.throwing q :: below)).heap[q]? = some ce := by
    show T.heap[q]? = some ce
    rw [hT]; exact hcell
  exact ⟨_, st1, .threw q, hrun, hend, Or.inr ⟨q, rfl, E, ce, locs, hx _ hT hW.alike, hcell9, hv, hcl, hW, hsm.mono hc hs, hf⟩⟩
theorem vx_frame {U : State} {k n : Nat} (h : s.sameButNew ({ U with vm := s.vm } : State) locs k n) : s.heap.size ≤ U.heap.size ∧ ∀ q : Nat, q < s.heap.size → (∀ z ∈ locs, z.base ≠ q) → U.heap[q]? = s.heap[q]? := by
  obtain ⟨-, h2, -, -, -, h6⟩ := h
  refine ⟨h2, fun q hq hz => ?_⟩
  obtain ⟨c9, e1, e2, e3, e4⟩ := h6 q _ (Array.getElem?_eq_getElem hq)
  have hs : c9.slots = (s.heap[q]).slots := Array.ext_getElem? fun i => e4 i fun hm => hz _ hm rfl
  have h9 : c9 = s.heap[q] := by
    rw [hs] at e2
    exact e2
  have e5 : U.heap[q]? = some c9 := e1
  rw [e5, h9, Array.getElem?_eq_getElem hq]
/-- the words of a throw but the four that speak of the heap -/
def vx_no (w : Cond) : Bool := decide (w ≠ .isRef (.static Bundle.tN "UNASSIGNED_STACK" Bundle.steD)) && decide (w ≠ .isRef (.static Bundle.tN "SUPPRESSED_SENTINEL" Bundle.listD)) && decide (w ≠ .laysStatic Bundle.tN "UNASSIGNED_STACK" Bundle.steD) && decide (w ≠ .laysStatic Bundle.tN "SUPPRESSED_SENTINEL" Bundle.listD)
def vx_at0 (own : String) (ic : Nat) (X : String) (names : List String) : List Cond := (Bundle.ownAtoms0 own ic X names).filter vx_no
def vx_atS (own : String) (ic : Nat) (X : String) (names : List String) : List Cond := (Bundle.ownAtoms own ic X names).filter vx_no
/-- a word that the tables alone decide, or a good one -/
def vx_ot (w : Cond) : Bool := w.onTables || goodWord w
theorem vx_ot_at {args a' : Array Value} {s U : State} {w : Cond} (hW : s.WarmedH U.vm) (hvm : s.vm = U.vm) (hg : vx_ot w = true) (h : w.before args s = true) : w.before a' U = true := by
  simp only [vx_ot, Bool.or_eq_true] at hg
  rcases hg with hg | hg
  · exact va_tabs hg hvm h
  · exact word_at hW (good_of_word hg) h
/-- a list's words: the good ones out of the method's own list, the others by premises of their own -/
theorem vx_hat {args : Array Value} {s : State} {L B : List Cond} (h1 : ∀ w ∈ L.filter goodWord, w.before args s = true) (h2 : ∀ w ∈ L.filter (fun w => !goodWord w), w ∈ B) (h3 : ∀ w ∈ B, w.before args s = true) : ∀ w ∈ L, w.before args s = true := by
  intro w hw
  by_cases g : goodWord w = true
  · exact h1 w (List.mem_filter.mpr ⟨hw, g⟩)
  · refine h3 w (h2 w (List.mem_filter.mpr ⟨hw, ?_⟩))
    show (!goodWord w) = true
    cases hgw : goodWord w
    · rfl
    · exact absurd hgw g
theorem vx_c {args : Array Value} {s : State} {w : Cond} {B : List Cond} (h : w.before args s = true) (t : ∀ w ∈ B, w.before args s = true) : ∀ w' ∈ w :: B, w'.before args s = true := fun w' h' => (List.mem_cons.mp h').elim (fun e => by rw [e]; exact h) (t w')
theorem vx_n {args : Array Value} {s : State} : ∀ w ∈ ([] : List Cond), w.before args s = true := fun _ h => nomatch h
theorem vx_own {args : Array Value} {s : State} {L : List Cond} (h1 : ∀ w ∈ L.filter vx_no, w.before args s = true)
    (hU : (Cond.isRef (.static Bundle.tN "UNASSIGNED_STACK" Bundle.steD)).before args s = true) (hN : (Cond.isRef (.static Bundle.tN "SUPPRESSED_SENTINEL" Bundle.listD)).before args s = true)
    (lU : (Cond.laysStatic Bundle.tN "UNASSIGNED_STACK" Bundle.steD).before args s = true) (lN : (Cond.laysStatic Bundle.tN "SUPPRESSED_SENTINEL" Bundle.listD).before args s = true) : ∀ w ∈ L, w.before args s = true := by
  intro w hw
  by_cases e1 : w = .isRef (.static Bundle.tN "UNASSIGNED_STACK" Bundle.steD)
  · rw [e1]; exact hU
  · by_cases e2 : w = .isRef (.static Bundle.tN "SUPPRESSED_SENTINEL" Bundle.listD)
    · rw [e2]; exact hN
    · by_cases e3 : w = .laysStatic Bundle.tN "UNASSIGNED_STACK" Bundle.steD
      · rw [e3]; exact lU
      · by_cases e4 : w = .laysStatic Bundle.tN "SUPPRESSED_SENTINEL" Bundle.listD
        · rw [e4]; exact lN
        · exact h1 w (List.mem_filter.mpr ⟨hw, by unfold vx_no; rw [decide_eq_true e1, decide_eq_true e2, decide_eq_true e3, decide_eq_true e4]; rfl⟩)
/-- where a static field lies, its class's statics cell in H -/
def vx_L (C n d : String) (A : Nat → Prop) (U : State) (H : Heap) : Prop := ∃ (c : ClassId) (k : Class) (i : Nat) (f : Field) (a : Nat) (cell : Cell), U.vm.findClass C = some c ∧ U.fieldFound? C n d = some (c, k, i, f) ∧ f.isStatic = true ∧ k.statics = some a ∧ H[a]? = some cell ∧ cell.vm.isStatics = true ∧ cell.cls = c ∧ f.slot < cell.slots.size ∧ k.staticTypes[f.slot]? = some f.type ∧ ¬ A a
theorem vx_L.moved {C n d : String} {A : Nat → Prop} {u U : State} {H : Heap} (hvm : u.vm.Alike U.vm) (h : vx_L C n d A u H) : vx_L C n d A U H := by
  obtain ⟨c, k, i, f, a, cell, h1, h2, h3, h4, h5, h6, h7, h8, h9, h10⟩ := h
  obtain ⟨k', hi', he⟩ := State.fieldFound?_setVm hvm h2
  exact ⟨c, k', i, f, a, cell, by rw [hvm.findClass]; exact h1, hi', h3, by rw [he]; exact h4, h5, h6, h7, h8, by rw [he]; exact h9, h10⟩
theorem vx_L.kept {C n d : String} {A : Nat → Prop} {U : State} {H H1 : Heap} (h : vx_L C n d A U H) (hq : ∀ a : Nat, a < H.size → ¬ A a → H1[a]? = H[a]?) : vx_L C n d A U H1 := by
  obtain ⟨c, k, i, f, a, cell, h1, h2, h3, h4, h5, h6, h7, h8, h9, h10⟩ := h
  exact ⟨c, k, i, f, a, cell, h1, h2, h3, h4, by rw [hq a (Array.getElem?_eq_some_iff.mp h5).1 h10]; exact h5, h6, h7, h8, h9, h10⟩
theorem vx_L.narrow {C n d : String} {A B : Nat → Prop} {U : State} {H : Heap} (h : vx_L C n d A U H) (hAB : ∀ q, B q → A q) : vx_L C n d B U H := by
  obtain ⟨c, k, i, f, a, cell, h1, h2, h3, h4, h5, h6, h7, h8, h9, h10⟩ := h
  exact ⟨c, k, i, f, a, cell, h1, h2, h3, h4, h5, h6, h7, h8, h9, fun z => h10 (hAB _ z)⟩
theorem vx_L.word {C n d : String} {A : Nat → Prop} {s : State} {args : Array Value} (h : vx_L C n d A s s.heap) : (Cond.laysStatic C n d).before args s = true := by
  obtain ⟨c, k, i, f, a, cell, h1, h2, h3, h4, h5, h6, h7, h8, h9, -⟩ := h
  show (Cond.laysStatic C n d).holds args s none s [] = true
  exact Cond.laysStatic_of h1 h2 h3 h4 h5 h6 h7 h8 h9
/-- .. and what it holds: null or some reference -/
def vx_Zq (C n d : String) (A : Nat → Prop) (U : State) (H : Heap) : Prop := va_Zq C n d A U H ∧ vx_L C n d A U H
theorem vx_Zq.moved {C n d : String} {A : Nat → Prop} {u U : State} {H : Heap} (hvm : u.vm.Alike U.vm) (h : vx_Zq C n d A u H) : vx_Zq C n d A U H := ⟨va_Zq.moved hvm h.1, vx_L.moved hvm h.2⟩
theorem vx_Zq.kept {C n d : String} {A : Nat → Prop} {U : State} {H H1 : Heap} (h : vx_Zq C n d A U H) (hq : ∀ a : Nat, a < H.size → ¬ A a → H1[a]? = H[a]?) : vx_Zq C n d A U H1 := ⟨va_Zq.kept h.1 hq, vx_L.kept h.2 hq⟩
theorem vx_Zq.narrow {C n d : String} {A B : Nat → Prop} {U : State} {H : Heap} (h : vx_Zq C n d A U H) (hAB : ∀ q, B q → A q) : vx_Zq C n d B U H := ⟨va_Zq.narrow h.1 hAB, vx_L.narrow h.2 hAB⟩
theorem vx_Zqof {args : Array Value} {s : State} {C n d : String} {A : Nat → Prop} (hl : (Cond.laysStatic C n d).before args s = true) (hini : (Cond.initialized C).before args s = true) (h : (Cond.isRef (.static C n d)).before args s = true) (hA : ∀ a : Nat, a < s.heap.size → ¬ A a) : vx_Zq C n d A s s.heap := by
  refine ⟨va_Zqof hl hini h hA, ?_⟩
  obtain ⟨c, k, i, f, a, cell, h1, h2, h3, h4, h5, h6, h7, h8, h9⟩ := Cond.laysStatic_spec hl
  exact ⟨c, k, i, f, a, cell, h1, h2, h3, h4, h5, h6, h7, h8, h9, hA a (Array.getElem?_eq_some_iff.mp h5).1⟩
theorem vx_isRef {C n d : String} {v : Value} {A : Nat → Prop} {s : State} {args : Array Value} (h : va_Z C n d v A s s.heap) (hv : v.isRef = true) : (Cond.isRef (.static C n d)).before args s = true := by
  obtain ⟨cf, kf, fi, f, a, cell, h1, h2, h3, h4, h5, h6, h7, -⟩ := h
  have he : (Term.static C n d).eval args s none [] s = some v := by
    simp [Term.eval, State.fieldNamed?, h1, h2, h4, h5, h6, h7]
  simp only [Cond.before, Cond.holds, Cond.value, he]
  cases v <;> simp_all [Value.isRef]
theorem vx_isRefq {C n d : String} {A : Nat → Prop} {s : State} {args : Array Value} (h : va_Zq C n d A s s.heap) : (Cond.isRef (.static C n d)).before args s = true := by
  rcases h with h | ⟨t, h⟩
  · exact vx_isRef h rfl
  · exact vx_isRef h rfl
/-- the same frame, seen from here: as if the method were called anew in this heap -/
theorem vx_rebase {T : State} (X : Stand p l e R s m args below meth c T locs cells slots) {R' : Room} (hf : R'.frames ≤ R.frames) (hl : R'.locals ≤ R.locals) (hc : cells + R'.cells ≤ R.cells) (hs : slots + R'.slots ≤ R.slots) :
    Stand p l e R' ((T.setVm s.vm).setFrames (.invoking m args :: below)) m args below meth c T [] 0 0 := by
  have htop : (T.setVm s.vm).topJava?.isSome := X.here.top
  have hF : ((T.setVm s.vm).setFrames (.invoking m args :: below)).frames = .invoking m args :: below := State.frames_setFrames _ (State.cur_lt_of_top htop)
  obtain ⟨g₀, hg0⟩ := Option.isSome_iff_exists.mp htop
  obtain ⟨r, hr⟩ := State.topJava?_eq_some.mp hg0
  have hl9 : e.platform.stackLimits (T.setVm s.vm).me = e.platform.stackLimits s.me := X.limits
  have hb9 : (T.setVm s.vm).me.stackBytes = s.me.stackBytes := X.bytes
  refine ⟨X.admits, X.cas, X.clock, hF, ?_, X.hears, X.method, X.code, X.here, X.tail, X.warmed, ?_, ?_, ?_⟩
  · have h := X.room
    have hU : ((T.setVm s.vm).setFrames (.invoking m args :: below)).localsInUse = s.localsInUse := by
      rw [State.localsInUse_invoking hF (meth := meth) (c := c) X.method X.code, State.localsInUse_invoking X.frames X.method X.code]
    simp only [State.hasRoom, Bool.and_eq_true, decide_eq_true_eq] at h ⊢
    obtain ⟨⟨⟨⟨h1, h2, h3, h4, h5, h6⟩, h7⟩, h8⟩, h9⟩ := h
    rw [X.frames, List.length_cons] at h2 h3
    have q1 := X.heapSize
    have q2 := X.used
    simp only [hF, hU, List.length_cons, State.stackLimits_setFrames, State.stackBytes_setFrames, hl9, hb9]
    refine ⟨⟨⟨⟨by omega, by omega, by omega, by omega, by omega, h6⟩, ?_⟩, ?_⟩, X.book⟩
    · show T.heap.size + R'.cells ≤ e.platform.maxCells
      omega
    · show T.slotsUsed + R'.slots ≤ e.platform.maxSlots
      omega
  · rw [State.stackLimits_setFrames]; rfl
  · rw [State.stackBytes_setFrames]; rfl
  · refine ⟨?_, Nat.le_refl _, Nat.le_refl _, ?_, ?_, fun a c9 h9 => ⟨c9, h9, rfl, rfl, fun _ _ => rfl⟩⟩
    · obtain ⟨t, ht, -⟩ := State.frames_cons hr
      show T.setVm s.vm = { ((T.setVm s.vm).setFrames (.invoking m args :: below)).setFrames (T.setVm s.vm).frames with heap := T.heap, slotsUsed := T.slotsUsed }
      rw [State.setFrames_setFrames, State.setFrames_self ht]
      rfl
    · show T.slotsUsed = T.slotsUsed + ((T.heap.toList.drop T.heap.size).map (·.slots.size)).sum
      rw [List.drop_eq_nil_of_le (Nat.le_of_eq Array.length_toList)]
      rfl
    · show ((T.heap.toList.drop T.heap.size).map (·.slots.size)).sum ≤ 0
      rw [List.drop_eq_nil_of_le (Nat.le_of_eq Array.length_toList)]
      exact Nat.le_refl _
/-- 'throw new E()': new; dup; invokespecial; athrow -/
theorem vx_throw0 {cc : ByteArray} {pc : Nat} (hexec : p.tables.exec = Jvm.exec) (hb : c.code = cc) (hl : l.stackTraces = false) {own cls : String} {names : List String} {ik ic mc ms : Nat} {A : Nat → Prop}
    (hown : s.vm.findClass own = some m.cls) (hcls : Bundle.fit cls = true) (hnames : ∀ n ∈ names, Bundle.fit n = true)
    (hk : (Cond.classLink own ik cls).before args s = true) (hini : (Cond.initialized cls).before args s = true) (hat : ∀ w ∈ vx_at0 own ic cls names, w.before args s = true)
    (hgood : ∀ w ∈ Cond.classLink own ik cls :: Cond.initialized cls :: vx_at0 own ic cls names, vx_ot w = true)
    (hU : vx_Zq Bundle.tN "UNASSIGNED_STACK" Bundle.steD A s s.heap) (hN : vx_Zq Bundle.tN "SUPPRESSED_SENTINEL" Bundle.listD A s s.heap) (hS : va_S A s.heap H locs) (hsize : ls.size = c.maxLocals)
    (d0 : decode cc pc = .ok (.new ik, 3)) (d3 : decode cc (pc + 3) = .ok (.dup, 1)) (d4 : decode cc (pc + 4) = .ok (.invokespecial ic, 3)) (d7 : decode cc (pc + 7) = .ok (.athrow, 1))
    (hout : ∀ x ∈ c.exceptionTable.toList, covers x (pc + 7) = false)
    (hRframes : names.length + 3 < R.frames) (hRlocals : (rest.map fun v => v.category).sum + (13 * (names.length + 1) + 42) ≤ R.locals) (hRcells : cells + 1 ≤ R.cells) (hRslots : slots + 6 ≤ R.slots) (hlocks : meth.locks = false)
    (hx : ∀ t : State, s.vm.Alike t.vm → H.size ≤ t.heap.size → (∀ q : Nat, q < H.size → t.heap[q]? = H[q]?) → XC cls s t)
    (hf : ∀ z ∈ locs, free z.base) (hc : cells + 1 ≤ mc) (hs : slots + 6 ≤ ms) :
    W p l e R s m args below meth c H locs cells slots (vx_MQ below Qc XC args s mc ms free) (F0 m pc ls rest) := by
  intro T hT X
  have htr : e.platform.stackTraces = false := (show e.platform.stackTraces = l.stackTraces by rw [X.admits.platform]).trans hl
  have Y := vx_rebase X (R' := { frames := R.frames, locals := R.locals, cells := 1, slots := 6 }) (Nat.le_refl _) (Nat.le_refl _) hRcells hRslots
  obtain ⟨s', hA⟩ : ∃ z, z = (T.setVm s.vm).setFrames (.invoking m args :: below) := ⟨_, rfl⟩
  rw [← hA] at Y
  have hvm : s'.vm = s.vm := by rw [hA]; rfl
  have hhp : s'.heap = H := by rw [hA]; exact hT
  have hW0 : s.WarmedH s'.vm := by rw [hvm]; exact State.WarmedH.refl s
  have hat' : ∀ w ∈ vx_at0 own ic cls names, w.before args s' = true := fun w hw => vx_ot_at hW0 hvm.symm (hgood w (List.mem_cons_of_mem _ (List.mem_cons_of_mem _ hw))) (hat w hw)
  have hk' : (Cond.classLink own ik cls).before args s' = true := vx_ot_at hW0 hvm.symm (hgood _ List.mem_cons_self) hk
  have hini' : (Cond.initialized cls).before args s' = true := vx_ot_at hW0 hvm.symm (hgood _ (List.mem_cons_of_mem _ List.mem_cons_self)) hini
  have hU' : vx_Zq Bundle.tN "UNASSIGNED_STACK" Bundle.steD A s' s'.heap := by rw [hhp]; exact vx_Zq.moved hW0.alike (hU.kept hS.2.1)
  have hN' : vx_Zq Bundle.tN "SUPPRESSED_SENTINEL" Bundle.listD A s' s'.heap := by rw [hhp]; exact vx_Zq.moved hW0.alike (hN.kept hS.2.1)
  have h : ∀ w ∈ Bundle.ownAtoms0 own ic cls names, w.before args s' = true := vx_own hat' (vx_isRefq hU'.1) (vx_isRefq hN'.1) hU'.2.word hN'.2.word
  have hown' : s'.vm.findClass own = some m.cls := by rw [hvm]; exact hown
  have hins : (Cond.instantiable cls 6).before args s' = true := h _ (by simp [Bundle.ownAtoms0])
  obtain ⟨vm₁, cX, kX, hfX, hkX, -, -, X₁, st1⟩ := Y.newCold hexec (own := own) (C := cls) (index := ik) (n := 6) hown' hk' hins hini'
    (g := F0 m pc ls rest) rfl (by rw [hb]; exact d0) (Nat.le_refl _) (Nat.le_refl _)
  generalize hT1 : (T.setVm vm₁).pushCell { cls := cX, slots := kX.instanceTypes.map defaultValue, vm := .none } = T1 at X₁ st1
  have hcat : (Value.ref T.heap.size).category = 1 := rfl
  have hcellA : T1.heap[T.heap.size]? = some (freshCell cX kX) := by rw [← hT1]; exact State.heap_pushCell_size _ _
  have d3' : decode c.code (pc + 3) = .ok (.dup, 1) := by rw [hb]; exact d3
  obtain ⟨U, hsteps, hrun, hend, hW, hsame, ce, hce, hO⟩ := X₁.ctorThrow0 hexec htr (own := own) (cls := cls) (names := names) (ic := ic) hown' hcls hnames h (fun x hx => nomatch hx) hfX hkX hcellA (by rw [hhp, hT]; exact Nat.le_refl _)
    (g := { method := m, pc := pc + 4, locals := ls, stack := .ref T.heap.size :: .ref T.heap.size :: rest, locked := none }) rfl hsize rfl rfl (rest := rest) rfl
    (by rw [hb]; exact d4) (by rw [hb]; exact d7) hout hRframes (by simp only [List.map_cons, List.sum_cons, hcat]; omega) hlocks
  obtain ⟨f1, f2⟩ := vx_frame hsame
  rw [hhp] at f1 f2
  have hWs : s.WarmedH U.vm := State.WarmedH.trans hW0 hW
  have hcl : s.vm.findClass cls = some ce.cls := by
    have h9 := hO.cls
    rw [hvm] at h9
    exact h9
  have hall : s.sameButNew ({ U with vm := s.vm } : State) locs mc ms := by
    subst hA
    obtain ⟨e1, e2⟩ := hsame
    rw [State.setFrames_setFrames] at e1
    have h2 : (T.setVm s.vm).sameButNew ({ U with vm := s.vm } : State) [] (0 + 1) (0 + 6) := ⟨e1, e2⟩
    have h3 := X.same.trans h2
    rw [List.append_nil] at h3
    exact h3.mono hc hs
  refine ⟨U, ?_, .threw T.heap.size, hrun, hend, Or.inr ⟨T.heap.size, rfl, cls, ce, locs, hx U hWs.alike f1 (fun q hq => f2 q hq (fun z hz => nomatch hz)), hce, hO.vm, hcl, hWs, hall, hf⟩⟩
  refine st1 _ ?_
  show Steps p.tables e below (T1.setTop { method := m, pc := pc + 3, locals := ls, stack := .ref T.heap.size :: rest, locked := none }) _
  jvm_step X₁.here [X₁.here.top, hexec, d3', Value.category]
  exact hsteps
/-- 'throw new E("text")': new; dup; ldc; invokespecial; athrow -/
theorem vx_throwS {cc : ByteArray} {pc : Nat} (hexec : p.tables.exec = Jvm.exec) (hb : c.code = cc) (hl : l.stackTraces = false) {own cls text : String} {names : List String} {ik is ic mc ms sa : Nat} {A : Nat → Prop}
    (hown : s.vm.findClass own = some m.cls) (hcls : Bundle.fit cls = true) (hnames : ∀ n ∈ names, Bundle.fit n = true)
    (hk : (Cond.classLink own ik cls).before args s = true) (hini : (Cond.initialized cls).before args s = true) (hstr : vk_R own is text sa s) (hat : ∀ w ∈ vx_atS own ic cls names, w.before args s = true)
    (hgood : ∀ w ∈ Cond.classLink own ik cls :: Cond.initialized cls :: vx_atS own ic cls names, vx_ot w = true)
    (hU : vx_Zq Bundle.tN "UNASSIGNED_STACK" Bundle.steD A s s.heap) (hN : vx_Zq Bundle.tN "SUPPRESSED_SENTINEL" Bundle.listD A s s.heap) (hS : va_S A s.heap H locs) (hsize : ls.size = c.maxLocals)
    (d0 : decode cc pc = .ok (.new ik, 3)) (d3 : decode cc (pc + 3) = .ok (.dup, 1)) (d4 : decode cc (pc + 4) = .ok (.ldc is, 2)) (d6 : decode cc (pc + 6) = .ok (.invokespecial ic, 3)) (d9 : decode cc (pc + 9) = .ok (.athrow, 1))
    (hout : ∀ x ∈ c.exceptionTable.toList, covers x (pc + 9) = false)
    (hRframes : names.length + 3 < R.frames) (hRlocals : (rest.map fun v => v.category).sum + (13 * (names.length + 1) + 43) ≤ R.locals) (hRcells : cells + 1 ≤ R.cells) (hRslots : slots + 6 ≤ R.slots) (hlocks : meth.locks = false)
    (hx : ∀ t : State, s.vm.Alike t.vm → H.size ≤ t.heap.size → (∀ q : Nat, q < H.size → t.heap[q]? = H[q]?) → XC cls s t)
    (hf : ∀ z ∈ locs, free z.base) (hc : cells + 1 ≤ mc) (hs : slots + 6 ≤ ms) :
    W p l e R s m args below meth c H locs cells slots (vx_MQ below Qc XC args s mc ms free) (F0 m pc ls rest) := by
  intro T hT X
  have htr : e.platform.stackTraces = false := (show e.platform.stackTraces = l.stackTraces by rw [X.admits.platform]).trans hl
  have Y := vx_rebase X (R' := { frames := R.frames, locals := R.locals, cells := 1, slots := 6 }) (Nat.le_refl _) (Nat.le_refl _) hRcells hRslots
  obtain ⟨s', hA⟩ : ∃ z, z = (T.setVm s.vm).setFrames (.invoking m args :: below) := ⟨_, rfl⟩
  rw [← hA] at Y
  have hvm : s'.vm = s.vm := by rw [hA]; rfl
  have hhp : s'.heap = H := by rw [hA]; exact hT
  have hW0 : s.WarmedH s'.vm := by rw [hvm]; exact State.WarmedH.refl s
  have hat' : ∀ w ∈ vx_atS own ic cls names, w.before args s' = true := fun w hw => vx_ot_at hW0 hvm.symm (hgood w (List.mem_cons_of_mem _ (List.mem_cons_of_mem _ hw))) (hat w hw)
  have hk' : (Cond.classLink own ik cls).before args s' = true := vx_ot_at hW0 hvm.symm (hgood _ List.mem_cons_self) hk
  have hini' : (Cond.initialized cls).before args s' = true := vx_ot_at hW0 hvm.symm (hgood _ (List.mem_cons_of_mem _ List.mem_cons_self)) hini
  have hU' : vx_Zq Bundle.tN "UNASSIGNED_STACK" Bundle.steD A s' s'.heap := by rw [hhp]; exact vx_Zq.moved hW0.alike (hU.kept hS.2.1)
  have hN' : vx_Zq Bundle.tN "SUPPRESSED_SENTINEL" Bundle.listD A s' s'.heap := by rw [hhp]; exact vx_Zq.moved hW0.alike (hN.kept hS.2.1)
  have h : ∀ w ∈ Bundle.ownAtoms own ic cls names, w.before args s' = true := vx_own hat' (vx_isRefq hU'.1) (vx_isRefq hN'.1) hU'.2.word hN'.2.word
  have hown' : s'.vm.findClass own = some m.cls := by rw [hvm]; exact hown
  have hins : (Cond.instantiable cls 6).before args s' = true := h _ (by simp [Bundle.ownAtoms])
  obtain ⟨vm₁, cX, kX, hfX, hkX, -, -, X₁, st1⟩ := Y.newCold hexec (own := own) (C := cls) (index := ik) (n := 6) hown' hk' hins hini'
    (g := F0 m pc ls rest) rfl (by rw [hb]; exact d0) (Nat.le_refl _) (Nat.le_refl _)
  generalize hT1 : (T.setVm vm₁).pushCell { cls := cX, slots := kX.instanceTypes.map defaultValue, vm := .none } = T1 at X₁ st1
  have hcat : (Value.ref T.heap.size).category = 1 := rfl
  have hcellA : T1.heap[T.heap.size]? = some (freshCell cX kX) := by rw [← hT1]; exact State.heap_pushCell_size _ _
  have d3' : decode c.code (pc + 3) = .ok (.dup, 1) := by rw [hb]; exact d3
  have d4' : decode c.code (pc + 4) = .ok (.ldc is, 2) := by rw [hb]; exact d4
  have hstr' : vk_R own is text sa s' := vk_R.warm hW0 hstr
  obtain ⟨U, hsteps, hrun, hend, hW, hsame, ce, hce, hO⟩ := X₁.ctorThrowS hexec htr (own := own) (cls := cls) (names := names) (ic := ic) hown' hcls hnames h (fun x hx => nomatch hx) hfX hkX hcellA (by rw [hhp, hT]; exact Nat.le_refl _) (msg := .ref sa) rfl
    (g := { method := m, pc := pc + 6, locals := ls, stack := .ref sa :: .ref T.heap.size :: .ref T.heap.size :: rest, locked := none }) rfl hsize rfl rfl (rest := rest) rfl
    (by rw [hb]; exact d6) (by rw [hb]; exact d9) hout hRframes (by simp only [List.map_cons, List.sum_cons, hcat]; omega) hlocks
  obtain ⟨f1, f2⟩ := vx_frame hsame
  rw [hhp] at f1 f2
  have hWs : s.WarmedH U.vm := State.WarmedH.trans hW0 hW
  have hcl : s.vm.findClass cls = some ce.cls := by
    have h9 := hO.cls
    rw [hvm] at h9
    exact h9
  have hall : s.sameButNew ({ U with vm := s.vm } : State) locs mc ms := by
    subst hA
    obtain ⟨e1, e2⟩ := hsame
    rw [State.setFrames_setFrames] at e1
    have h2 : (T.setVm s.vm).sameButNew ({ U with vm := s.vm } : State) [] (0 + 1) (0 + 6) := ⟨e1, e2⟩
    have h3 := X.same.trans h2
    rw [List.append_nil] at h3
    exact h3.mono hc hs
  refine ⟨U, ?_, .threw T.heap.size, hrun, hend, Or.inr ⟨T.heap.size, rfl, cls, ce, locs, hx U hWs.alike f1 (fun q hq => f2 q hq (fun z hz => nomatch hz)), hce, hO.vm, hcl, hWs, hall, hf⟩⟩
  refine st1 _ ?_
  show Steps p.tables e below (T1.setTop { method := m, pc := pc + 3, locals := ls, stack := .ref T.heap.size :: rest, locked := none }) _
  jvm_step X₁.here [X₁.here.top, hexec, d3', Value.category]
  exact X₁.ldcString hexec (own := own) (text := text) (index := is) (a := sa) hown' hstr'.1 hstr'.2
    (g := { method := m, pc := pc + 4, locals := ls, stack := .ref T.heap.size :: .ref T.heap.size :: rest, locked := none }) rfl d4' _ hsteps
/-- 'throw new E("text")', the text by a wide index -/
theorem vx_throwSW {cc : ByteArray} {pc : Nat} (hexec : p.tables.exec = Jvm.exec) (hb : c.code = cc) (hl : l.stackTraces = false) {own cls text : String} {names : List String} {ik is ic mc ms sa : Nat} {A : Nat → Prop}
    (hown : s.vm.findClass own = some m.cls) (hcls : Bundle.fit cls = true) (hnames : ∀ n ∈ names, Bundle.fit n = true)
    (hk : (Cond.classLink own ik cls).before args s = true) (hini : (Cond.initialized cls).before args s = true) (hstr : vk_R own is text sa s) (hat : ∀ w ∈ vx_atS own ic cls names, w.before args s = true)
    (hgood : ∀ w ∈ Cond.classLink own ik cls :: Cond.initialized cls :: vx_atS own ic cls names, vx_ot w = true)
    (hU : vx_Zq Bundle.tN "UNASSIGNED_STACK" Bundle.steD A s s.heap) (hN : vx_Zq Bundle.tN "SUPPRESSED_SENTINEL" Bundle.listD A s s.heap) (hS : va_S A s.heap H locs) (hsize : ls.size = c.maxLocals)
    (d0 : decode cc pc = .ok (.new ik, 3)) (d3 : decode cc (pc + 3) = .ok (.dup, 1)) (d4 : decode cc (pc + 4) = .ok (.ldc_w is, 3)) (d7 : decode cc (pc + 7) = .ok (.invokespecial ic, 3)) (d10 : decode cc (pc + 10) = .ok (.athrow, 1))
    (hout : ∀ x ∈ c.exceptionTable.toList, covers x (pc + 10) = false)
    (hRframes : names.length + 3 < R.frames) (hRlocals : (rest.map fun v => v.category).sum + (13 * (names.length + 1) + 43) ≤ R.locals) (hRcells : cells + 1 ≤ R.cells) (hRslots : slots + 6 ≤ R.slots) (hlocks : meth.locks = false)
    (hx : ∀ t : State, s.vm.Alike t.vm → H.size ≤ t.heap.size → (∀ q : Nat, q < H.size → t.heap[q]? = H[q]?) → XC cls s t)
    (hf : ∀ z ∈ locs, free z.base) (hc : cells + 1 ≤ mc) (hs : slots + 6 ≤ ms) :
    W p l e R s m args below meth c H locs cells slots (vx_MQ below Qc XC args s mc ms free) (F0 m pc ls rest) := by
  intro T hT X
  have htr : e.platform.stackTraces = false := (show e.platform.stackTraces = l.stackTraces by rw [X.admits.platform]).trans hl
  have Y := vx_rebase X (R' := { frames := R.frames, locals := R.locals, cells := 1, slots := 6 }) (Nat.le_refl _) (Nat.le_refl _) hRcells hRslots
  obtain ⟨s', hA⟩ : ∃ z, z = (T.setVm s.vm).setFrames (.invoking m args :: below) := ⟨_, rfl⟩
  rw [← hA] at Y
  have hvm : s'.vm = s.vm := by rw [hA]; rfl
  have hhp : s'.heap = H := by rw [hA]; exact hT
  have hW0 : s.WarmedH s'.vm := by rw [hvm]; exact State.WarmedH.refl s
  have hat' : ∀ w ∈ vx_atS own ic cls names, w.before args s' = true := fun w hw => vx_ot_at hW0 hvm.symm (hgood w (List.mem_cons_of_mem _ (List.mem_cons_of_mem _ hw))) (hat w hw)
  have hk' : (Cond.classLink own ik cls).before args s' = true := vx_ot_at hW0 hvm.symm (hgood _ List.mem_cons_self) hk
  have hini' : (Cond.initialized cls).before args s' = true := vx_ot_at hW0 hvm.symm (hgood _ (List.mem_cons_of_mem _ List.mem_cons_self)) hini
  have hU' : vx_Zq Bundle.tN "UNASSIGNED_STACK" Bundle.steD A s' s'.heap := by rw [hhp]; exact vx_Zq.moved hW0.alike (hU.kept hS.2.1)
  have hN' : vx_Zq Bundle.tN "SUPPRESSED_SENTINEL" Bundle.listD A s' s'.heap := by rw [hhp]; exact vx_Zq.moved hW0.alike (hN.kept hS.2.1)
  have h : ∀ w ∈ Bundle.ownAtoms own ic cls names, w.before args s' = true := vx_own hat' (vx_isRefq hU'.1) (vx_isRefq hN'.1) hU'.2.word hN'.2.word
  have hown' : s'.vm.findClass own = some m.cls := by rw [hvm]; exact hown
  have hins : (Cond.instantiable cls 6).before args s' = true := h _ (by simp [Bundle.ownAtoms])
  obtain ⟨vm₁, cX, kX, hfX, hkX, -, -, X₁, st1⟩ := Y.newCold hexec (own := own) (C := cls) (index := ik) (n := 6) hown' hk' hins hini'
    (g := F0 m pc ls rest) rfl (by rw [hb]; exact d0) (Nat.le_refl _) (Nat.le_refl _)
  generalize hT1 : (T.setVm vm₁).pushCell { cls := cX, slots := kX.instanceTypes.map defaultValue, vm := .none } = T1 at X₁ st1
  have hcat : (Value.ref T.heap.size).category = 1 := rfl
  have hcellA : T1.heap[T.heap.size]? = some (freshCell cX kX) := by rw [← hT1]; exact State.heap_pushCell_size _ _
  have d3' : decode c.code (pc + 3) = .ok (.dup, 1) := by rw [hb]; exact d3
  have d4' : decode c.code (pc + 4) = .ok (.ldc_w is, 3) := by rw [hb]; exact d4
  have hstr' : vk_R own is text sa s' := vk_R.warm hW0 hstr
  obtain ⟨U, hsteps, hrun, hend, hW, hsame, ce, hce, hO⟩ := X₁.ctorThrowS hexec htr (own := own) (cls := cls) (names := names) (ic := ic) hown' hcls hnames h (fun x hx => nomatch hx) hfX hkX hcellA (by rw [hhp, hT]; exact Nat.le_refl _) (msg := .ref sa) rfl
    (g := { method := m, pc := pc + 7, locals := ls, stack := .ref sa :: .ref T.heap.size :: .ref T.heap.size :: rest, locked := none }) rfl hsize rfl rfl (rest := rest) rfl
    (by rw [hb]; exact d7) (by rw [hb]; exact d10) hout hRframes (by simp only [List.map_cons, List.sum_cons, hcat]; omega) hlocks
  obtain ⟨f1, f2⟩ := vx_frame hsame
  rw [hhp] at f1 f2
  have hWs : s.WarmedH U.vm := State.WarmedH.trans hW0 hW
  have hcl : s.vm.findClass cls = some ce.cls := by
    have h9 := hO.cls
    rw [hvm] at h9
    exact h9
  have hall : s.sameButNew ({ U with vm := s.vm } : State) locs mc ms := by
    subst hA
    obtain ⟨e1, e2⟩ := hsame
    rw [State.setFrames_setFrames] at e1
    have h2 : (T.setVm s.vm).sameButNew ({ U with vm := s.vm } : State) [] (0 + 1) (0 + 6) := ⟨e1, e2⟩
    have h3 := X.same.trans h2
    rw [List.append_nil] at h3
    exact h3.mono hc hs
  refine ⟨U, ?_, .threw T.heap.size, hrun, hend, Or.inr ⟨T.heap.size, rfl, cls, ce, locs, hx U hWs.alike f1 (fun q hq => f2 q hq (fun z hz => nomatch hz)), hce, hO.vm, hcl, hWs, hall, hf⟩⟩
  refine st1 _ ?_
  show Steps p.tables e below (T1.setTop { method := m, pc := pc + 3, locals := ls, stack := .ref T.heap.size :: rest, locked := none }) _
  jvm_step X₁.here [X₁.here.top, hexec, d3', Value.category]
  exact X₁.ldcStringW hexec (own := own) (text := text) (index := is) (a := sa) hown' hstr'.1 hstr'.2
    (g := { method := m, pc := pc + 4, locals := ls, stack := .ref T.heap.size :: .ref T.heap.size :: rest, locked := none }) rfl d4' _ hsteps
end Ends
section Bodies
variable {l : Launch}
theorem vx_ofW {y : MethodName} {ws ws' : List Cond} {rm : Room} {Pc : Array Value → State → Prop} {Qc : Array Value → State → Outcome → State → Prop} {XC : String → State → State → Prop} {mc ms : Nat} {free : Addr → Prop} {cc : ByteArray} {maxL : Nat} {ret : Option FieldType}
    (hy : plainName y.cls = true) (hw : ws = Cond.code y cc maxL ret :: ws')
    (body : ∀ p e s m args below meth c s₁, BodyLoose p l y (headSpec ws rm) cc maxL ret e s m args below meth c s₁ → c.maxLocals = maxL → (∀ x ∈ c.exceptionTable.toList, False) → Pc args s →
      W p l e (headSpec ws rm).room s m args below meth c s.heap [] 0 0 (vx_MQ below Qc XC args s mc ms free) (entryFrame m args maxL)) : vx_Met l y ws rm Pc Qc XC mc ms free := by
  refine MetFree.of_bodyS (code := cc) (maxLocals := maxL) (ret := ret) hy ?_ ?_
  · intro args s m h hn
    obtain ⟨meth, c, h1, h2, h3, h4, h5, h6, -, -⟩ := Cond.code_spec hn (atoms_spec (ws := ws) h _ (by rw [hw]; exact List.mem_cons_self))
    exact ⟨meth, c, h1, h2, h3, h4, h5, h6⟩
  · intro p e s m args below meth c s₁ B hml hP _
    have hh0 : s₁.heap = s.heap := by rw [B.state]; rfl
    have ht : ∀ x ∈ c.exceptionTable.toList, False := by
      obtain ⟨meth9, c9, h1, h2, -, -, -, -, h7, -⟩ := Cond.code_spec B.named (atoms_spec (ws := ws) B.pre _ (by rw [hw]; exact List.mem_cons_self))
      cases Option.some.inj (h1.symm.trans B.method)
      cases Option.some.inj (h2.symm.trans (Stand.of_body B).code)
      intro x hx
      rw [Array.isEmpty_iff.mp h7] at hx
      cases hx
    obtain ⟨t, a1, o, b1, b2, b3⟩ := body p e s m args below meth c s₁ B hml ht hP s₁ hh0 (Stand.of_body B)
    exact ⟨t, o, a1, b1, b2, b3⟩
/-- the table of a body with handlers -/
theorem vx_table {p : Program} {x y : MethodName} {S : Spec} {cc bytes : ByteArray} {maxL maxL' : Nat} {ret ret' : Option FieldType} {e : Env} {s s₁ : State} {m : MethodId} {args : Array Value} {below : List Frame} {meth : Method} {c : Code} {hh : List (Nat × Nat × Nat × Nat)}
    (B : BodyLoose p l y S cc maxL ret e s m args below meth c s₁) (h : (Cond.codeWith y bytes maxL' ret' hh).before args s = true) : c.exceptionTable.toList = tableOf hh := by
  obtain ⟨m9, meth9, c9, hn9, h1, h2, -, -, h6, -⟩ := Cond.codeWith_spec h
  cases Option.some.inj (hn9.symm.trans B.named)
  cases Option.some.inj (h1.symm.trans B.method)
  cases Option.some.inj (h2.symm.trans (Stand.of_body B).code)
  rw [← h6, table_eq]
end Bodies
end VXA
/-! ===== END ===== -/
/-! ===== BEGIN a static call of a method with an exception table ===== -/
section VXS
variable {p : Program} {l : Launch} {e : Env} {R : Room} {s : State} {m : MethodId} {args : Array Value} {below : List Frame} {meth : Method} {c : Code} {T : State} {H : Heap} {locs : List Loc} {cells slots : Nat}
abbrev vx_CSW (R : Room) (s : State) (args : Array Value) (own : String) (index : Nat) (y : MethodName) (bytes : ByteArray) (maxL : Nat) (ret : Option FieldType) (hh : List (Nat × Nat × Nat × Nat)) (ws : List Cond) (rm : Room) (mc ms n : Nat) : Prop :=
  (rm.cells = mc ∧ rm.slots = ms ∧ rm.frames + 1 ≤ R.frames ∧ 8 + (maxL + 11) + rm.locals ≤ R.locals ∧ (∀ w ∈ ws, ∀ (a' : Array Value) (U : State), s.WarmedH U.vm → w.before a' U = true) ∧ Cond.codeWith y bytes maxL ret hh ∈ ws) ∧
  (Cond.codeWith y bytes maxL ret hh).before args s = true ∧ (Cond.initialized y.cls).before args s = true ∧ (y.cls ≠ "java/lang/invoke/MethodHandle" ∧ y.cls ≠ "java/lang/invoke/VarHandle") ∧
  (∀ sig, parseMethodDescriptor y.desc = some sig → n = sig.parameters.length) ∧ (Cond.methodLink own index y).before args s = true ∧ (Cond.static y).before args s = true
theorem vx_cwSW {own : String} {index maxL mc ms : Nat} {y : MethodName} {bytes : ByteArray} {ret : Option FieldType} {hh : List (Nat × Nat × Nat × Nat)} {Ts ws ws' : List Cond} {rm : Room} (n : Nat) (ht : ∀ w ∈ Ts, w.before args s = true) (hT : GoodIn Ts (va_wsS own index y ws)) (hw : ws = Cond.codeWith y bytes maxL ret hh :: ws') (hrc : rm.cells = mc) (hrs : rm.slots = ms)
    (hd : y.cls ≠ "java/lang/invoke/MethodHandle" ∧ y.cls ≠ "java/lang/invoke/VarHandle" ∧ (parseMethodDescriptor y.desc).map (fun d => d.parameters.length) = some n) (hR : rm.frames + 1 ≤ R.frames ∧ 8 + (maxL + 11) + rm.locals ≤ R.locals) :
    vx_CSW R s args own index y bytes maxL ret hh ws rm mc ms n := by
  have ok : ∀ w ∈ va_wsS own index y ws, w.before args s = true := fun w h => ht w (hT w h).1
  have hG : GoodIn Ts ws := fun w h => hT w (by unfold va_wsS; exact List.mem_append_right _ h)
  have hc : Cond.codeWith y bytes maxL ret hh ∈ ws := by rw [hw]; exact List.mem_cons_self
  refine ⟨⟨hrc, hrs, hR.1, hR.2, pay_in ht hG, hc⟩, ht _ (hG _ hc).1, ok _ (by simp [va_wsS]), ⟨hd.1, hd.2.1⟩, fun sig h => ?_, ok _ (by simp [va_wsS]), ok _ (by simp [va_wsS])⟩
  have h2 := hd.2.2
  rw [h] at h2
  exact (Option.some.inj h2).symm
theorem vx_callSW (X : Stand p l e R s m args below meth c T locs cells slots) (hexec : p.tables.exec = Jvm.exec) {own : String} {index : Nat} {y : MethodName} {bytes : ByteArray} {maxL : Nat} {ret : Option FieldType} {hh : List (Nat × Nat × Nat × Nat)}
    (hown : s.vm.findClass own = some m.cls) (hlink : (Cond.methodLink own index y).before args s = true) (hstat : (Cond.static y).before args s = true) (hinit : (Cond.initialized y.cls).before args s = true)
    (hcode : (Cond.codeWith y bytes maxL ret hh).before args s = true) (hy : y.cls ≠ "java/lang/invoke/MethodHandle" ∧ y.cls ≠ "java/lang/invoke/VarHandle")
    {W9 : Nat} {Pre : Pt → Array Value → Prop} {Post : Pt → Array Value → Option Value → Pt → Prop} (hK : Back l R p e below s args y 3 W9 Pre Post)
    {g : JFrame} (hg : g.method = m) (hsize : g.locals.size = c.maxLocals) {argsL rest : List Value} (hlen : ∀ sig, parseMethodDescriptor y.desc = some sig → argsL.length = sig.parameters.length)
    (hstack : g.stack = argsL.reverse ++ rest) (hW : 2 * g.monitorRoom + (rest.map fun v => v.category).sum ≤ W9) (hdg : decode c.code g.pc = .ok (.invokestatic index, 3))
    (hpre : ∀ vm₁, s.WarmedH vm₁ → Pre ⟨T.setVm vm₁, locs, cells, slots⟩ argsL.toArray) :
    ∃ (v : Option Value) (vm₁ : Vm) (B : Pt), s.WarmedH vm₁ ∧ Stand p l e R s m args below meth c B.U B.locs B.cells B.slots ∧ Post ⟨T.setVm vm₁, locs, cells, slots⟩ argsL.toArray v B ∧
      ∀ target, Steps p.tables e below (B.U.setTop { g with pc := g.pc + 3, stack := v.toList ++ rest }) target → Steps p.tables e below (T.setTop g) target := by
  obtain ⟨mk, methM, cM, hnamed, hmethM, -, -, -, -, -, -, hsigM⟩ := Cond.codeWith_spec hcode
  have hstatic : methM.isStatic = true := Cond.static_spec hnamed hmethM hstat
  obtain ⟨kP, hkP, -⟩ := className_of_methodNamed hnamed
  have hinitP : kP.init = .initialized := Cond.initialized_spec (findClass_of_methodNamed hnamed) hkP hinit
  obtain ⟨vm₁, X₁, hstep₁⟩ := X.invokestatic hexec hown hlink hnamed hmethM hstatic hkP hinitP hy (g := g) hg (argsL := argsL) (rest := rest) (hlen _ hsigM) hstack hdg
  obtain ⟨v, B, X', hpost, hsteps⟩ := hK m meth c ⟨T.setVm vm₁, locs, cells, slots⟩ { g with stack := rest } (.invokestatic index) mk argsL.toArray X₁ hg hsize hdg hW (X₁.named hnamed) (hpre vm₁ X₁.warmed)
  exact ⟨v, vm₁, B, X₁.warmed, X', hpost, fun target h => hstep₁ _ fun acts => by rw [doInvoke_state]; exact hsteps.trans h⟩
theorem vx_runSW {y : MethodName} {bytes cc : ByteArray} {maxL nL mc ms n index : Nat} {ret : Option FieldType} {hh : List (Nat × Nat × Nat × Nat)} {ws : List Cond} {rm : Room} {Pc : Array Value → State → Prop} {Qc : Array Value → State → Outcome → State → Prop} {free : Addr → Prop} {Ts : List Cond} {own : String} {As rest : List Value} {g : JFrame}
    (S : CallFix p m c cc nL s args Ts own) (hM : Met l y ws rm Pc Qc mc ms free) (cw : vx_CSW R s args own index y bytes maxL ret hh ws rm mc ms n) (hp : PreS s H Pc As)
    (hg : g.method = m) (hn : As.length = n) (hsize : g.locals.size = nL) (hstack : g.stack = As.reverse ++ rest) (hW : 2 * g.monitorRoom + (rest.map fun v => v.category).sum ≤ 8) (hdg : decode cc g.pc = .ok (.invokestatic index, 3)) (hf : cells + mc ≤ R.cells ∧ slots + ms ≤ R.slots) :
    va_Run p l e R s m args below meth c H locs cells slots mc ms g rest (Qc As.toArray) (free) := by
  obtain ⟨⟨hrc, hrs, hfr, hlo, hws, hcw⟩, hcode, hini, hy, hlen, hl, hstt⟩ := cw
  have hK : Back l R p e below s args y 3 8 (PreOf R mc ms Pc) (PostOf Qc mc ms free) := va_backW (hh := hh) (bytes := bytes) (maxL := maxL) (ret := ret) hM hp.1 hrc hrs hfr hlo hws hcw (fun a' U hW => word_at hW (Or.inl (by first | rfl | simp [Cond.onTables, Cond.keeps, Cond.steady])) hini)
  obtain ⟨hx, hb, hml, ho, -⟩ := S
  intro T hT X
  obtain ⟨v, vm₁, ⟨U', l2, c2, s2⟩, hW₁, X', ⟨g', mk, t, L, e1, e2, hq, h1, hL, h2, h3⟩, st⟩ := vx_callSW X hx (hh := hh) (bytes := bytes) (maxL := maxL) (ret := ret) ho hl hstt hini hcode hy hK hg (hsize.trans hml.symm) (argsL := As) (rest := rest) (fun sig h => hn.trans (hlen sig h)) hstack hW (by rw [hb]; exact hdg)
    (fun vm₁ hW₁ => ⟨hf.1, hf.2, hp.2 (T.setVm vm₁) hT hW₁⟩)
  dsimp only [Pt.U, Pt.locs, Pt.cells, Pt.slots] at X' e1 e2 h1 h2 h3 st
  subst h1; subst h2; subst h3
  exact ⟨v, (T.setVm vm₁).calling g' mk As.toArray, t, U', L, hT, X', hL, e1, e2, hq, st⟩
/-- not caught here, past rows that name other classes: it goes on to the caller -/
theorem vx_outP {p : Program} {l : Launch} {e : Env} {R : Room} {s : State} {m : MethodId} {args : Array Value} {below : List Frame} {meth : Method} {c : Code} {H : Heap} {locs : List Loc} {cells slots : Nat} {free : Addr → Prop} {ls : Array Slot} {rest : List Value} {Qc : Array Value → State → Outcome → State → Prop} {XC : String → State → State → Prop}
    {pc : Nat} {own E : String} {ce : Cell} {q : Addr} {mc ms : Nat} (hown : s.vm.findClass own = some m.cls) (hlocks : meth.locks = false)
    (hpass : ∀ z ∈ c.exceptionTable.toList, covers z pc = false ∨ (z.catchType ≠ 0 ∧ ∃ nm : String, (Cond.classLink own z.catchType nm).before args s = true ∧ va_Nc E nm s)) (hcell : H[q]? = some ce) (hv : ce.vm = .none) (hcl : s.vm.findClass E = some ce.cls)
    (hx : ∀ t : State, t.heap = H → s.vm.Alike t.vm → XC E s t) (hf : ∀ z ∈ locs, free z.base) (hc : cells ≤ mc) (hs : slots ≤ ms) :
    vx_W p l e R s m args below meth c H locs cells slots (vx_MQ below Qc XC args s mc ms free) (F0 m pc ls rest) q := by
  intro T hT X
  have hpl : e.platform.magicAccessors = ({} : Platform).magicAccessors := by rw [X.admits.platform]
  obtain ⟨vm', hW', X', st⟩ := X.outThrough hlocks q (g := F0 m pc ls rest) rfl rfl rfl (cell := ce) (by rw [hT]; exact hcell) (by rw [hv]; rfl)
    (by obtain ⟨k9, h9, -⟩ := Vm.findClass_spec hcl; exact ⟨k9, h9⟩) (fun z hz => by
      rcases hpass z hz with h | ⟨hz0, nm, hl1, hn1⟩
      · exact Or.inl h
      · obtain ⟨c6, hc6, hcl6⟩ := Cond.classLink_spec hown hl1 e.platform hpl
        obtain ⟨a8, b8, h1, h2, h3⟩ := hn1
        cases Option.some.inj (h1.symm.trans hcl)
        cases Option.some.inj (h2.symm.trans hc6)
        exact Or.inr ⟨hz0, _, hcl6, h3⟩)
  obtain ⟨g₀, hfr⟩ := X'.frames_eq
  have hcell9 : ((T.setVm vm').setFrames (.throwing q :: below)).heap[q]? = some ce := by
    show T.heap[q]? = some ce
    rw [hT]; exact hcell
  have hend : Ended ((T.setVm vm').setFrames (.throwing q :: below)) below (.threw q) := State.frames_setFrames _ (State.cur_lt_of_frames hfr)
  refine ⟨(T.setVm vm').setFrames (.throwing q :: below), ?_, .threw q, X'.here.running, hend, Or.inr ⟨q, rfl, E, ce, locs, hx _ hT (X'.ends _).1.alike, hcell9, hv, hcl, (X'.ends _).1, (X'.ends _).2.mono hc hs, hf⟩⟩
  rw [X.pushThrowing_eq]
  exact st
/-- a thing of a world lies in the heap -/
theorem vx_lt {D : va_G} {cl : List vw_C} {ws : va_W} {H1 : Heap} (h : va_P D cl ws H1) {k : Nat} {q : Nat × va_E} (hk : ws[k]? = some q) : q.1 < H1.size := (h k q hk).lt
end VXS
/-! ===== END ===== -/
/-! ===== BEGIN methods with a table of their own: called by a name, returning or throwing ===== -/
section VXH
/-! vx_backW, vx_callVX, vx_callSX, vx_callVW, vx_runVW, vx_runVX, vx_runSX, vx_ofWH follow the same proofs as their sisters above (Free/Laws.lean, Shelf42/LK1.lean); vx_outP calls Shelf42/NT130.lean (outThrough). -/
section
variable {l : Launch} {R : Room} {p : Program} {e : Env} {below : List Frame} {s : State} {sargs : Array Value} {y : MethodName} {len W9 : Nat}
theorem vx_backW {ws : List Cond} {rm : Room} {Pc : Array Value → State → Prop} {Qc : Array Value → State → Outcome → State → Prop} {XC : String → State → State → Prop} {mc ms : Nat} {free : Addr → Prop} {bytes : ByteArray} {maxL : Nat} {ret : Option FieldType} {hh : List (Nat × Nat × Nat × Nat)}
    (hM : vx_Met l y ws rm Pc Qc XC mc ms free) (hblind : FrameBlind Pc) (hrc : rm.cells = mc) (hrs : rm.slots = ms)
    (hframes : rm.frames + 1 ≤ R.frames) (hlocals : W9 + (maxL + 11) + rm.locals ≤ R.locals)
    (hws : ∀ w ∈ ws, ∀ a' U, s.WarmedH U.vm → w.before a' U = true) (hcode : Cond.codeWith y bytes maxL ret hh ∈ ws) (hinit : ∀ a' U, s.WarmedH U.vm → (Cond.initialized y.cls).before a' U = true) :
    vx_Back l R p e below s sargs y len W9 (PreOf R mc ms Pc) (PostOf Qc mc ms free) (vx_Post XC mc ms free) := by
  intro m meth c A g ig mk a X hg hsize hdg hW hn hp
  have h1 : (headSpec ws rm).pre.before a A.U = true := atoms_intro fun w hw => hws w hw _ _ X.warmed
  have h2 : (Cond.codeWith y bytes maxL ret hh).before a A.U = true := hws _ hcode _ _ X.warmed
  have h3 : (Cond.initialized y.cls).before a A.U = true := hinit _ _ X.warmed
  have h4 : A.cells + (headSpec ws rm).room.cells ≤ R.cells := by rw [show (headSpec ws rm).room.cells = mc from hrc]; exact hp.1
  have h5 : A.slots + (headSpec ws rm).room.slots ≤ R.slots := by rw [show (headSpec ws rm).room.slots = ms from hrs]; exact hp.2.1
  have hPc : Pc a (A.U.calling g mk a) := hblind _ _ _ _ hp.2.2
  obtain ⟨U, Ls, c0, s0⟩ := A
  dsimp only [Pt.U, Pt.locs, Pt.cells, Pt.slots] at h1 h2 h3 h4 h5 X hn hPc ⊢
  obtain ⟨m9, methY, cY, hn9, hmY, hcY, -, hlY, -⟩ := Cond.codeWith_spec h2
  cases Option.some.inj (hn9.symm.trans hn)
  obtain ⟨kY, hkY, -⟩ := className_of_methodNamed hn
  have hinitY : kY.init = .initialized := Cond.initialized_spec (findClass_of_methodNamed hn) hkY h3
  have h : At U g.method c below := by rw [hg]; exact X.here
  have hlocals9 : W9 + (maxL + 11) + (headSpec ws rm).room.locals ≤ R.locals := hlocals
  have happ : (headSpec ws rm).appliesLoose y e.platform (U.calling g mk a) = true :=
    Spec.appliesLoose_calling (g := g) h hdg hn hkY hinitY
      (X.room_calling (g := g) (R' := (headSpec ws rm).room) hsize hmY hcY hframes (by rw [hlY]; omega) h4 h5) h1
  obtain ⟨mid, hmid⟩ := h.above
  have hfr : (U.setTop g).frames = (.java g :: mid) ++ below := by rw [State.frames_setTop' g h.top, hmid]; rfl
  obtain ⟨o, s₂, hsteps, -, hend, hq⟩ := Steps.callFree hM p X.admits X.cas X.clock (acts := []) hfr happ hPc trivial
  have hq' : vx_Q Qc XC mc ms free a (U.calling g mk a) o s₂ := hq
  rw [State.frames_setTop' g h.top] at hend
  obtain ⟨g₀, hg0⟩ := Option.isSome_iff_exists.mp h.top
  obtain ⟨r, hr⟩ := State.topJava?_eq_some.mp hg0
  have hr' : (({ U with heap := s₂.heap, slotsUsed := s₂.slotsUsed } : State).setVm s₂.vm).frames = .java g₀ :: r := hr
  rcases hq' with ⟨hqc, L, hfe, hL⟩ | ⟨q, rfl, E, ce, L, hx, hce, hcv, hcl, hW₂, hsm, hL⟩
  · obtain ⟨⟨v, rfl⟩, hW₂, e2, q2, q3, q4, q5, q6⟩ := id hfe
    have e3 : s₂ = ({ (U.calling g mk a).setFrames s₂.frames with heap := s₂.heap, slotsUsed := s₂.slotsUsed } : State).setVm s₂.vm := by
      have : s₂ = ({ s₂ with vm := (U.calling g mk a).vm } : State).setVm s₂.vm := rfl
      rw [e2] at this
      exact this
    obtain ⟨c₂, i₂, len₂, hc₂, hd₂, hf₂⟩ := hend
    have hW' : U.WarmedH s₂.vm := hW₂
    have hcc : c₂ = c := by
      have h1 : s₂.code? g.method = U.code? g.method := by
        rw [State.code?_eq, State.code?_eq, hW'.alike.method?]
      exact Option.some.inj (hc₂.symm.trans (h1.trans h.code))
    subst hcc
    have hlen : len₂ = len := by rw [hdg] at hd₂; cases hd₂; rfl
    subst hlen
    have hs₂ : s₂ = (({ U with heap := s₂.heap, slotsUsed := s₂.slotsUsed } : State).setVm s₂.vm).setTop { g with pc := g.pc + len₂, stack := v.toList ++ g.stack } := by
      refine e3.trans ?_
      rw [hf₂, State.calling_eq h.top, State.setFrames_setFrames, State.setTop_of_frames _ hr', hr]
      rfl
    have hsame : U.sameButNew ({ U with heap := s₂.heap, slotsUsed := s₂.slotsUsed } : State) L mc ms := by
      refine ⟨?_, q2, q3, q4, q5, q6⟩
      obtain ⟨t, ht, -⟩ := State.frames_cons hr
      show ({ U with heap := s₂.heap, slotsUsed := s₂.slotsUsed } : State) = { U.setFrames U.frames with heap := s₂.heap, slotsUsed := s₂.slotsUsed }
      rw [State.setFrames_self ht]
    subst hg
    refine Or.inl ⟨v, ⟨(({ U with heap := s₂.heap, slotsUsed := s₂.slotsUsed } : State).setVm s₂.vm), Ls ++ L, c0 + mc, s0 + ms⟩,
      ⟨X.admits, X.cas, X.clock, X.frames, X.room, X.hears, X.method, X.code, (X.here.setHeapUsed s₂.heap s₂.slotsUsed).setVm hW'.alike, X.tail, State.WarmedH.trans X.warmed hW', X.limits, X.bytes, X.same.trans (hsame.setVm s.vm)⟩,
      ⟨g, mk, s₂, L, rfl, rfl, hqc, rfl, hL, rfl, rfl⟩, ?_⟩
    show Steps p.tables e below _ ((({ U with heap := s₂.heap, slotsUsed := s₂.slotsUsed } : State).setVm s₂.vm).setTop { g with pc := g.pc + len₂, stack := v.toList ++ g.stack })
    rw [← hs₂]
    exact hsteps
  · obtain ⟨e2, q2, q3, q4, q5, q6⟩ := id hsm
    have e3 : s₂ = ({ (U.calling g mk a).setFrames s₂.frames with heap := s₂.heap, slotsUsed := s₂.slotsUsed } : State).setVm s₂.vm := by
      have : s₂ = ({ s₂ with vm := (U.calling g mk a).vm } : State).setVm s₂.vm := rfl
      rw [e2] at this
      exact this
    have hf₂ : s₂.frames = .throwing q :: .java g :: U.frames.tail := hend
    have hW' : U.WarmedH s₂.vm := hW₂
    have hs₂ : s₂ = ((({ U with heap := s₂.heap, slotsUsed := s₂.slotsUsed } : State).setVm s₂.vm).setTop g).pushFrame (.throwing q) := by
      refine e3.trans ?_
      rw [hf₂, State.calling_eq h.top, State.setFrames_setFrames, State.pushFrame, State.frames_setTop _ hr', State.setTop_of_frames _ hr', State.setFrames_setFrames, hr]
      rfl
    have hsame : U.sameButNew ({ U with heap := s₂.heap, slotsUsed := s₂.slotsUsed } : State) L mc ms := by
      refine ⟨?_, q2, q3, q4, q5, q6⟩
      obtain ⟨t, ht, -⟩ := State.frames_cons hr
      show ({ U with heap := s₂.heap, slotsUsed := s₂.slotsUsed } : State) = { U.setFrames U.frames with heap := s₂.heap, slotsUsed := s₂.slotsUsed }
      rw [State.setFrames_self ht]
    subst hg
    refine Or.inr ⟨q, ⟨(({ U with heap := s₂.heap, slotsUsed := s₂.slotsUsed } : State).setVm s₂.vm), Ls ++ L, c0 + mc, s0 + ms⟩,
      ⟨X.admits, X.cas, X.clock, X.frames, X.room, X.hears, X.method, X.code, (X.here.setHeapUsed s₂.heap s₂.slotsUsed).setVm hW'.alike, X.tail, State.WarmedH.trans X.warmed hW', X.limits, X.bytes, X.same.trans (hsame.setVm s.vm)⟩,
      ⟨g, mk, s₂, L, E, ce, rfl, rfl, hx, hce, hcv, hcl, rfl, hL, rfl, rfl⟩, ?_⟩
    show Steps p.tables e below _ (((({ U with heap := s₂.heap, slotsUsed := s₂.slotsUsed } : State).setVm s₂.vm).setTop g).pushFrame (.throwing q))
    rw [← hs₂]
    exact hsteps
end
variable {p : Program} {l : Launch} {e : Env} {R : Room} {s : State} {m : MethodId} {args : Array Value} {below : List Frame} {meth : Method} {c : Code} {T : State} {H : Heap} {locs : List Loc} {cells slots : Nat}
theorem vx_callVX (X : Stand p l e R s m args below meth c T locs cells slots) (hexec : p.tables.exec = Jvm.exec) {own C : String} {index : Nat} {y : MethodName} {bytes : ByteArray} {maxL : Nat} {ret : Option FieldType} {hh : List (Nat × Nat × Nat × Nat)}
    (hown : s.vm.findClass own = some m.cls) (hlink : (Cond.methodLink own index y).before args s = true) (hinst : (Cond.instanceMethod y).before args s = true) (hsel : (Cond.selects C y y).before args s = true)
    (hcode : (Cond.codeWith y bytes maxL ret hh).before args s = true) (hy : y.cls ≠ "java/lang/invoke/MethodHandle" ∧ y.cls ≠ "java/lang/invoke/VarHandle")
    {W9 : Nat} {Pre : Pt → Array Value → Prop} {Post : Pt → Array Value → Option Value → Pt → Prop} {PostX : Pt → Array Value → Addr → Pt → Prop} (hK : vx_Back l R p e below s args y 3 W9 Pre Post PostX)
    {b : Addr} {cellB : Cell} (hcell : T.heap[b]? = some cellB) (hobj : cellB.vm.isStatics = false) (hcls : s.vm.findClass C = some cellB.cls)
    {g : JFrame} (hg : g.method = m) (hsize : g.locals.size = c.maxLocals) {argsL rest : List Value} (hlen : ∀ sig, parseMethodDescriptor y.desc = some sig → argsL.length = sig.parameters.length)
    (hstack : g.stack = argsL.reverse ++ .ref b :: rest) (hW : 2 * g.monitorRoom + (rest.map fun v => v.category).sum ≤ W9) (hdg : decode c.code g.pc = .ok (.invokevirtual index, 3))
    (hpre : ∀ vm₁, s.WarmedH vm₁ → Pre ⟨T.setVm vm₁, locs, cells, slots⟩ (Value.ref b :: argsL).toArray) :
    (∃ (v : Option Value) (vm₁ : Vm) (B : Pt), s.WarmedH vm₁ ∧ Stand p l e R s m args below meth c B.U B.locs B.cells B.slots ∧ Post ⟨T.setVm vm₁, locs, cells, slots⟩ (Value.ref b :: argsL).toArray v B ∧
      ∀ target, Steps p.tables e below (B.U.setTop { g with pc := g.pc + 3, stack := v.toList ++ rest }) target → Steps p.tables e below (T.setTop g) target) ∨
    (∃ (q : Addr) (vm₁ : Vm) (B : Pt), s.WarmedH vm₁ ∧ Stand p l e R s m args below meth c B.U B.locs B.cells B.slots ∧ PostX ⟨T.setVm vm₁, locs, cells, slots⟩ (Value.ref b :: argsL).toArray q B ∧
      Steps p.tables e below (T.setTop g) ((B.U.setTop { g with stack := rest }).pushFrame (.throwing q))) := by
  obtain ⟨mk, methM, hnamed, hmethM, hstM, habM⟩ := Cond.instanceMethod_spec hinst
  obtain ⟨m8, methM', cM, hn8, hmethM', -, -, -, -, -, -, hsigM⟩ := Cond.codeWith_spec hcode
  cases Option.some.inj (hn8.symm.trans hnamed)
  cases hmethM.symm.trans hmethM'
  obtain ⟨c2, r2, m2, q1, q2, q3, q4, kP, hkP, hkPi⟩ := Cond.selects_spec hsel
  cases hcls.symm.trans q1
  cases (State.methodFound?_of_named hnamed hy).symm.trans q2
  cases hnamed.symm.trans q3
  have hselP : selectMethod e.platform s.vm cellB.cls mk = .method mk := by rw [Launch.admits_selectMethod X.admits]; exact q4
  obtain ⟨vm₁, X₁, hstep₁⟩ := X.invokevirtual hexec hown hlink hnamed hmethM hstM hkP hkPi hy (a := b) (cell := cellB) hcell
    (fun z h => by rw [h] at hobj; cases hobj) hselP hmethM habM hkP hkPi (g := g) hg (argsL := argsL) (rest := rest) (hlen _ hsigM) hstack hdg
  rcases hK m meth c ⟨T.setVm vm₁, locs, cells, slots⟩ { g with stack := rest } (.invokevirtual index) mk (Value.ref b :: argsL).toArray X₁ hg hsize hdg hW (X₁.named hnamed) (hpre vm₁ X₁.warmed) with ⟨v, B, X', hpost, hsteps⟩ | ⟨q, B, X', hpost, hsteps⟩
  · exact Or.inl ⟨v, vm₁, B, X₁.warmed, X', hpost, fun target h => hstep₁ _ fun acts => by rw [doInvoke_state]; exact hsteps.trans h⟩
  · exact Or.inr ⟨q, vm₁, B, X₁.warmed, X', hpost, hstep₁ _ fun acts => by rw [doInvoke_state]; exact hsteps⟩
theorem vx_callSX (X : Stand p l e R s m args below meth c T locs cells slots) (hexec : p.tables.exec = Jvm.exec) {own : String} {index : Nat} {y : MethodName} {bytes : ByteArray} {maxL : Nat} {ret : Option FieldType} {hh : List (Nat × Nat × Nat × Nat)}
    (hown : s.vm.findClass own = some m.cls) (hlink : (Cond.methodLink own index y).before args s = true) (hstat : (Cond.static y).before args s = true) (hinit : (Cond.initialized y.cls).before args s = true)
    (hcode : (Cond.codeWith y bytes maxL ret hh).before args s = true) (hy : y.cls ≠ "java/lang/invoke/MethodHandle" ∧ y.cls ≠ "java/lang/invoke/VarHandle")
    {W9 : Nat} {Pre : Pt → Array Value → Prop} {Post : Pt → Array Value → Option Value → Pt → Prop} {PostX : Pt → Array Value → Addr → Pt → Prop} (hK : vx_Back l R p e below s args y 3 W9 Pre Post PostX)
    {g : JFrame} (hg : g.method = m) (hsize : g.locals.size = c.maxLocals) {argsL rest : List Value} (hlen : ∀ sig, parseMethodDescriptor y.desc = some sig → argsL.length = sig.parameters.length)
    (hstack : g.stack = argsL.reverse ++ rest) (hW : 2 * g.monitorRoom + (rest.map fun v => v.category).sum ≤ W9) (hdg : decode c.code g.pc = .ok (.invokestatic index, 3))
    (hpre : ∀ vm₁, s.WarmedH vm₁ → Pre ⟨T.setVm vm₁, locs, cells, slots⟩ argsL.toArray) :
    (∃ (v : Option Value) (vm₁ : Vm) (B : Pt), s.WarmedH vm₁ ∧ Stand p l e R s m args below meth c B.U B.locs B.cells B.slots ∧ Post ⟨T.setVm vm₁, locs, cells, slots⟩ argsL.toArray v B ∧
      ∀ target, Steps p.tables e below (B.U.setTop { g with pc := g.pc + 3, stack := v.toList ++ rest }) target → Steps p.tables e below (T.setTop g) target) ∨
    (∃ (q : Addr) (vm₁ : Vm) (B : Pt), s.WarmedH vm₁ ∧ Stand p l e R s m args below meth c B.U B.locs B.cells B.slots ∧ PostX ⟨T.setVm vm₁, locs, cells, slots⟩ argsL.toArray q B ∧
      Steps p.tables e below (T.setTop g) ((B.U.setTop { g with stack := rest }).pushFrame (.throwing q))) := by
  obtain ⟨mk, methM, cM, hnamed, hmethM, -, -, -, -, -, -, hsigM⟩ := Cond.codeWith_spec hcode
  have hstatic : methM.isStatic = true := Cond.static_spec hnamed hmethM hstat
  obtain ⟨kP, hkP, -⟩ := className_of_methodNamed hnamed
  have hinitP : kP.init = .initialized := Cond.initialized_spec (findClass_of_methodNamed hnamed) hkP hinit
  obtain ⟨vm₁, X₁, hstep₁⟩ := X.invokestatic hexec hown hlink hnamed hmethM hstatic hkP hinitP hy (g := g) hg (argsL := argsL) (rest := rest) (hlen _ hsigM) hstack hdg
  rcases hK m meth c ⟨T.setVm vm₁, locs, cells, slots⟩ { g with stack := rest } (.invokestatic index) mk argsL.toArray X₁ hg hsize hdg hW (X₁.named hnamed) (hpre vm₁ X₁.warmed) with ⟨v, B, X', hpost, hsteps⟩ | ⟨q, B, X', hpost, hsteps⟩
  · exact Or.inl ⟨v, vm₁, B, X₁.warmed, X', hpost, fun target h => hstep₁ _ fun acts => by rw [doInvoke_state]; exact hsteps.trans h⟩
  · exact Or.inr ⟨q, vm₁, B, X₁.warmed, X', hpost, hstep₁ _ fun acts => by rw [doInvoke_state]; exact hsteps⟩
theorem vx_callVW (X : Stand p l e R s m args below meth c T locs cells slots) (hexec : p.tables.exec = Jvm.exec) {own C : String} {index : Nat} {y : MethodName} {bytes : ByteArray} {maxL : Nat} {ret : Option FieldType} {hh : List (Nat × Nat × Nat × Nat)}
    (hown : s.vm.findClass own = some m.cls) (hlink : (Cond.methodLink own index y).before args s = true) (hinst : (Cond.instanceMethod y).before args s = true) (hsel : (Cond.selects C y y).before args s = true)
    (hcode : (Cond.codeWith y bytes maxL ret hh).before args s = true) (hy : y.cls ≠ "java/lang/invoke/MethodHandle" ∧ y.cls ≠ "java/lang/invoke/VarHandle")
    {W9 : Nat} {Pre : Pt → Array Value → Prop} {Post : Pt → Array Value → Option Value → Pt → Prop} (hK : Back l R p e below s args y 3 W9 Pre Post)
    {b : Addr} {cellB : Cell} (hcell : T.heap[b]? = some cellB) (hobj : cellB.vm.isStatics = false) (hcls : s.vm.findClass C = some cellB.cls)
    {g : JFrame} (hg : g.method = m) (hsize : g.locals.size = c.maxLocals) {argsL rest : List Value} (hlen : ∀ sig, parseMethodDescriptor y.desc = some sig → argsL.length = sig.parameters.length)
    (hstack : g.stack = argsL.reverse ++ .ref b :: rest) (hW : 2 * g.monitorRoom + (rest.map fun v => v.category).sum ≤ W9) (hdg : decode c.code g.pc = .ok (.invokevirtual index, 3))
    (hpre : ∀ vm₁, s.WarmedH vm₁ → Pre ⟨T.setVm vm₁, locs, cells, slots⟩ (Value.ref b :: argsL).toArray) :
    ∃ (v : Option Value) (vm₁ : Vm) (B : Pt), s.WarmedH vm₁ ∧ Stand p l e R s m args below meth c B.U B.locs B.cells B.slots ∧ Post ⟨T.setVm vm₁, locs, cells, slots⟩ (Value.ref b :: argsL).toArray v B ∧
      ∀ target, Steps p.tables e below (B.U.setTop { g with pc := g.pc + 3, stack := v.toList ++ rest }) target → Steps p.tables e below (T.setTop g) target := by
  obtain ⟨mk, methM, hnamed, hmethM, hstM, habM⟩ := Cond.instanceMethod_spec hinst
  obtain ⟨m8, methM', cM, hn8, hmethM', -, -, -, -, -, -, hsigM⟩ := Cond.codeWith_spec hcode
  cases Option.some.inj (hn8.symm.trans hnamed)
  cases hmethM.symm.trans hmethM'
  obtain ⟨c2, r2, m2, q1, q2, q3, q4, kP, hkP, hkPi⟩ := Cond.selects_spec hsel
  cases hcls.symm.trans q1
  cases (State.methodFound?_of_named hnamed hy).symm.trans q2
  cases hnamed.symm.trans q3
  have hselP : selectMethod e.platform s.vm cellB.cls mk = .method mk := by rw [Launch.admits_selectMethod X.admits]; exact q4
  obtain ⟨vm₁, X₁, hstep₁⟩ := X.invokevirtual hexec hown hlink hnamed hmethM hstM hkP hkPi hy (a := b) (cell := cellB) hcell
    (fun z h => by rw [h] at hobj; cases hobj) hselP hmethM habM hkP hkPi (g := g) hg (argsL := argsL) (rest := rest) (hlen _ hsigM) hstack hdg
  obtain ⟨v, B, X', hpost, hsteps⟩ := hK m meth c ⟨T.setVm vm₁, locs, cells, slots⟩ { g with stack := rest } (.invokevirtual index) mk (Value.ref b :: argsL).toArray X₁ hg hsize hdg hW (X₁.named hnamed) (hpre vm₁ X₁.warmed)
  exact ⟨v, vm₁, B, X₁.warmed, X', hpost, fun target h => hstep₁ _ fun acts => by rw [doInvoke_state]; exact hsteps.trans h⟩
abbrev vx_CVW (R : Room) (s : State) (args : Array Value) (own C : String) (index : Nat) (y : MethodName) (bytes : ByteArray) (maxL : Nat) (ret : Option FieldType) (hh : List (Nat × Nat × Nat × Nat)) (ws : List Cond) (rm : Room) (mc ms n : Nat) : Prop :=
  (rm.cells = mc ∧ rm.slots = ms ∧ rm.frames + 1 ≤ R.frames ∧ 8 + (maxL + 11) + rm.locals ≤ R.locals ∧ (∀ w ∈ ws, ∀ (a' : Array Value) (U : State), s.WarmedH U.vm → w.before a' U = true) ∧ Cond.codeWith y bytes maxL ret hh ∈ ws) ∧
  (Cond.codeWith y bytes maxL ret hh).before args s = true ∧ (Cond.initialized y.cls).before args s = true ∧ (y.cls ≠ "java/lang/invoke/MethodHandle" ∧ y.cls ≠ "java/lang/invoke/VarHandle") ∧
  (∀ sig, parseMethodDescriptor y.desc = some sig → n = sig.parameters.length) ∧ (Cond.methodLink own index y).before args s = true ∧ (Cond.instanceMethod y).before args s = true ∧ (Cond.selects C y y).before args s = true
theorem vx_cwVW {own C : String} {index maxL mc ms : Nat} {y : MethodName} {bytes : ByteArray} {ret : Option FieldType} {hh : List (Nat × Nat × Nat × Nat)} {Ts ws ws' : List Cond} {rm : Room} (n : Nat) (ht : ∀ w ∈ Ts, w.before args s = true) (hT : GoodIn Ts (wsV own index C y ws)) (hw : ws = Cond.codeWith y bytes maxL ret hh :: ws') (hrc : rm.cells = mc) (hrs : rm.slots = ms)
    (hd : y.cls = C ∧ y.cls ≠ "java/lang/invoke/MethodHandle" ∧ y.cls ≠ "java/lang/invoke/VarHandle" ∧ (parseMethodDescriptor y.desc).map (fun d => d.parameters.length) = some n) (hR : rm.frames + 1 ≤ R.frames ∧ 8 + (maxL + 11) + rm.locals ≤ R.locals) :
    vx_CVW R s args own C index y bytes maxL ret hh ws rm mc ms n := by
  obtain ⟨hC, hd⟩ := hd
  subst hC
  have ok : ∀ w ∈ wsV own index y.cls y ws, w.before args s = true := fun w h => ht w (hT w h).1
  have hG : GoodIn Ts ws := fun w h => hT w (by unfold wsV; exact List.mem_append_right _ h)
  have hc : Cond.codeWith y bytes maxL ret hh ∈ ws := by rw [hw]; exact List.mem_cons_self
  refine ⟨⟨hrc, hrs, hR.1, hR.2, pay_in ht hG, hc⟩, ht _ (hG _ hc).1, ok _ (by simp [wsV]), ⟨hd.1, hd.2.1⟩, fun sig h => ?_, ok _ (by simp [wsV]), ok _ (by simp [wsV]), ok _ (by simp [wsV])⟩
  have h2 := hd.2.2
  rw [h] at h2
  exact (Option.some.inj h2).symm
theorem vx_runVW {y : MethodName} {bytes cc : ByteArray} {maxL nL mc ms n index : Nat} {ret : Option FieldType} {hh : List (Nat × Nat × Nat × Nat)} {ws : List Cond} {rm : Room} {Pc : Array Value → State → Prop} {Qc : Array Value → State → Outcome → State → Prop} {free : Addr → Prop} {Ts : List Cond} {own C : String} {b : Addr} {As rest : List Value} {g : JFrame}
    (S : CallFix p m c cc nL s args Ts own) (hM : Met l y ws rm Pc Qc mc ms free) (cw : vx_CVW R s args own C index y bytes maxL ret hh ws rm mc ms n) (hp : PreV s H C b Pc As)
    (hg : g.method = m) (hn : As.length = n) (hsize : g.locals.size = nL) (hstack : g.stack = As.reverse ++ .ref b :: rest) (hW : 2 * g.monitorRoom + (rest.map fun v => v.category).sum ≤ 8) (hdg : decode cc g.pc = .ok (.invokevirtual index, 3)) (hf : cells + mc ≤ R.cells ∧ slots + ms ≤ R.slots) :
    va_Run p l e R s m args below meth c H locs cells slots mc ms g rest (Qc (Value.ref b :: As).toArray) free := by
  obtain ⟨⟨hrc, hrs, hfr, hlo, hws, hcw⟩, hcode, hini, hy, hlen, hl, hin, hse⟩ := cw
  have hK : Back l R p e below s args y 3 8 (PreOf R mc ms Pc) (PostOf Qc mc ms free) := va_backW (hh := hh) (bytes := bytes) (maxL := maxL) (ret := ret) hM hp.1 hrc hrs hfr hlo hws hcw (fun a' U hW => word_at hW (Or.inl (by first | rfl | simp [Cond.onTables, Cond.keeps, Cond.steady])) hini)
  obtain ⟨hx, hb, hml, ho, -⟩ := S
  obtain ⟨-, ⟨cellB, hcB, hoB, hclB⟩, hPc⟩ := hp
  intro T hT X
  obtain ⟨v, vm₁, ⟨U', l2, c2, s2⟩, hW₁, X', ⟨g', mk, t, L, e1, e2, hq, h1, hL, h2, h3⟩, st⟩ := vx_callVW X hx (C := C) (hh := hh) (bytes := bytes) (maxL := maxL) (ret := ret) ho hl hin hse hcode hy hK (by rw [hT]; exact hcB) hoB hclB hg (hsize.trans hml.symm) (argsL := As) (rest := rest) (fun sig h => hn.trans (hlen sig h)) hstack hW (by rw [hb]; exact hdg)
    (fun vm₁ hW₁ => ⟨hf.1, hf.2, hPc (T.setVm vm₁) hT hW₁⟩)
  dsimp only [Pt.U, Pt.locs, Pt.cells, Pt.slots] at X' e1 e2 h1 h2 h3 st
  subst h1; subst h2; subst h3
  exact ⟨v, (T.setVm vm₁).calling g' mk (Value.ref b :: As).toArray, t, U', L, hT, X', hL, e1, e2, hq, st⟩
section
variable {y : MethodName} {bytes cc : ByteArray} {maxL nL mc ms n index : Nat} {ret : Option FieldType} {ws : List Cond} {rm : Room} {Pc : Array Value → State → Prop} {Qc : Array Value → State → Outcome → State → Prop} {XC : String → State → State → Prop} {free : Addr → Prop} {Ts : List Cond} {own C : String} {b : Addr} {As rest : List Value} {g : JFrame}
theorem vx_runVX {hh : List (Nat × Nat × Nat × Nat)} (S : CallFix p m c cc nL s args Ts own) (hM : vx_Met l y ws rm Pc Qc XC mc ms free) (cw : vx_CVW R s args own C index y bytes maxL ret hh ws rm mc ms n) (hp : PreV s H C b Pc As)
    (hg : g.method = m) (hn : As.length = n) (hsize : g.locals.size = nL) (hstack : g.stack = As.reverse ++ .ref b :: rest) (hW : 2 * g.monitorRoom + (rest.map fun v => v.category).sum ≤ 8) (hdg : decode cc g.pc = .ok (.invokevirtual index, 3)) (hf : cells + mc ≤ R.cells ∧ slots + ms ≤ R.slots) :
    vx_Run p l e R s m args below meth c H locs cells slots mc ms g rest (Qc (Value.ref b :: As).toArray) XC free := by
  obtain ⟨⟨hrc, hrs, hfr, hlo, hws, hcw⟩, hcode, hini, hy, hlen, hl, hin, hse⟩ := cw
  have hK : vx_Back l R p e below s args y 3 8 (PreOf R mc ms Pc) (PostOf Qc mc ms free) (vx_Post XC mc ms free) := vx_backW (hh := hh) (bytes := bytes) (maxL := maxL) (ret := ret) hM hp.1 hrc hrs hfr hlo hws hcw (fun a' U hW => word_at hW (Or.inl (by first | rfl | simp [Cond.onTables, Cond.keeps, Cond.steady])) hini)
  obtain ⟨hx, hb, hml, ho, -⟩ := S
  obtain ⟨-, ⟨cellB, hcB, hoB, hclB⟩, hPc⟩ := hp
  intro T hT X
  rcases vx_callVX X hx (C := C) (hh := hh) (bytes := bytes) (maxL := maxL) (ret := ret) ho hl hin hse hcode hy hK (by rw [hT]; exact hcB) hoB hclB hg (hsize.trans hml.symm) (argsL := As) (rest := rest) (fun sig h => hn.trans (hlen sig h)) hstack hW (by rw [hb]; exact hdg)
    (fun vm₁ hW₁ => ⟨hf.1, hf.2, hPc (T.setVm vm₁) hT hW₁⟩) with ⟨v, vm₁, ⟨U', l2, c2, s2⟩, hW₁, X', ⟨g', mk, t, L, e1, e2, hq, h1, hL, h2, h3⟩, st⟩ | ⟨q, vm₁, ⟨U', l2, c2, s2⟩, hW₁, X', ⟨g', mk, t, L, E, ce, e1, e2, hq, hce, hcv, hcl, h1, hL, h2, h3⟩, st⟩
  · dsimp only [Pt.U, Pt.locs, Pt.cells, Pt.slots] at X' e1 e2 h1 h2 h3 st
    subst h1; subst h2; subst h3
    exact Or.inl ⟨v, (T.setVm vm₁).calling g' mk (Value.ref b :: As).toArray, t, U', L, hT, X', hL, e1, e2, hq, st⟩
  · dsimp only [Pt.U, Pt.locs, Pt.cells, Pt.slots] at X' e1 e2 h1 h2 h3 st hcl
    subst h1; subst h2; subst h3
    exact Or.inr ⟨q, (T.setVm vm₁).calling g' mk (Value.ref b :: As).toArray, t, U', L, E, ce, hT, X', hL, e1, e2, hq, hce, hcv, vx_cls hW₁ hcl, st⟩
theorem vx_runSX {hh : List (Nat × Nat × Nat × Nat)} (S : CallFix p m c cc nL s args Ts own) (hM : vx_Met l y ws rm Pc Qc XC mc ms free) (cw : vx_CSW R s args own index y bytes maxL ret hh ws rm mc ms n) (hp : PreS s H Pc As)
    (hg : g.method = m) (hn : As.length = n) (hsize : g.locals.size = nL) (hstack : g.stack = As.reverse ++ rest) (hW : 2 * g.monitorRoom + (rest.map fun v => v.category).sum ≤ 8) (hdg : decode cc g.pc = .ok (.invokestatic index, 3)) (hf : cells + mc ≤ R.cells ∧ slots + ms ≤ R.slots) :
    vx_Run p l e R s m args below meth c H locs cells slots mc ms g rest (Qc As.toArray) XC free := by
  obtain ⟨⟨hrc, hrs, hfr, hlo, hws, hcw⟩, hcode, hini, hy, hlen, hl, hstt⟩ := cw
  have hK : vx_Back l R p e below s args y 3 8 (PreOf R mc ms Pc) (PostOf Qc mc ms free) (vx_Post XC mc ms free) := vx_backW (hh := hh) (bytes := bytes) (maxL := maxL) (ret := ret) hM hp.1 hrc hrs hfr hlo hws hcw (fun a' U hW => word_at hW (Or.inl (by first | rfl | simp [Cond.onTables, Cond.keeps, Cond.steady])) hini)
  obtain ⟨hx, hb, hml, ho, -⟩ := S
  intro T hT X
  rcases vx_callSX X hx (hh := hh) (bytes := bytes) (maxL := maxL) (ret := ret) ho hl hstt hini hcode hy hK hg (hsize.trans hml.symm) (argsL := As) (rest := rest) (fun sig h => hn.trans (hlen sig h)) hstack hW (by rw [hb]; exact hdg)
    (fun vm₁ hW₁ => ⟨hf.1, hf.2, hp.2 (T.setVm vm₁) hT hW₁⟩) with ⟨v, vm₁, ⟨U', l2, c2, s2⟩, hW₁, X', ⟨g', mk, t, L, e1, e2, hq, h1, hL, h2, h3⟩, st⟩ | ⟨q, vm₁, ⟨U', l2, c2, s2⟩, hW₁, X', ⟨g', mk, t, L, E, ce, e1, e2, hq, hce, hcv, hcl, h1, hL, h2, h3⟩, st⟩
  · dsimp only [Pt.U, Pt.locs, Pt.cells, Pt.slots] at X' e1 e2 h1 h2 h3 st
    subst h1; subst h2; subst h3
    exact Or.inl ⟨v, (T.setVm vm₁).calling g' mk As.toArray, t, U', L, hT, X', hL, e1, e2, hq, st⟩
  · dsimp only [Pt.U, Pt.locs, Pt.cells, Pt.slots] at X' e1 e2 h1 h2 h3 st hcl
    subst h1; subst h2; subst h3
    exact Or.inr ⟨q, (T.setVm vm₁).calling g' mk As.toArray, t, U', L, E, ce, hT, X', hL, e1, e2, hq, hce, hcv, vx_cls hW₁ hcl, st⟩
end
end VXH
theorem vx_ofWH {l : Launch} {y : MethodName} {ws ws' : List Cond} {rm : Room} {Pc : Array Value → State → Prop} {Qc : Array Value → State → Outcome → State → Prop} {XC : String → State → State → Prop} {mc ms : Nat} {free : Addr → Prop} {cc : ByteArray} {maxL : Nat} {ret : Option FieldType} {hh : List (Nat × Nat × Nat × Nat)}
    (hy : plainName y.cls = true) (hw : ws = Cond.codeWith y cc maxL ret hh :: ws')
    (body : ∀ p e s m args below meth c s₁, BodyLoose p l y (headSpec ws rm) cc maxL ret e s m args below meth c s₁ → c.maxLocals = maxL → Pc args s →
      W p l e (headSpec ws rm).room s m args below meth c s.heap [] 0 0 (vx_MQ below Qc XC args s mc ms free) (entryFrame m args maxL)) : vx_Met l y ws rm Pc Qc XC mc ms free := by
  refine MetFree.of_bodyS (code := cc) (maxLocals := maxL) (ret := ret) hy ?_ ?_
  · intro args s m h hn
    obtain ⟨m9, meth, c, hn9, h1, h2, h3, h4, -, h5, h6, -⟩ := Cond.codeWith_spec (atoms_spec (ws := ws) h _ (by rw [hw]; exact List.mem_cons_self))
    cases hn.symm.trans hn9
    exact ⟨meth, c, h1, h2, h3, h4, h5, h6⟩
  · intro p e s m args below meth c s₁ B hml hP _
    have hh0 : s₁.heap = s.heap := by rw [B.state]; rfl
    obtain ⟨t, a1, o, b1, b2, b3⟩ := body p e s m args below meth c s₁ B hml hP s₁ hh0 (Stand.of_body B)
    exact ⟨t, o, a1, b1, b2, b3⟩
/-! ===== END ===== -/
end
section
def RX0 : String := "AtelierBook"
def TX0 : u_T := fun k => match k with
  | 0 => ("AtelierBook", "pigmentCount", "I", false)
  | 1 => ("AtelierBook", "tubeCount", "I", false)
  | 2 => ("AtelierBook", "potCount", "I", false)
  | 3 => ("AtelierBook", "pictureCount", "I", false)
  | 4 => ("AtelierBook", "today", "I", false)
  | 5 => ("AtelierBook", "pigmentColours", "[I", true)
  | 6 => ("AtelierBook", "pigmentOfTube", "[I", true)
  | 7 => ("AtelierBook", "gramsInTube", "[I", true)
  | 8 => ("AtelierBook", "ledger", "[I", true)
  | 9 => ("AtelierBook", "layerCounts", "[I", true)
  | 10 => ("AtelierBook", "crackCounts", "[I", true)
  | 11 => ("AtelierBook", "latestPrices", "[I", true)
  | 12 => ("AtelierBook", "loanDays", "[I", true)
  | 13 => ("AtelierBook", "loanHouses", "[I", true)
  | 14 => ("AtelierBook", "loanCosts", "[I", true)
  | 15 => ("AtelierBook", "houseDamps", "[I", true)
  | _ => ("AtelierBook", "housePayments", "[I", true)
def tyX0 : Nat → FieldType := fun k => match k with
  | 0 => .int
  | 1 => .int
  | 2 => .int
  | 3 => .int
  | 4 => .int
  | 5 => .array .int
  | 6 => .array .int
  | 7 => .array .int
  | 8 => .array .int
  | 9 => .array .int
  | 10 => .array .int
  | 11 => .array .int
  | 12 => .array .int
  | 13 => .array .int
  | 14 => .array .int
  | 15 => .array .int
  | _ => .array .int
abbrev wsX00 : List Cond := u_ws RX0 TX0 17
theorem nmX0 : ∀ a, a < 17 → ∀ b, b < 17 → a ≠ b → (TX0 a).2.1 ≠ (TX0 b).2.1 := by decide +kernel
theorem tyX0_ok : ∀ k, k < 17 → parseFieldDescriptor (TX0 k).2.2.1 = some (tyX0 k) := by decide +kernel
abbrev cX0_init : ByteArray := prog_1_method_1_code
def yX0_init : MethodName := ⟨RX0, "<init>", "()V"⟩
abbrev cX0_pigment : ByteArray := prog_1_method_2_code
def yX0_pigment : MethodName := ⟨RX0, "pigment", "(III)I"⟩
abbrev cX0_tube : ByteArray := prog_1_method_3_code
def yX0_tube : MethodName := ⟨RX0, "tube", "(II)I"⟩
abbrev cX0_pot : ByteArray := prog_1_method_4_code
def yX0_pot : MethodName := ⟨RX0, "pot", "()I"⟩
abbrev cX0_squeeze : ByteArray := prog_1_method_5_code
def yX0_squeeze : MethodName := ⟨RX0, "squeeze", "(III)I"⟩
abbrev cX0_pour : ByteArray := prog_1_method_6_code
def yX0_pour : MethodName := ⟨RX0, "pour", "(III)I"⟩
abbrev cX0_scrape : ByteArray := prog_1_method_7_code
def yX0_scrape : MethodName := ⟨RX0, "scrape", "(I)I"⟩
abbrev cX0_picture : ByteArray := prog_1_method_8_code
def yX0_picture : MethodName := ⟨RX0, "picture", "()I"⟩
abbrev cX0_paint : ByteArray := prog_1_method_9_code
def yX0_paint : MethodName := ⟨RX0, "paint", "(III)I"⟩
abbrev cX0_clean : ByteArray := prog_1_method_10_code
def yX0_clean : MethodName := ⟨RX0, "clean", "(II)I"⟩
abbrev cX0_damp : ByteArray := prog_1_method_11_code
def yX0_damp : MethodName := ⟨RX0, "damp", "(II)I"⟩
abbrev cX0_lend : ByteArray := prog_1_method_12_code
def yX0_lend : MethodName := ⟨RX0, "lend", "(III)I"⟩
abbrev cX0_sell : ByteArray := prog_1_method_13_code
def yX0_sell : MethodName := ⟨RX0, "sell", "(II)I"⟩
abbrev cX0_pass : ByteArray := prog_1_method_14_code
def yX0_pass : MethodName := ⟨RX0, "pass", "(I)I"⟩
abbrev cX0_left : ByteArray := prog_1_method_15_code
def yX0_left : MethodName := ⟨RX0, "left", "(I)I"⟩
abbrev cX0_has : ByteArray := prog_1_method_16_code
def yX0_has : MethodName := ⟨RX0, "has", "(II)I"⟩
abbrev cX0_colour : ByteArray := prog_1_method_17_code
def yX0_colour : MethodName := ⟨RX0, "colour", "(II)I"⟩
abbrev cX0_of : ByteArray := prog_1_method_18_code
def yX0_of : MethodName := ⟨RX0, "of", "(II)I"⟩
abbrev cX0_layer : ByteArray := prog_1_method_19_code
def yX0_layer : MethodName := ⟨RX0, "layer", "(III)I"⟩
abbrev cX0_where : ByteArray := prog_1_method_20_code
def yX0_where : MethodName := ⟨RX0, "where", "(II)I"⟩
abbrev cX0_recipe : ByteArray := prog_1_method_21_code
def yX0_recipe : MethodName := ⟨RX0, "recipe", "(III)I"⟩
abbrev cX0_paid : ByteArray := prog_1_method_22_code
def yX0_paid : MethodName := ⟨RX0, "paid", "(I)I"⟩
abbrev cX0_checkNumber : ByteArray := prog_1_method_23_code
def yX0_checkNumber : MethodName := ⟨RX0, "checkNumber", "(II)V"⟩
abbrev cX0_checkRange : ByteArray := prog_1_method_24_code
def yX0_checkRange : MethodName := ⟨RX0, "checkRange", "(III)V"⟩
abbrev cX0_checkColour : ByteArray := prog_1_method_25_code
def yX0_checkColour : MethodName := ⟨RX0, "checkColour", "(III)V"⟩
abbrev cX0_checkAtHome : ByteArray := prog_1_method_26_code
def yX0_checkAtHome : MethodName := ⟨RX0, "checkAtHome", "(I)V"⟩
abbrev cX0_potRow : ByteArray := prog_1_method_27_code
def yX0_potRow : MethodName := ⟨RX0, "potRow", "(I)I"⟩
abbrev cX0_layerRow : ByteArray := prog_1_method_28_code
def yX0_layerRow : MethodName := ⟨RX0, "layerRow", "(II)I"⟩
abbrev cX0_place : ByteArray := prog_1_method_29_code
def yX0_place : MethodName := ⟨RX0, "place", "(II)I"⟩
abbrev cX0_sumOfRow : ByteArray := prog_1_method_30_code
def yX0_sumOfRow : MethodName := ⟨RX0, "sumOfRow", "(I)I"⟩
abbrev cX0_sumOfTube : ByteArray := prog_1_method_31_code
def yX0_sumOfTube : MethodName := ⟨RX0, "sumOfTube", "(III)I"⟩
abbrev cX0_move : ByteArray := prog_1_method_32_code
def yX0_move : MethodName := ⟨RX0, "move", "(III)Z"⟩
abbrev cX0_waste : ByteArray := prog_1_method_33_code
def yX0_waste : MethodName := ⟨RX0, "waste", "(I)I"⟩
abbrev cX0_colourOfTube : ByteArray := prog_1_method_34_code
def yX0_colourOfTube : MethodName := ⟨RX0, "colourOfTube", "(II)I"⟩
abbrev cX0_colourOfRow : ByteArray := prog_1_method_35_code
def yX0_colourOfRow : MethodName := ⟨RX0, "colourOfRow", "(II)I"⟩
abbrev cX0_gramsOfPigment : ByteArray := prog_1_method_36_code
def yX0_gramsOfPigment : MethodName := ⟨RX0, "gramsOfPigment", "(II)I"⟩
abbrev cX0_mainPigmentOfRow : ByteArray := prog_1_method_37_code
def yX0_mainPigmentOfRow : MethodName := ⟨RX0, "mainPigmentOfRow", "(I)I"⟩
abbrev cX0_mixed : ByteArray := prog_1_method_38_code
def yX0_mixed : MethodName := ⟨RX0, "mixed", "(IIII)I"⟩
abbrev cX0_square : ByteArray := prog_1_method_39_code
def yX0_square : MethodName := ⟨RX0, "square", "(I)I"⟩
abbrev cX0_isLent : ByteArray := prog_1_method_40_code
def yX0_isLent : MethodName := ⟨RX0, "isLent", "(I)Z"⟩
abbrev cX0_mainPigmentOf : ByteArray := prog_1_method_41_code
def yX0_mainPigmentOf : MethodName := ⟨RX0, "mainPigmentOf", "(I)I"⟩
abbrev cX0_lookOf : ByteArray := prog_1_method_42_code
def yX0_lookOf : MethodName := ⟨RX0, "lookOf", "(II)I"⟩
abbrev cX0_valueOf : ByteArray := prog_1_method_43_code
def yX0_valueOf : MethodName := ⟨RX0, "valueOf", "(I)I"⟩
abbrev cX0_averagePriceOfAlike : ByteArray := prog_1_method_44_code
def yX0_averagePriceOfAlike : MethodName := ⟨RX0, "averagePriceOfAlike", "(I)I"⟩
abbrev cX0_passForLoan : ByteArray := prog_1_method_45_code
def yX0_passForLoan : MethodName := ⟨RX0, "passForLoan", "(II)V"⟩
def RX1 : String := "AtelierBookModel"
def TX1 : u_T := fun k => match k with
  | 0 => ("AtelierBookModel", "thrown", "I", false)
  | 1 => ("AtelierBookModel", "pigments", "I", false)
  | 2 => ("AtelierBookModel", "shade", "[I", true)
  | 3 => ("AtelierBookModel", "tubes", "I", false)
  | 4 => ("AtelierBookModel", "pigmentOf", "[I", true)
  | 5 => ("AtelierBookModel", "left", "[I", true)
  | 6 => ("AtelierBookModel", "wasted", "[I", true)
  | 7 => ("AtelierBookModel", "pots", "I", false)
  | 8 => ("AtelierBookModel", "inPot", "[I", true)
  | 9 => ("AtelierBookModel", "pictures", "I", false)
  | 10 => ("AtelierBookModel", "layers", "[I", true)
  | 11 => ("AtelierBookModel", "inLayer", "[I", true)
  | 12 => ("AtelierBookModel", "cracks", "[I", true)
  | 13 => ("AtelierBookModel", "price", "[I", true)
  | 14 => ("AtelierBookModel", "house", "[I", true)
  | 15 => ("AtelierBookModel", "days", "[I", true)
  | 16 => ("AtelierBookModel", "cost", "[I", true)
  | 17 => ("AtelierBookModel", "damp", "[I", true)
  | 18 => ("AtelierBookModel", "paid", "[I", true)
  | 19 => ("AtelierBookModel", "today", "I", false)
  | 20 => ("AtelierBookModel", "flow", "[I", true)
  | _ => ("AtelierBookModel", "sums", "[I", true)
def tyX1 : Nat → FieldType := fun k => match k with
  | 0 => .int
  | 1 => .int
  | 2 => .array .int
  | 3 => .int
  | 4 => .array .int
  | 5 => .array .int
  | 6 => .array .int
  | 7 => .int
  | 8 => .array .int
  | 9 => .int
  | 10 => .array .int
  | 11 => .array .int
  | 12 => .array .int
  | 13 => .array .int
  | 14 => .array .int
  | 15 => .array .int
  | 16 => .array .int
  | 17 => .array .int
  | 18 => .array .int
  | 19 => .int
  | 20 => .array .int
  | _ => .array .int
abbrev wsX10 : List Cond := u_ws RX1 TX1 22
theorem nmX1 : ∀ a, a < 22 → ∀ b, b < 22 → a ≠ b → (TX1 a).2.1 ≠ (TX1 b).2.1 := by decide +kernel
theorem tyX1_ok : ∀ k, k < 22 → parseFieldDescriptor (TX1 k).2.2.1 = some (tyX1 k) := by decide +kernel
abbrev cX1_init : ByteArray := prog_3_method_1_code
def yX1_init : MethodName := ⟨RX1, "<init>", "()V"⟩
abbrev cX1_thrown : ByteArray := prog_3_method_2_code
def yX1_thrown : MethodName := ⟨RX1, "thrown", "()I"⟩
abbrev cX1_in : ByteArray := prog_3_method_3_code
def yX1_in : MethodName := ⟨RX1, "in", "(III)Z"⟩
abbrev cX1_areShades : ByteArray := prog_3_method_4_code
def yX1_areShades : MethodName := ⟨RX1, "areShades", "(III)Z"⟩
abbrev cX1_isTube : ByteArray := prog_3_method_5_code
def yX1_isTube : MethodName := ⟨RX1, "isTube", "(I)Z"⟩
abbrev cX1_isPot : ByteArray := prog_3_method_6_code
def yX1_isPot : MethodName := ⟨RX1, "isPot", "(I)Z"⟩
abbrev cX1_isPicture : ByteArray := prog_3_method_7_code
def yX1_isPicture : MethodName := ⟨RX1, "isPicture", "(I)Z"⟩
abbrev cX1_isHouse : ByteArray := prog_3_method_8_code
def yX1_isHouse : MethodName := ⟨RX1, "isHouse", "(I)Z"⟩
abbrev cX1_pigment : ByteArray := prog_3_method_9_code
def yX1_pigment : MethodName := ⟨RX1, "pigment", "(III)I"⟩
abbrev cX1_tube : ByteArray := prog_3_method_10_code
def yX1_tube : MethodName := ⟨RX1, "tube", "(II)I"⟩
abbrev cX1_pot : ByteArray := prog_3_method_11_code
def yX1_pot : MethodName := ⟨RX1, "pot", "()I"⟩
abbrev cX1_gramsOf : ByteArray := prog_3_method_12_code
def yX1_gramsOf : MethodName := ⟨RX1, "gramsOf", "(I)I"⟩
abbrev cX1_squeeze : ByteArray := prog_3_method_13_code
def yX1_squeeze : MethodName := ⟨RX1, "squeeze", "(III)I"⟩
abbrev cX1_flows : ByteArray := prog_3_method_14_code
def yX1_flows : MethodName := ⟨RX1, "flows", "(II)V"⟩
abbrev cX1_pour : ByteArray := prog_3_method_15_code
def yX1_pour : MethodName := ⟨RX1, "pour", "(III)I"⟩
abbrev cX1_scrape : ByteArray := prog_3_method_16_code
def yX1_scrape : MethodName := ⟨RX1, "scrape", "(I)I"⟩
abbrev cX1_picture : ByteArray := prog_3_method_17_code
def yX1_picture : MethodName := ⟨RX1, "picture", "()I"⟩
abbrev cX1_layerAt : ByteArray := prog_3_method_18_code
def yX1_layerAt : MethodName := ⟨RX1, "layerAt", "(II)I"⟩
abbrev cX1_paint : ByteArray := prog_3_method_19_code
def yX1_paint : MethodName := ⟨RX1, "paint", "(III)I"⟩
abbrev cX1_clean : ByteArray := prog_3_method_20_code
def yX1_clean : MethodName := ⟨RX1, "clean", "(II)I"⟩
abbrev cX1_main : ByteArray := prog_3_method_21_code
def yX1_main : MethodName := ⟨RX1, "main", "(I)I"⟩
abbrev cX1_look : ByteArray := prog_3_method_22_code
def yX1_look : MethodName := ⟨RX1, "look", "(II)I"⟩
abbrev cX1_value : ByteArray := prog_3_method_23_code
def yX1_value : MethodName := ⟨RX1, "value", "(I)I"⟩
abbrev cX1_damp : ByteArray := prog_3_method_24_code
def yX1_damp : MethodName := ⟨RX1, "damp", "(II)I"⟩
abbrev cX1_lend : ByteArray := prog_3_method_25_code
def yX1_lend : MethodName := ⟨RX1, "lend", "(III)I"⟩
abbrev cX1_sell : ByteArray := prog_3_method_26_code
def yX1_sell : MethodName := ⟨RX1, "sell", "(II)I"⟩
abbrev cX1_passOne : ByteArray := prog_3_method_27_code
def yX1_passOne : MethodName := ⟨RX1, "passOne", "()V"⟩
abbrev cX1_pass : ByteArray := prog_3_method_28_code
def yX1_pass : MethodName := ⟨RX1, "pass", "(I)I"⟩
abbrev cX1_left : ByteArray := prog_3_method_29_code
def yX1_left : MethodName := ⟨RX1, "left", "(I)I"⟩
abbrev cX1_has : ByteArray := prog_3_method_30_code
def yX1_has : MethodName := ⟨RX1, "has", "(II)I"⟩
abbrev cX1_colour : ByteArray := prog_3_method_31_code
def yX1_colour : MethodName := ⟨RX1, "colour", "(II)I"⟩
abbrev cX1_of : ByteArray := prog_3_method_32_code
def yX1_of : MethodName := ⟨RX1, "of", "(II)I"⟩
abbrev cX1_layer : ByteArray := prog_3_method_33_code
def yX1_layer : MethodName := ⟨RX1, "layer", "(III)I"⟩
abbrev cX1_onPictures : ByteArray := prog_3_method_34_code
def yX1_onPictures : MethodName := ⟨RX1, "onPictures", "(I)I"⟩
abbrev cX1_inPots : ByteArray := prog_3_method_35_code
def yX1_inPots : MethodName := ⟨RX1, "inPots", "(I)I"⟩
abbrev cX1_where : ByteArray := prog_3_method_36_code
def yX1_where : MethodName := ⟨RX1, "where", "(II)I"⟩
abbrev cX1_far : ByteArray := prog_3_method_37_code
def yX1_far : MethodName := ⟨RX1, "far", "(IIIII)I"⟩
abbrev cX1_recipe : ByteArray := prog_3_method_38_code
def yX1_recipe : MethodName := ⟨RX1, "recipe", "(III)I"⟩
abbrev cX1_paid : ByteArray := prog_3_method_39_code
def yX1_paid : MethodName := ⟨RX1, "paid", "(I)I"⟩
def RJ9 : String := "java/lang/Math"
def TJ9 : u_T := fun k => match k with
  | _ => ("", "", "", false)
def tyJ9 : Nat → FieldType := fun k => match k with
  | _ => .int
abbrev wsJ90 : List Cond := u_ws RJ9 TJ9 0
theorem nmJ9 : ∀ a, a < 0 → ∀ b, b < 0 → a ≠ b → (TJ9 a).2.1 ≠ (TJ9 b).2.1 := by decide +kernel
theorem tyJ9_ok : ∀ k, k < 0 → parseFieldDescriptor (TJ9 k).2.2.1 = some (tyJ9 k) := by decide +kernel
abbrev cJ9_abs_0f7a4 : ByteArray := prog_8_method_59_code
def yJ9_abs_0f7a4 : MethodName := ⟨RJ9, "abs", "(I)I"⟩
abbrev cJ9_max_7cf53 : ByteArray := prog_8_method_65_code
def yJ9_max_7cf53 : MethodName := ⟨RJ9, "max", "(II)I"⟩
abbrev cJ9_min_7cf53 : ByteArray := prog_8_method_69_code
def yJ9_min_7cf53 : MethodName := ⟨RJ9, "min", "(II)I"⟩
def RJ0 : String := "java/lang/String"
def TJ0 : u_T := fun k => match k with
  | _ => ("", "", "", false)
def tyJ0 : Nat → FieldType := fun k => match k with
  | _ => .int
abbrev wsJ00 : List Cond := u_ws RJ0 TJ0 0
theorem nmJ0 : ∀ a, a < 0 → ∀ b, b < 0 → a ≠ b → (TJ0 a).2.1 ≠ (TJ0 b).2.1 := by decide +kernel
theorem tyJ0_ok : ∀ k, k < 0 → parseFieldDescriptor (TJ0 k).2.2.1 = some (tyJ0 k) := by decide +kernel
def RL : String := "AtelierBookLaw"
abbrev cL_pigment : ByteArray := method_3_code
def yL_pigment : MethodName := ⟨RL, "pigment", "(LAtelierBook;III[J)I"⟩
abbrev cL_tube : ByteArray := method_4_code
def yL_tube : MethodName := ⟨RL, "tube", "(LAtelierBook;II[J)I"⟩
abbrev cL_pot : ByteArray := method_5_code
def yL_pot : MethodName := ⟨RL, "pot", "(LAtelierBook;[J)I"⟩
abbrev cL_squeeze : ByteArray := method_6_code
def yL_squeeze : MethodName := ⟨RL, "squeeze", "(LAtelierBook;III[J)I"⟩
abbrev cL_pour : ByteArray := method_7_code
def yL_pour : MethodName := ⟨RL, "pour", "(LAtelierBook;III[J)I"⟩
abbrev cL_scrape : ByteArray := method_8_code
def yL_scrape : MethodName := ⟨RL, "scrape", "(LAtelierBook;I[J)I"⟩
abbrev cL_picture : ByteArray := method_9_code
def yL_picture : MethodName := ⟨RL, "picture", "(LAtelierBook;[J)I"⟩
abbrev cL_paint : ByteArray := method_10_code
def yL_paint : MethodName := ⟨RL, "paint", "(LAtelierBook;III[J)I"⟩
abbrev cL_clean : ByteArray := method_11_code
def yL_clean : MethodName := ⟨RL, "clean", "(LAtelierBook;II[J)I"⟩
abbrev cL_damp : ByteArray := method_12_code
def yL_damp : MethodName := ⟨RL, "damp", "(LAtelierBook;II[J)I"⟩
abbrev cL_lend : ByteArray := method_13_code
def yL_lend : MethodName := ⟨RL, "lend", "(LAtelierBook;III[J)I"⟩
abbrev cL_sell : ByteArray := method_14_code
def yL_sell : MethodName := ⟨RL, "sell", "(LAtelierBook;II[J)I"⟩
abbrev cL_pass : ByteArray := method_15_code
def yL_pass : MethodName := ⟨RL, "pass", "(LAtelierBook;I[J)I"⟩
abbrev cL_left : ByteArray := method_16_code
def yL_left : MethodName := ⟨RL, "left", "(LAtelierBook;I[J)I"⟩
abbrev cL_has : ByteArray := method_17_code
def yL_has : MethodName := ⟨RL, "has", "(LAtelierBook;II[J)I"⟩
abbrev cL_colour : ByteArray := method_18_code
def yL_colour : MethodName := ⟨RL, "colour", "(LAtelierBook;II[J)I"⟩
abbrev cL_of : ByteArray := method_19_code
def yL_of : MethodName := ⟨RL, "of", "(LAtelierBook;II[J)I"⟩
abbrev cL_layer : ByteArray := method_20_code
def yL_layer : MethodName := ⟨RL, "layer", "(LAtelierBook;III[J)I"⟩
abbrev cL_where : ByteArray := method_21_code
def yL_where : MethodName := ⟨RL, "where", "(LAtelierBook;II[J)I"⟩
abbrev cL_recipe : ByteArray := method_22_code
def yL_recipe : MethodName := ⟨RL, "recipe", "(LAtelierBook;III[J)I"⟩
abbrev cL_paid : ByteArray := method_23_code
def yL_paid : MethodName := ⟨RL, "paid", "(LAtelierBook;I[J)I"⟩
abbrev cL_law : ByteArray := code
def yL_law : MethodName := ⟨RL, "law", "([I)Z"⟩
def wsX0_init : List Cond := .code yX0_init cX0_init 2 none :: ([.methodLink RX0 3 objectInit, .instanceMethod objectInit, .code objectInit ⟨#[0xb1]⟩ 1 none, .arrayClass .int, .fieldLink RX0 9 "AtelierBook" "pigmentColours" "[I", .fieldLink RX0 13 "AtelierBook" "pigmentOfTube" "[I", .fieldLink RX0 16 "AtelierBook" "gramsInTube" "[I", .fieldLink RX0 19 "AtelierBook" "ledger" "[I", .fieldLink RX0 22 "AtelierBook" "layerCounts" "[I", .fieldLink RX0 25 "AtelierBook" "crackCounts" "[I", .fieldLink RX0 28 "AtelierBook" "latestPrices" "[I", .fieldLink RX0 31 "AtelierBook" "loanDays" "[I", .fieldLink RX0 34 "AtelierBook" "loanHouses" "[I", .fieldLink RX0 37 "AtelierBook" "loanCosts" "[I", .fieldLink RX0 40 "AtelierBook" "houseDamps" "[I", .fieldLink RX0 43 "AtelierBook" "housePayments" "[I"] ++ wsX00)
def wsX0_checkRange : List Cond := .code yX0_checkRange cX0_checkRange 3 none :: ([.classLink RX0 88 "java/lang/IllegalArgumentException", .initialized "java/lang/IllegalArgumentException"] ++ (vx_atS RX0 92 "java/lang/IllegalArgumentException" ["java/lang/RuntimeException", "java/lang/Exception"]).filter goodWord)
def wsX0_checkColour : List Cond := .code yX0_checkColour cX0_checkColour 3 none :: ([.methodLink RX0 65 yX0_checkRange, .static yX0_checkRange, .initialized RX0, .code yX0_checkRange cX0_checkRange 3 none, .classLink RX0 88 "java/lang/IllegalArgumentException", .initialized "java/lang/IllegalArgumentException"] ++ (vx_atS RX0 92 "java/lang/IllegalArgumentException" ["java/lang/RuntimeException", "java/lang/Exception"]).filter goodWord)
def wsX0_pigment : List Cond := .code yX0_pigment cX0_pigment 5 (some .int) :: ([.classLink RX0 54 "java/lang/IllegalStateException", .initialized "java/lang/IllegalStateException", .fieldLink RX0 50 "AtelierBook" "pigmentCount" "I", .fieldLink RX0 9 "AtelierBook" "pigmentColours" "[I", .methodLink RX0 46 yX0_checkColour, .static yX0_checkColour, .initialized RX0, .code yX0_checkColour cX0_checkColour 3 none, .methodLink RX0 65 yX0_checkRange, .static yX0_checkRange, .code yX0_checkRange cX0_checkRange 3 none, .classLink RX0 88 "java/lang/IllegalArgumentException", .initialized "java/lang/IllegalArgumentException"] ++ wsX00 ++ (vx_atS RX0 58 "java/lang/IllegalStateException" ["java/lang/RuntimeException", "java/lang/Exception"]).filter goodWord ++ (vx_atS RX0 92 "java/lang/IllegalArgumentException" ["java/lang/RuntimeException", "java/lang/Exception"]).filter goodWord)
def wsX0_checkNumber : List Cond := .code yX0_checkNumber cX0_checkNumber 2 none :: ([.classLink RX0 161 "java/lang/IndexOutOfBoundsException", .initialized "java/lang/IndexOutOfBoundsException"] ++ (vx_atS RX0 165 "java/lang/IndexOutOfBoundsException" ["java/lang/RuntimeException", "java/lang/Exception"]).filter goodWord)
def wsX0_tube : List Cond := .code yX0_tube cX0_tube 3 (some .int) :: ([.classLink RX0 54 "java/lang/IllegalStateException", .initialized "java/lang/IllegalStateException", .fieldLink RX0 50 "AtelierBook" "pigmentCount" "I", .fieldLink RX0 68 "AtelierBook" "tubeCount" "I", .fieldLink RX0 13 "AtelierBook" "pigmentOfTube" "[I", .fieldLink RX0 16 "AtelierBook" "gramsInTube" "[I", .methodLink RX0 61 yX0_checkNumber, .static yX0_checkNumber, .initialized RX0, .code yX0_checkNumber cX0_checkNumber 2 none, .classLink RX0 161 "java/lang/IndexOutOfBoundsException", .initialized "java/lang/IndexOutOfBoundsException", .methodLink RX0 65 yX0_checkRange, .static yX0_checkRange, .code yX0_checkRange cX0_checkRange 3 none, .classLink RX0 88 "java/lang/IllegalArgumentException", .initialized "java/lang/IllegalArgumentException"] ++ wsX00 ++ (vx_atS RX0 58 "java/lang/IllegalStateException" ["java/lang/RuntimeException", "java/lang/Exception"]).filter goodWord ++ (vx_atS RX0 165 "java/lang/IndexOutOfBoundsException" ["java/lang/RuntimeException", "java/lang/Exception"]).filter goodWord ++ (vx_atS RX0 92 "java/lang/IllegalArgumentException" ["java/lang/RuntimeException", "java/lang/Exception"]).filter goodWord)
def wsX0_pot : List Cond := .code yX0_pot cX0_pot 1 (some .int) :: ([.classLink RX0 54 "java/lang/IllegalStateException", .initialized "java/lang/IllegalStateException", .fieldLink RX0 73 "AtelierBook" "potCount" "I"] ++ wsX00 ++ (vx_atS RX0 58 "java/lang/IllegalStateException" ["java/lang/RuntimeException", "java/lang/Exception"]).filter goodWord)
def wsX0_potRow : List Cond := .code yX0_potRow cX0_potRow 1 (some .int) :: ([])
def wsX0_place : List Cond := .code yX0_place cX0_place 2 (some .int) :: ([])
def wsX0_squeeze : List Cond := .code yX0_squeeze cX0_squeeze 4 (some .int) :: ([.classLink RX0 54 "java/lang/IllegalStateException", .initialized "java/lang/IllegalStateException", .fieldLink RX0 73 "AtelierBook" "potCount" "I", .fieldLink RX0 68 "AtelierBook" "tubeCount" "I", .fieldLink RX0 16 "AtelierBook" "gramsInTube" "[I", .fieldLink RX0 19 "AtelierBook" "ledger" "[I", .methodLink RX0 61 yX0_checkNumber, .static yX0_checkNumber, .initialized RX0, .code yX0_checkNumber cX0_checkNumber 2 none, .classLink RX0 161 "java/lang/IndexOutOfBoundsException", .initialized "java/lang/IndexOutOfBoundsException", .methodLink RX0 65 yX0_checkRange, .static yX0_checkRange, .code yX0_checkRange cX0_checkRange 3 none, .classLink RX0 88 "java/lang/IllegalArgumentException", .initialized "java/lang/IllegalArgumentException", .methodLink RX0 80 yX0_potRow, .static yX0_potRow, .code yX0_potRow cX0_potRow 1 (some .int), .methodLink RX0 84 yX0_place, .static yX0_place, .code yX0_place cX0_place 2 (some .int)] ++ wsX00 ++ (vx_atS RX0 58 "java/lang/IllegalStateException" ["java/lang/RuntimeException", "java/lang/Exception"]).filter goodWord ++ (vx_atS RX0 165 "java/lang/IndexOutOfBoundsException" ["java/lang/RuntimeException", "java/lang/Exception"]).filter goodWord ++ (vx_atS RX0 92 "java/lang/IllegalArgumentException" ["java/lang/RuntimeException", "java/lang/Exception"]).filter goodWord)
def wsX0_sumOfRow : List Cond := .code yX0_sumOfRow cX0_sumOfRow 4 (some .int) :: ([.fieldLink RX0 68 "AtelierBook" "tubeCount" "I", .fieldLink RX0 19 "AtelierBook" "ledger" "[I", .methodLink RX0 84 yX0_place, .static yX0_place, .initialized RX0, .code yX0_place cX0_place 2 (some .int)] ++ wsX00)
def wsX0_move : List Cond := .code yX0_move cX0_move 9 (some .boolean) :: ([.fieldLink RX0 68 "AtelierBook" "tubeCount" "I", .fieldLink RX0 19 "AtelierBook" "ledger" "[I", .methodLink RX0 99 yX0_sumOfRow, .instanceMethod yX0_sumOfRow, .selects RX0 yX0_sumOfRow yX0_sumOfRow, .initialized RX0, .code yX0_sumOfRow cX0_sumOfRow 4 (some .int), .methodLink RX0 84 yX0_place, .static yX0_place, .code yX0_place cX0_place 2 (some .int)] ++ wsX00)
def wsX0_pour_r1 : List Cond := [Cond.classLink RX0 88 "java/lang/IllegalArgumentException", Cond.initialized "java/lang/IllegalArgumentException", Cond.classLink RX0 54 "java/lang/IllegalStateException", Cond.initialized "java/lang/IllegalStateException", Cond.fieldLink RX0 73 "AtelierBook" "potCount" "I", Cond.methodLink RX0 61 yX0_checkNumber, Cond.static yX0_checkNumber, Cond.initialized RX0, Cond.code yX0_checkNumber cX0_checkNumber 2 none, Cond.classLink RX0 161 "java/lang/IndexOutOfBoundsException", Cond.initialized "java/lang/IndexOutOfBoundsException", Cond.methodLink RX0 65 yX0_checkRange, Cond.static yX0_checkRange, Cond.code yX0_checkRange cX0_checkRange 3 none, Cond.methodLink RX0 80 yX0_potRow, Cond.static yX0_potRow, Cond.code yX0_potRow cX0_potRow 1 (some .int), Cond.methodLink RX0 93 yX0_move, Cond.instanceMethod yX0_move, Cond.selects RX0 yX0_move yX0_move, Cond.code yX0_move cX0_move 9 (some .boolean), Cond.fieldLink RX0 68 "AtelierBook" "tubeCount" "I", Cond.fieldLink RX0 19 "AtelierBook" "ledger" "[I", Cond.methodLink RX0 99 yX0_sumOfRow]
def wsX0_pour_r2 : List Cond := [Cond.instanceMethod yX0_sumOfRow, Cond.selects RX0 yX0_sumOfRow yX0_sumOfRow, Cond.code yX0_sumOfRow cX0_sumOfRow 4 (some .int), Cond.methodLink RX0 84 yX0_place, Cond.static yX0_place, Cond.code yX0_place cX0_place 2 (some .int)]
def wsX0_pour : List Cond := .code yX0_pour cX0_pour 4 (some .int) :: ((wsX0_pour_r1 ++ wsX0_pour_r2) ++ wsX00 ++ (vx_atS RX0 92 "java/lang/IllegalArgumentException" ["java/lang/RuntimeException", "java/lang/Exception"]).filter goodWord ++ (vx_atS RX0 58 "java/lang/IllegalStateException" ["java/lang/RuntimeException", "java/lang/Exception"]).filter goodWord ++ (vx_atS RX0 165 "java/lang/IndexOutOfBoundsException" ["java/lang/RuntimeException", "java/lang/Exception"]).filter goodWord)
def wsX0_waste : List Cond := .code yX0_waste cX0_waste 5 (some .int) :: ([.fieldLink RX0 68 "AtelierBook" "tubeCount" "I", .fieldLink RX0 19 "AtelierBook" "ledger" "[I", .methodLink RX0 84 yX0_place, .static yX0_place, .initialized RX0, .code yX0_place cX0_place 2 (some .int)] ++ wsX00)
def wsX0_scrape : List Cond := .code yX0_scrape cX0_scrape 2 (some .int) :: ([.fieldLink RX0 73 "AtelierBook" "potCount" "I", .methodLink RX0 61 yX0_checkNumber, .static yX0_checkNumber, .initialized RX0, .code yX0_checkNumber cX0_checkNumber 2 none, .classLink RX0 161 "java/lang/IndexOutOfBoundsException", .initialized "java/lang/IndexOutOfBoundsException", .methodLink RX0 80 yX0_potRow, .static yX0_potRow, .code yX0_potRow cX0_potRow 1 (some .int), .methodLink RX0 102 yX0_waste, .instanceMethod yX0_waste, .selects RX0 yX0_waste yX0_waste, .code yX0_waste cX0_waste 5 (some .int), .fieldLink RX0 68 "AtelierBook" "tubeCount" "I", .fieldLink RX0 19 "AtelierBook" "ledger" "[I", .methodLink RX0 84 yX0_place, .static yX0_place, .code yX0_place cX0_place 2 (some .int)] ++ wsX00 ++ (vx_atS RX0 165 "java/lang/IndexOutOfBoundsException" ["java/lang/RuntimeException", "java/lang/Exception"]).filter goodWord)
def wsX0_picture : List Cond := .code yX0_picture cX0_picture 1 (some .int) :: ([.classLink RX0 54 "java/lang/IllegalStateException", .initialized "java/lang/IllegalStateException", .fieldLink RX0 105 "AtelierBook" "pictureCount" "I"] ++ wsX00 ++ (vx_atS RX0 58 "java/lang/IllegalStateException" ["java/lang/RuntimeException", "java/lang/Exception"]).filter goodWord)
def wsX0_isLent : List Cond := .code yX0_isLent cX0_isLent 2 (some .boolean) :: ([.fieldLink RX0 31 "AtelierBook" "loanDays" "[I"] ++ wsX00)
def wsX0_checkAtHome : List Cond := .code yX0_checkAtHome cX0_checkAtHome 2 none :: ([.classLink RX0 54 "java/lang/IllegalStateException", .initialized "java/lang/IllegalStateException", .methodLink RX0 143 yX0_isLent, .instanceMethod yX0_isLent, .selects RX0 yX0_isLent yX0_isLent, .initialized RX0, .code yX0_isLent cX0_isLent 2 (some .boolean), .fieldLink RX0 31 "AtelierBook" "loanDays" "[I"] ++ wsX00 ++ (vx_atS RX0 58 "java/lang/IllegalStateException" ["java/lang/RuntimeException", "java/lang/Exception"]).filter goodWord)
def wsX0_layerRow : List Cond := .code yX0_layerRow cX0_layerRow 2 (some .int) :: ([])
def wsX0_paint_r1 : List Cond := [Cond.classLink RX0 54 "java/lang/IllegalStateException", Cond.initialized "java/lang/IllegalStateException", Cond.fieldLink RX0 105 "AtelierBook" "pictureCount" "I", Cond.fieldLink RX0 73 "AtelierBook" "potCount" "I", Cond.fieldLink RX0 22 "AtelierBook" "layerCounts" "[I", Cond.methodLink RX0 61 yX0_checkNumber, Cond.static yX0_checkNumber, Cond.initialized RX0, Cond.code yX0_checkNumber cX0_checkNumber 2 none, Cond.classLink RX0 161 "java/lang/IndexOutOfBoundsException", Cond.initialized "java/lang/IndexOutOfBoundsException", Cond.methodLink RX0 65 yX0_checkRange, Cond.static yX0_checkRange, Cond.code yX0_checkRange cX0_checkRange 3 none, Cond.classLink RX0 88 "java/lang/IllegalArgumentException", Cond.initialized "java/lang/IllegalArgumentException", Cond.methodLink RX0 110 yX0_checkAtHome, Cond.instanceMethod yX0_checkAtHome, Cond.selects RX0 yX0_checkAtHome yX0_checkAtHome, Cond.code yX0_checkAtHome cX0_checkAtHome 2 none, Cond.methodLink RX0 143 yX0_isLent, Cond.instanceMethod yX0_isLent, Cond.selects RX0 yX0_isLent yX0_isLent, Cond.code yX0_isLent cX0_isLent 2 (some .boolean)]
def wsX0_paint_r2 : List Cond := [Cond.fieldLink RX0 31 "AtelierBook" "loanDays" "[I", Cond.methodLink RX0 80 yX0_potRow, Cond.static yX0_potRow, Cond.code yX0_potRow cX0_potRow 1 (some .int), Cond.methodLink RX0 116 yX0_layerRow, Cond.static yX0_layerRow, Cond.code yX0_layerRow cX0_layerRow 2 (some .int), Cond.methodLink RX0 93 yX0_move, Cond.instanceMethod yX0_move, Cond.selects RX0 yX0_move yX0_move, Cond.code yX0_move cX0_move 9 (some .boolean), Cond.fieldLink RX0 68 "AtelierBook" "tubeCount" "I", Cond.fieldLink RX0 19 "AtelierBook" "ledger" "[I", Cond.methodLink RX0 99 yX0_sumOfRow, Cond.instanceMethod yX0_sumOfRow, Cond.selects RX0 yX0_sumOfRow yX0_sumOfRow, Cond.code yX0_sumOfRow cX0_sumOfRow 4 (some .int), Cond.methodLink RX0 84 yX0_place, Cond.static yX0_place, Cond.code yX0_place cX0_place 2 (some .int)]
def wsX0_paint : List Cond := .code yX0_paint cX0_paint 4 (some .int) :: ((wsX0_paint_r1 ++ wsX0_paint_r2) ++ wsX00 ++ (vx_atS RX0 58 "java/lang/IllegalStateException" ["java/lang/RuntimeException", "java/lang/Exception"]).filter goodWord ++ (vx_atS RX0 165 "java/lang/IndexOutOfBoundsException" ["java/lang/RuntimeException", "java/lang/Exception"]).filter goodWord ++ (vx_atS RX0 92 "java/lang/IllegalArgumentException" ["java/lang/RuntimeException", "java/lang/Exception"]).filter goodWord)
def wsX0_clean_r1 : List Cond := [Cond.classLink RX0 54 "java/lang/IllegalStateException", Cond.initialized "java/lang/IllegalStateException", Cond.fieldLink RX0 105 "AtelierBook" "pictureCount" "I", Cond.fieldLink RX0 22 "AtelierBook" "layerCounts" "[I", Cond.methodLink RX0 61 yX0_checkNumber, Cond.static yX0_checkNumber, Cond.initialized RX0, Cond.code yX0_checkNumber cX0_checkNumber 2 none, Cond.classLink RX0 161 "java/lang/IndexOutOfBoundsException", Cond.initialized "java/lang/IndexOutOfBoundsException", Cond.methodLink RX0 65 yX0_checkRange, Cond.static yX0_checkRange, Cond.code yX0_checkRange cX0_checkRange 3 none, Cond.classLink RX0 88 "java/lang/IllegalArgumentException", Cond.initialized "java/lang/IllegalArgumentException", Cond.methodLink RX0 110 yX0_checkAtHome, Cond.instanceMethod yX0_checkAtHome, Cond.selects RX0 yX0_checkAtHome yX0_checkAtHome, Cond.code yX0_checkAtHome cX0_checkAtHome 2 none, Cond.methodLink RX0 143 yX0_isLent, Cond.instanceMethod yX0_isLent, Cond.selects RX0 yX0_isLent yX0_isLent, Cond.code yX0_isLent cX0_isLent 2 (some .boolean), Cond.fieldLink RX0 31 "AtelierBook" "loanDays" "[I"]
def wsX0_clean_r2 : List Cond := [Cond.methodLink RX0 116 yX0_layerRow, Cond.static yX0_layerRow, Cond.code yX0_layerRow cX0_layerRow 2 (some .int), Cond.methodLink RX0 102 yX0_waste, Cond.instanceMethod yX0_waste, Cond.selects RX0 yX0_waste yX0_waste, Cond.code yX0_waste cX0_waste 5 (some .int), Cond.fieldLink RX0 68 "AtelierBook" "tubeCount" "I", Cond.fieldLink RX0 19 "AtelierBook" "ledger" "[I", Cond.methodLink RX0 84 yX0_place, Cond.static yX0_place, Cond.code yX0_place cX0_place 2 (some .int)]
def wsX0_clean : List Cond := .code yX0_clean cX0_clean 5 (some .int) :: ((wsX0_clean_r1 ++ wsX0_clean_r2) ++ wsX00 ++ (vx_atS RX0 58 "java/lang/IllegalStateException" ["java/lang/RuntimeException", "java/lang/Exception"]).filter goodWord ++ (vx_atS RX0 165 "java/lang/IndexOutOfBoundsException" ["java/lang/RuntimeException", "java/lang/Exception"]).filter goodWord ++ (vx_atS RX0 92 "java/lang/IllegalArgumentException" ["java/lang/RuntimeException", "java/lang/Exception"]).filter goodWord)
def wsX0_damp : List Cond := .code yX0_damp cX0_damp 4 (some .int) :: ([.fieldLink RX0 40 "AtelierBook" "houseDamps" "[I", .methodLink RX0 61 yX0_checkNumber, .static yX0_checkNumber, .initialized RX0, .code yX0_checkNumber cX0_checkNumber 2 none, .classLink RX0 161 "java/lang/IndexOutOfBoundsException", .initialized "java/lang/IndexOutOfBoundsException", .methodLink RX0 65 yX0_checkRange, .static yX0_checkRange, .code yX0_checkRange cX0_checkRange 3 none, .classLink RX0 88 "java/lang/IllegalArgumentException", .initialized "java/lang/IllegalArgumentException"] ++ wsX00 ++ (vx_atS RX0 165 "java/lang/IndexOutOfBoundsException" ["java/lang/RuntimeException", "java/lang/Exception"]).filter goodWord ++ (vx_atS RX0 92 "java/lang/IllegalArgumentException" ["java/lang/RuntimeException", "java/lang/Exception"]).filter goodWord)
def wsX0_gramsOfPigment : List Cond := .code yX0_gramsOfPigment cX0_gramsOfPigment 5 (some .int) :: ([.fieldLink RX0 68 "AtelierBook" "tubeCount" "I", .fieldLink RX0 13 "AtelierBook" "pigmentOfTube" "[I", .fieldLink RX0 19 "AtelierBook" "ledger" "[I", .methodLink RX0 84 yX0_place, .static yX0_place, .initialized RX0, .code yX0_place cX0_place 2 (some .int)] ++ wsX00)
def wsX0_mainPigmentOfRow : List Cond := .code yX0_mainPigmentOfRow cX0_mainPigmentOfRow 6 (some .int) :: ([.fieldLink RX0 50 "AtelierBook" "pigmentCount" "I", .methodLink RX0 173 yX0_gramsOfPigment, .instanceMethod yX0_gramsOfPigment, .selects RX0 yX0_gramsOfPigment yX0_gramsOfPigment, .initialized RX0, .code yX0_gramsOfPigment cX0_gramsOfPigment 5 (some .int), .fieldLink RX0 68 "AtelierBook" "tubeCount" "I", .fieldLink RX0 13 "AtelierBook" "pigmentOfTube" "[I", .fieldLink RX0 19 "AtelierBook" "ledger" "[I", .methodLink RX0 84 yX0_place, .static yX0_place, .code yX0_place cX0_place 2 (some .int)] ++ wsX00)
def wsX0_mainPigmentOf : List Cond := .code yX0_mainPigmentOf cX0_mainPigmentOf 3 (some .int) :: ([.fieldLink RX0 22 "AtelierBook" "layerCounts" "[I", .methodLink RX0 116 yX0_layerRow, .static yX0_layerRow, .initialized RX0, .code yX0_layerRow cX0_layerRow 2 (some .int), .methodLink RX0 176 yX0_mainPigmentOfRow, .instanceMethod yX0_mainPigmentOfRow, .selects RX0 yX0_mainPigmentOfRow yX0_mainPigmentOfRow, .code yX0_mainPigmentOfRow cX0_mainPigmentOfRow 6 (some .int), .fieldLink RX0 50 "AtelierBook" "pigmentCount" "I", .methodLink RX0 173 yX0_gramsOfPigment, .instanceMethod yX0_gramsOfPigment, .selects RX0 yX0_gramsOfPigment yX0_gramsOfPigment, .code yX0_gramsOfPigment cX0_gramsOfPigment 5 (some .int), .fieldLink RX0 68 "AtelierBook" "tubeCount" "I", .fieldLink RX0 13 "AtelierBook" "pigmentOfTube" "[I", .fieldLink RX0 19 "AtelierBook" "ledger" "[I", .methodLink RX0 84 yX0_place, .static yX0_place, .code yX0_place cX0_place 2 (some .int)] ++ wsX00)
def wsX0_averagePriceOfAlike_r1 : List Cond := [Cond.fieldLink RX0 105 "AtelierBook" "pictureCount" "I", Cond.fieldLink RX0 28 "AtelierBook" "latestPrices" "[I", Cond.methodLink RX0 140 yX0_mainPigmentOf, Cond.instanceMethod yX0_mainPigmentOf, Cond.selects RX0 yX0_mainPigmentOf yX0_mainPigmentOf, Cond.initialized RX0, Cond.code yX0_mainPigmentOf cX0_mainPigmentOf 3 (some .int), Cond.fieldLink RX0 22 "AtelierBook" "layerCounts" "[I", Cond.methodLink RX0 116 yX0_layerRow, Cond.static yX0_layerRow, Cond.code yX0_layerRow cX0_layerRow 2 (some .int), Cond.methodLink RX0 176 yX0_mainPigmentOfRow, Cond.instanceMethod yX0_mainPigmentOfRow, Cond.selects RX0 yX0_mainPigmentOfRow yX0_mainPigmentOfRow, Cond.code yX0_mainPigmentOfRow cX0_mainPigmentOfRow 6 (some .int), Cond.fieldLink RX0 50 "AtelierBook" "pigmentCount" "I", Cond.methodLink RX0 173 yX0_gramsOfPigment, Cond.instanceMethod yX0_gramsOfPigment, Cond.selects RX0 yX0_gramsOfPigment yX0_gramsOfPigment, Cond.code yX0_gramsOfPigment cX0_gramsOfPigment 5 (some .int), Cond.fieldLink RX0 68 "AtelierBook" "tubeCount" "I", Cond.fieldLink RX0 13 "AtelierBook" "pigmentOfTube" "[I", Cond.fieldLink RX0 19 "AtelierBook" "ledger" "[I", Cond.methodLink RX0 84 yX0_place]
def wsX0_averagePriceOfAlike_r2 : List Cond := [Cond.static yX0_place, Cond.code yX0_place cX0_place 2 (some .int)]
def wsX0_averagePriceOfAlike : List Cond := .code yX0_averagePriceOfAlike cX0_averagePriceOfAlike 6 (some .int) :: ((wsX0_averagePriceOfAlike_r1 ++ wsX0_averagePriceOfAlike_r2) ++ wsX00)
def wsX0_valueOf_r1 : List Cond := [Cond.fieldLink RX0 25 "AtelierBook" "crackCounts" "[I", Cond.methodLink RX0 182 Lib.Math.max.name, Cond.static Lib.Math.max.name, Cond.initialized "java/lang/Math", Cond.code Lib.Math.max.name Lib.Math.max.code 2 (some .int), Cond.methodLink RX0 179 yX0_averagePriceOfAlike, Cond.instanceMethod yX0_averagePriceOfAlike, Cond.selects RX0 yX0_averagePriceOfAlike yX0_averagePriceOfAlike, Cond.initialized RX0, Cond.code yX0_averagePriceOfAlike cX0_averagePriceOfAlike 6 (some .int), Cond.fieldLink RX0 105 "AtelierBook" "pictureCount" "I", Cond.fieldLink RX0 28 "AtelierBook" "latestPrices" "[I", Cond.methodLink RX0 140 yX0_mainPigmentOf, Cond.instanceMethod yX0_mainPigmentOf, Cond.selects RX0 yX0_mainPigmentOf yX0_mainPigmentOf, Cond.code yX0_mainPigmentOf cX0_mainPigmentOf 3 (some .int), Cond.fieldLink RX0 22 "AtelierBook" "layerCounts" "[I", Cond.methodLink RX0 116 yX0_layerRow, Cond.static yX0_layerRow, Cond.code yX0_layerRow cX0_layerRow 2 (some .int), Cond.methodLink RX0 176 yX0_mainPigmentOfRow, Cond.instanceMethod yX0_mainPigmentOfRow, Cond.selects RX0 yX0_mainPigmentOfRow yX0_mainPigmentOfRow, Cond.code yX0_mainPigmentOfRow cX0_mainPigmentOfRow 6 (some .int)]
def wsX0_valueOf_r2 : List Cond := [Cond.fieldLink RX0 50 "AtelierBook" "pigmentCount" "I", Cond.methodLink RX0 173 yX0_gramsOfPigment, Cond.instanceMethod yX0_gramsOfPigment, Cond.selects RX0 yX0_gramsOfPigment yX0_gramsOfPigment, Cond.code yX0_gramsOfPigment cX0_gramsOfPigment 5 (some .int), Cond.fieldLink RX0 68 "AtelierBook" "tubeCount" "I", Cond.fieldLink RX0 13 "AtelierBook" "pigmentOfTube" "[I", Cond.fieldLink RX0 19 "AtelierBook" "ledger" "[I", Cond.methodLink RX0 84 yX0_place, Cond.static yX0_place, Cond.code yX0_place cX0_place 2 (some .int)]
def wsX0_valueOf : List Cond := .code yX0_valueOf cX0_valueOf 3 (some .int) :: ((wsX0_valueOf_r1 ++ wsX0_valueOf_r2) ++ wsX00)
def wsX0_lend_r1 : List Cond := [Cond.classLink RX0 54 "java/lang/IllegalStateException", Cond.initialized "java/lang/IllegalStateException", Cond.fieldLink RX0 105 "AtelierBook" "pictureCount" "I", Cond.fieldLink RX0 25 "AtelierBook" "crackCounts" "[I", Cond.fieldLink RX0 37 "AtelierBook" "loanCosts" "[I", Cond.fieldLink RX0 34 "AtelierBook" "loanHouses" "[I", Cond.fieldLink RX0 31 "AtelierBook" "loanDays" "[I", Cond.methodLink RX0 61 yX0_checkNumber, Cond.static yX0_checkNumber, Cond.initialized RX0, Cond.code yX0_checkNumber cX0_checkNumber 2 none, Cond.classLink RX0 161 "java/lang/IndexOutOfBoundsException", Cond.initialized "java/lang/IndexOutOfBoundsException", Cond.methodLink RX0 65 yX0_checkRange, Cond.static yX0_checkRange, Cond.code yX0_checkRange cX0_checkRange 3 none, Cond.classLink RX0 88 "java/lang/IllegalArgumentException", Cond.initialized "java/lang/IllegalArgumentException", Cond.methodLink RX0 110 yX0_checkAtHome, Cond.instanceMethod yX0_checkAtHome, Cond.selects RX0 yX0_checkAtHome yX0_checkAtHome, Cond.code yX0_checkAtHome cX0_checkAtHome 2 none, Cond.methodLink RX0 143 yX0_isLent, Cond.instanceMethod yX0_isLent]
def wsX0_lend_r2 : List Cond := [Cond.selects RX0 yX0_isLent yX0_isLent, Cond.code yX0_isLent cX0_isLent 2 (some .boolean), Cond.methodLink RX0 123 yX0_valueOf, Cond.instanceMethod yX0_valueOf, Cond.selects RX0 yX0_valueOf yX0_valueOf, Cond.code yX0_valueOf cX0_valueOf 3 (some .int), Cond.methodLink RX0 182 Lib.Math.max.name, Cond.static Lib.Math.max.name, Cond.initialized "java/lang/Math", Cond.code Lib.Math.max.name Lib.Math.max.code 2 (some .int), Cond.methodLink RX0 179 yX0_averagePriceOfAlike, Cond.instanceMethod yX0_averagePriceOfAlike, Cond.selects RX0 yX0_averagePriceOfAlike yX0_averagePriceOfAlike, Cond.code yX0_averagePriceOfAlike cX0_averagePriceOfAlike 6 (some .int), Cond.fieldLink RX0 28 "AtelierBook" "latestPrices" "[I", Cond.methodLink RX0 140 yX0_mainPigmentOf, Cond.instanceMethod yX0_mainPigmentOf, Cond.selects RX0 yX0_mainPigmentOf yX0_mainPigmentOf, Cond.code yX0_mainPigmentOf cX0_mainPigmentOf 3 (some .int), Cond.fieldLink RX0 22 "AtelierBook" "layerCounts" "[I", Cond.methodLink RX0 116 yX0_layerRow, Cond.static yX0_layerRow, Cond.code yX0_layerRow cX0_layerRow 2 (some .int), Cond.methodLink RX0 176 yX0_mainPigmentOfRow]
def wsX0_lend_r3 : List Cond := [Cond.instanceMethod yX0_mainPigmentOfRow, Cond.selects RX0 yX0_mainPigmentOfRow yX0_mainPigmentOfRow, Cond.code yX0_mainPigmentOfRow cX0_mainPigmentOfRow 6 (some .int), Cond.fieldLink RX0 50 "AtelierBook" "pigmentCount" "I", Cond.methodLink RX0 173 yX0_gramsOfPigment, Cond.instanceMethod yX0_gramsOfPigment, Cond.selects RX0 yX0_gramsOfPigment yX0_gramsOfPigment, Cond.code yX0_gramsOfPigment cX0_gramsOfPigment 5 (some .int), Cond.fieldLink RX0 68 "AtelierBook" "tubeCount" "I", Cond.fieldLink RX0 13 "AtelierBook" "pigmentOfTube" "[I", Cond.fieldLink RX0 19 "AtelierBook" "ledger" "[I", Cond.methodLink RX0 84 yX0_place, Cond.static yX0_place, Cond.code yX0_place cX0_place 2 (some .int)]
def wsX0_lend : List Cond := .code yX0_lend cX0_lend 4 (some .int) :: ((wsX0_lend_r1 ++ (wsX0_lend_r2 ++ wsX0_lend_r3)) ++ wsX00 ++ (vx_atS RX0 58 "java/lang/IllegalStateException" ["java/lang/RuntimeException", "java/lang/Exception"]).filter goodWord ++ (vx_atS RX0 165 "java/lang/IndexOutOfBoundsException" ["java/lang/RuntimeException", "java/lang/Exception"]).filter goodWord ++ (vx_atS RX0 92 "java/lang/IllegalArgumentException" ["java/lang/RuntimeException", "java/lang/Exception"]).filter goodWord)
def wsX0_sell_r1 : List Cond := [Cond.classLink RX0 54 "java/lang/IllegalStateException", Cond.initialized "java/lang/IllegalStateException", Cond.fieldLink RX0 105 "AtelierBook" "pictureCount" "I", Cond.constant RX0 126 (100000), Cond.fieldLink RX0 22 "AtelierBook" "layerCounts" "[I", Cond.fieldLink RX0 28 "AtelierBook" "latestPrices" "[I", Cond.methodLink RX0 61 yX0_checkNumber, Cond.static yX0_checkNumber, Cond.initialized RX0, Cond.code yX0_checkNumber cX0_checkNumber 2 none, Cond.classLink RX0 161 "java/lang/IndexOutOfBoundsException", Cond.initialized "java/lang/IndexOutOfBoundsException", Cond.methodLink RX0 65 yX0_checkRange, Cond.static yX0_checkRange, Cond.code yX0_checkRange cX0_checkRange 3 none, Cond.classLink RX0 88 "java/lang/IllegalArgumentException", Cond.initialized "java/lang/IllegalArgumentException", Cond.methodLink RX0 110 yX0_checkAtHome, Cond.instanceMethod yX0_checkAtHome, Cond.selects RX0 yX0_checkAtHome yX0_checkAtHome, Cond.code yX0_checkAtHome cX0_checkAtHome 2 none, Cond.methodLink RX0 143 yX0_isLent, Cond.instanceMethod yX0_isLent, Cond.selects RX0 yX0_isLent yX0_isLent]
def wsX0_sell_r2 : List Cond := [Cond.code yX0_isLent cX0_isLent 2 (some .boolean), Cond.fieldLink RX0 31 "AtelierBook" "loanDays" "[I", Cond.methodLink RX0 123 yX0_valueOf, Cond.instanceMethod yX0_valueOf, Cond.selects RX0 yX0_valueOf yX0_valueOf, Cond.code yX0_valueOf cX0_valueOf 3 (some .int), Cond.fieldLink RX0 25 "AtelierBook" "crackCounts" "[I", Cond.methodLink RX0 182 Lib.Math.max.name, Cond.static Lib.Math.max.name, Cond.initialized "java/lang/Math", Cond.code Lib.Math.max.name Lib.Math.max.code 2 (some .int), Cond.methodLink RX0 179 yX0_averagePriceOfAlike, Cond.instanceMethod yX0_averagePriceOfAlike, Cond.selects RX0 yX0_averagePriceOfAlike yX0_averagePriceOfAlike, Cond.code yX0_averagePriceOfAlike cX0_averagePriceOfAlike 6 (some .int), Cond.methodLink RX0 140 yX0_mainPigmentOf, Cond.instanceMethod yX0_mainPigmentOf, Cond.selects RX0 yX0_mainPigmentOf yX0_mainPigmentOf, Cond.code yX0_mainPigmentOf cX0_mainPigmentOf 3 (some .int), Cond.methodLink RX0 116 yX0_layerRow, Cond.static yX0_layerRow, Cond.code yX0_layerRow cX0_layerRow 2 (some .int), Cond.methodLink RX0 176 yX0_mainPigmentOfRow, Cond.instanceMethod yX0_mainPigmentOfRow]
def wsX0_sell_r3 : List Cond := [Cond.selects RX0 yX0_mainPigmentOfRow yX0_mainPigmentOfRow, Cond.code yX0_mainPigmentOfRow cX0_mainPigmentOfRow 6 (some .int), Cond.fieldLink RX0 50 "AtelierBook" "pigmentCount" "I", Cond.methodLink RX0 173 yX0_gramsOfPigment, Cond.instanceMethod yX0_gramsOfPigment, Cond.selects RX0 yX0_gramsOfPigment yX0_gramsOfPigment, Cond.code yX0_gramsOfPigment cX0_gramsOfPigment 5 (some .int), Cond.fieldLink RX0 68 "AtelierBook" "tubeCount" "I", Cond.fieldLink RX0 13 "AtelierBook" "pigmentOfTube" "[I", Cond.fieldLink RX0 19 "AtelierBook" "ledger" "[I", Cond.methodLink RX0 84 yX0_place, Cond.static yX0_place, Cond.code yX0_place cX0_place 2 (some .int)]
def wsX0_sell : List Cond := .code yX0_sell cX0_sell 3 (some .int) :: ((wsX0_sell_r1 ++ (wsX0_sell_r2 ++ wsX0_sell_r3)) ++ wsX00 ++ (vx_atS RX0 58 "java/lang/IllegalStateException" ["java/lang/RuntimeException", "java/lang/Exception"]).filter goodWord ++ (vx_atS RX0 165 "java/lang/IndexOutOfBoundsException" ["java/lang/RuntimeException", "java/lang/Exception"]).filter goodWord ++ (vx_atS RX0 92 "java/lang/IllegalArgumentException" ["java/lang/RuntimeException", "java/lang/Exception"]).filter goodWord)
def wsX0_passForLoan : List Cond := .code yX0_passForLoan cX0_passForLoan 5 none :: ([.fieldLink RX0 31 "AtelierBook" "loanDays" "[I", .methodLink RX0 187 Lib.Math.min.name, .static Lib.Math.min.name, .initialized "java/lang/Math", .code Lib.Math.min.name Lib.Math.min.code 2 (some .int), .fieldLink RX0 34 "AtelierBook" "loanHouses" "[I", .fieldLink RX0 40 "AtelierBook" "houseDamps" "[I", .methodLink RX0 190 Lib.Math.abs.name, .static Lib.Math.abs.name, .code Lib.Math.abs.name Lib.Math.abs.code 1 (some .int), .fieldLink RX0 25 "AtelierBook" "crackCounts" "[I", .fieldLink RX0 43 "AtelierBook" "housePayments" "[I", .fieldLink RX0 37 "AtelierBook" "loanCosts" "[I"] ++ wsX00)
def wsX0_pass_r1 : List Cond := [Cond.classLink RX0 54 "java/lang/IllegalStateException", Cond.initialized "java/lang/IllegalStateException", Cond.fieldLink RX0 129 "AtelierBook" "today" "I", Cond.fieldLink RX0 105 "AtelierBook" "pictureCount" "I", Cond.methodLink RX0 65 yX0_checkRange, Cond.static yX0_checkRange, Cond.initialized RX0, Cond.code yX0_checkRange cX0_checkRange 3 none, Cond.classLink RX0 88 "java/lang/IllegalArgumentException", Cond.initialized "java/lang/IllegalArgumentException", Cond.methodLink RX0 134 yX0_passForLoan, Cond.instanceMethod yX0_passForLoan, Cond.selects RX0 yX0_passForLoan yX0_passForLoan, Cond.code yX0_passForLoan cX0_passForLoan 5 none, Cond.fieldLink RX0 31 "AtelierBook" "loanDays" "[I", Cond.methodLink RX0 187 Lib.Math.min.name, Cond.static Lib.Math.min.name, Cond.initialized "java/lang/Math", Cond.code Lib.Math.min.name Lib.Math.min.code 2 (some .int), Cond.fieldLink RX0 34 "AtelierBook" "loanHouses" "[I", Cond.fieldLink RX0 40 "AtelierBook" "houseDamps" "[I", Cond.methodLink RX0 190 Lib.Math.abs.name, Cond.static Lib.Math.abs.name, Cond.code Lib.Math.abs.name Lib.Math.abs.code 1 (some .int)]
def wsX0_pass_r2 : List Cond := [Cond.fieldLink RX0 25 "AtelierBook" "crackCounts" "[I", Cond.fieldLink RX0 43 "AtelierBook" "housePayments" "[I", Cond.fieldLink RX0 37 "AtelierBook" "loanCosts" "[I"]
def wsX0_pass : List Cond := .code yX0_pass cX0_pass 3 (some .int) :: ((wsX0_pass_r1 ++ wsX0_pass_r2) ++ wsX00 ++ (vx_atS RX0 58 "java/lang/IllegalStateException" ["java/lang/RuntimeException", "java/lang/Exception"]).filter goodWord ++ (vx_atS RX0 92 "java/lang/IllegalArgumentException" ["java/lang/RuntimeException", "java/lang/Exception"]).filter goodWord)
def wsX0_left : List Cond := .code yX0_left cX0_left 2 (some .int) :: ([.fieldLink RX0 68 "AtelierBook" "tubeCount" "I", .fieldLink RX0 16 "AtelierBook" "gramsInTube" "[I", .methodLink RX0 61 yX0_checkNumber, .static yX0_checkNumber, .initialized RX0, .code yX0_checkNumber cX0_checkNumber 2 none, .classLink RX0 161 "java/lang/IndexOutOfBoundsException", .initialized "java/lang/IndexOutOfBoundsException"] ++ wsX00 ++ (vx_atS RX0 165 "java/lang/IndexOutOfBoundsException" ["java/lang/RuntimeException", "java/lang/Exception"]).filter goodWord)
def wsX0_has : List Cond := .code yX0_has cX0_has 3 (some .int) :: ([.fieldLink RX0 73 "AtelierBook" "potCount" "I", .fieldLink RX0 68 "AtelierBook" "tubeCount" "I", .fieldLink RX0 19 "AtelierBook" "ledger" "[I", .methodLink RX0 61 yX0_checkNumber, .static yX0_checkNumber, .initialized RX0, .code yX0_checkNumber cX0_checkNumber 2 none, .classLink RX0 161 "java/lang/IndexOutOfBoundsException", .initialized "java/lang/IndexOutOfBoundsException", .methodLink RX0 80 yX0_potRow, .static yX0_potRow, .code yX0_potRow cX0_potRow 1 (some .int), .methodLink RX0 99 yX0_sumOfRow, .instanceMethod yX0_sumOfRow, .selects RX0 yX0_sumOfRow yX0_sumOfRow, .code yX0_sumOfRow cX0_sumOfRow 4 (some .int), .methodLink RX0 84 yX0_place, .static yX0_place, .code yX0_place cX0_place 2 (some .int)] ++ wsX00 ++ (vx_atS RX0 165 "java/lang/IndexOutOfBoundsException" ["java/lang/RuntimeException", "java/lang/Exception"]).filter goodWord)
def wsX0_colourOfTube : List Cond := .code yX0_colourOfTube cX0_colourOfTube 3 (some .int) :: ([.fieldLink RX0 9 "AtelierBook" "pigmentColours" "[I", .fieldLink RX0 13 "AtelierBook" "pigmentOfTube" "[I"] ++ wsX00)
def wsX0_colourOfRow : List Cond := .code yX0_colourOfRow cX0_colourOfRow 7 (some .int) :: ([.fieldLink RX0 68 "AtelierBook" "tubeCount" "I", .fieldLink RX0 19 "AtelierBook" "ledger" "[I", .methodLink RX0 84 yX0_place, .static yX0_place, .initialized RX0, .code yX0_place cX0_place 2 (some .int), .methodLink RX0 170 yX0_colourOfTube, .instanceMethod yX0_colourOfTube, .selects RX0 yX0_colourOfTube yX0_colourOfTube, .code yX0_colourOfTube cX0_colourOfTube 3 (some .int), .fieldLink RX0 9 "AtelierBook" "pigmentColours" "[I", .fieldLink RX0 13 "AtelierBook" "pigmentOfTube" "[I"] ++ wsX00)
def wsX0_colour_r1 : List Cond := [Cond.fieldLink RX0 73 "AtelierBook" "potCount" "I", Cond.methodLink RX0 61 yX0_checkNumber, Cond.static yX0_checkNumber, Cond.initialized RX0, Cond.code yX0_checkNumber cX0_checkNumber 2 none, Cond.classLink RX0 161 "java/lang/IndexOutOfBoundsException", Cond.initialized "java/lang/IndexOutOfBoundsException", Cond.methodLink RX0 65 yX0_checkRange, Cond.static yX0_checkRange, Cond.code yX0_checkRange cX0_checkRange 3 none, Cond.classLink RX0 88 "java/lang/IllegalArgumentException", Cond.initialized "java/lang/IllegalArgumentException", Cond.methodLink RX0 80 yX0_potRow, Cond.static yX0_potRow, Cond.code yX0_potRow cX0_potRow 1 (some .int), Cond.methodLink RX0 137 yX0_colourOfRow, Cond.instanceMethod yX0_colourOfRow, Cond.selects RX0 yX0_colourOfRow yX0_colourOfRow, Cond.code yX0_colourOfRow cX0_colourOfRow 7 (some .int), Cond.fieldLink RX0 68 "AtelierBook" "tubeCount" "I", Cond.fieldLink RX0 19 "AtelierBook" "ledger" "[I", Cond.methodLink RX0 84 yX0_place, Cond.static yX0_place, Cond.code yX0_place cX0_place 2 (some .int)]
def wsX0_colour_r2 : List Cond := [Cond.methodLink RX0 170 yX0_colourOfTube, Cond.instanceMethod yX0_colourOfTube, Cond.selects RX0 yX0_colourOfTube yX0_colourOfTube, Cond.code yX0_colourOfTube cX0_colourOfTube 3 (some .int), Cond.fieldLink RX0 9 "AtelierBook" "pigmentColours" "[I", Cond.fieldLink RX0 13 "AtelierBook" "pigmentOfTube" "[I"]
def wsX0_colour : List Cond := .code yX0_colour cX0_colour 3 (some .int) :: ((wsX0_colour_r1 ++ wsX0_colour_r2) ++ wsX00 ++ (vx_atS RX0 165 "java/lang/IndexOutOfBoundsException" ["java/lang/RuntimeException", "java/lang/Exception"]).filter goodWord ++ (vx_atS RX0 92 "java/lang/IllegalArgumentException" ["java/lang/RuntimeException", "java/lang/Exception"]).filter goodWord)
def wsX0_lookOf : List Cond := .code yX0_lookOf cX0_lookOf 4 (some .int) :: ([.fieldLink RX0 22 "AtelierBook" "layerCounts" "[I", .methodLink RX0 116 yX0_layerRow, .static yX0_layerRow, .initialized RX0, .code yX0_layerRow cX0_layerRow 2 (some .int), .methodLink RX0 137 yX0_colourOfRow, .instanceMethod yX0_colourOfRow, .selects RX0 yX0_colourOfRow yX0_colourOfRow, .code yX0_colourOfRow cX0_colourOfRow 7 (some .int), .fieldLink RX0 68 "AtelierBook" "tubeCount" "I", .fieldLink RX0 19 "AtelierBook" "ledger" "[I", .methodLink RX0 84 yX0_place, .static yX0_place, .code yX0_place cX0_place 2 (some .int), .methodLink RX0 170 yX0_colourOfTube, .instanceMethod yX0_colourOfTube, .selects RX0 yX0_colourOfTube yX0_colourOfTube, .code yX0_colourOfTube cX0_colourOfTube 3 (some .int), .fieldLink RX0 9 "AtelierBook" "pigmentColours" "[I", .fieldLink RX0 13 "AtelierBook" "pigmentOfTube" "[I"] ++ wsX00)
def wsX0_of_r1 : List Cond := [Cond.fieldLink RX0 105 "AtelierBook" "pictureCount" "I", Cond.fieldLink RX0 22 "AtelierBook" "layerCounts" "[I", Cond.fieldLink RX0 25 "AtelierBook" "crackCounts" "[I", Cond.fieldLink RX0 34 "AtelierBook" "loanHouses" "[I", Cond.fieldLink RX0 31 "AtelierBook" "loanDays" "[I", Cond.methodLink RX0 61 yX0_checkNumber, Cond.static yX0_checkNumber, Cond.initialized RX0, Cond.code yX0_checkNumber cX0_checkNumber 2 none, Cond.classLink RX0 161 "java/lang/IndexOutOfBoundsException", Cond.initialized "java/lang/IndexOutOfBoundsException", Cond.methodLink RX0 65 yX0_checkRange, Cond.static yX0_checkRange, Cond.code yX0_checkRange cX0_checkRange 3 none, Cond.classLink RX0 88 "java/lang/IllegalArgumentException", Cond.initialized "java/lang/IllegalArgumentException", Cond.methodLink RX0 123 yX0_valueOf, Cond.instanceMethod yX0_valueOf, Cond.selects RX0 yX0_valueOf yX0_valueOf, Cond.code yX0_valueOf cX0_valueOf 3 (some .int), Cond.methodLink RX0 182 Lib.Math.max.name, Cond.static Lib.Math.max.name, Cond.initialized "java/lang/Math", Cond.code Lib.Math.max.name Lib.Math.max.code 2 (some .int)]
def wsX0_of_r2 : List Cond := [Cond.methodLink RX0 179 yX0_averagePriceOfAlike, Cond.instanceMethod yX0_averagePriceOfAlike, Cond.selects RX0 yX0_averagePriceOfAlike yX0_averagePriceOfAlike, Cond.code yX0_averagePriceOfAlike cX0_averagePriceOfAlike 6 (some .int), Cond.fieldLink RX0 28 "AtelierBook" "latestPrices" "[I", Cond.methodLink RX0 140 yX0_mainPigmentOf, Cond.instanceMethod yX0_mainPigmentOf, Cond.selects RX0 yX0_mainPigmentOf yX0_mainPigmentOf, Cond.code yX0_mainPigmentOf cX0_mainPigmentOf 3 (some .int), Cond.methodLink RX0 116 yX0_layerRow, Cond.static yX0_layerRow, Cond.code yX0_layerRow cX0_layerRow 2 (some .int), Cond.methodLink RX0 176 yX0_mainPigmentOfRow, Cond.instanceMethod yX0_mainPigmentOfRow, Cond.selects RX0 yX0_mainPigmentOfRow yX0_mainPigmentOfRow, Cond.code yX0_mainPigmentOfRow cX0_mainPigmentOfRow 6 (some .int), Cond.fieldLink RX0 50 "AtelierBook" "pigmentCount" "I", Cond.methodLink RX0 173 yX0_gramsOfPigment, Cond.instanceMethod yX0_gramsOfPigment, Cond.selects RX0 yX0_gramsOfPigment yX0_gramsOfPigment, Cond.code yX0_gramsOfPigment cX0_gramsOfPigment 5 (some .int), Cond.fieldLink RX0 68 "AtelierBook" "tubeCount" "I", Cond.fieldLink RX0 13 "AtelierBook" "pigmentOfTube" "[I", Cond.fieldLink RX0 19 "AtelierBook" "ledger" "[I"]
def wsX0_of_r3 : List Cond := [Cond.methodLink RX0 84 yX0_place, Cond.static yX0_place, Cond.code yX0_place cX0_place 2 (some .int), Cond.methodLink RX0 143 yX0_isLent, Cond.instanceMethod yX0_isLent, Cond.selects RX0 yX0_isLent yX0_isLent, Cond.code yX0_isLent cX0_isLent 2 (some .boolean), Cond.methodLink RX0 147 yX0_lookOf, Cond.instanceMethod yX0_lookOf, Cond.selects RX0 yX0_lookOf yX0_lookOf, Cond.code yX0_lookOf cX0_lookOf 4 (some .int), Cond.methodLink RX0 137 yX0_colourOfRow, Cond.instanceMethod yX0_colourOfRow, Cond.selects RX0 yX0_colourOfRow yX0_colourOfRow, Cond.code yX0_colourOfRow cX0_colourOfRow 7 (some .int), Cond.methodLink RX0 170 yX0_colourOfTube, Cond.instanceMethod yX0_colourOfTube, Cond.selects RX0 yX0_colourOfTube yX0_colourOfTube, Cond.code yX0_colourOfTube cX0_colourOfTube 3 (some .int), Cond.fieldLink RX0 9 "AtelierBook" "pigmentColours" "[I"]
def wsX0_of : List Cond := .code yX0_of cX0_of 3 (some .int) :: ((wsX0_of_r1 ++ (wsX0_of_r2 ++ wsX0_of_r3)) ++ wsX00 ++ (vx_atS RX0 165 "java/lang/IndexOutOfBoundsException" ["java/lang/RuntimeException", "java/lang/Exception"]).filter goodWord ++ (vx_atS RX0 92 "java/lang/IllegalArgumentException" ["java/lang/RuntimeException", "java/lang/Exception"]).filter goodWord)
def wsX0_layer : List Cond := .code yX0_layer cX0_layer 4 (some .int) :: ([.fieldLink RX0 105 "AtelierBook" "pictureCount" "I", .fieldLink RX0 22 "AtelierBook" "layerCounts" "[I", .fieldLink RX0 68 "AtelierBook" "tubeCount" "I", .fieldLink RX0 19 "AtelierBook" "ledger" "[I", .methodLink RX0 61 yX0_checkNumber, .static yX0_checkNumber, .initialized RX0, .code yX0_checkNumber cX0_checkNumber 2 none, .classLink RX0 161 "java/lang/IndexOutOfBoundsException", .initialized "java/lang/IndexOutOfBoundsException", .methodLink RX0 116 yX0_layerRow, .static yX0_layerRow, .code yX0_layerRow cX0_layerRow 2 (some .int), .methodLink RX0 84 yX0_place, .static yX0_place, .code yX0_place cX0_place 2 (some .int)] ++ wsX00 ++ (vx_atS RX0 165 "java/lang/IndexOutOfBoundsException" ["java/lang/RuntimeException", "java/lang/Exception"]).filter goodWord)
def wsX0_sumOfTube : List Cond := .code yX0_sumOfTube cX0_sumOfTube 6 (some .int) :: ([.fieldLink RX0 19 "AtelierBook" "ledger" "[I", .methodLink RX0 84 yX0_place, .static yX0_place, .initialized RX0, .code yX0_place cX0_place 2 (some .int)] ++ wsX00)
def wsX0_where : List Cond := .code yX0_where cX0_where 3 (some .int) :: ([.fieldLink RX0 68 "AtelierBook" "tubeCount" "I", .fieldLink RX0 16 "AtelierBook" "gramsInTube" "[I", .methodLink RX0 61 yX0_checkNumber, .static yX0_checkNumber, .initialized RX0, .code yX0_checkNumber cX0_checkNumber 2 none, .classLink RX0 161 "java/lang/IndexOutOfBoundsException", .initialized "java/lang/IndexOutOfBoundsException", .methodLink RX0 65 yX0_checkRange, .static yX0_checkRange, .code yX0_checkRange cX0_checkRange 3 none, .classLink RX0 88 "java/lang/IllegalArgumentException", .initialized "java/lang/IllegalArgumentException", .methodLink RX0 150 yX0_sumOfTube, .instanceMethod yX0_sumOfTube, .selects RX0 yX0_sumOfTube yX0_sumOfTube, .code yX0_sumOfTube cX0_sumOfTube 6 (some .int), .fieldLink RX0 19 "AtelierBook" "ledger" "[I", .methodLink RX0 84 yX0_place, .static yX0_place, .code yX0_place cX0_place 2 (some .int)] ++ wsX00 ++ (vx_atS RX0 165 "java/lang/IndexOutOfBoundsException" ["java/lang/RuntimeException", "java/lang/Exception"]).filter goodWord ++ (vx_atS RX0 92 "java/lang/IllegalArgumentException" ["java/lang/RuntimeException", "java/lang/Exception"]).filter goodWord)
def wsX0_mixed : List Cond := .code yX0_mixed cX0_mixed 5 (some .int) :: ([.methodLink RX0 170 yX0_colourOfTube, .instanceMethod yX0_colourOfTube, .selects RX0 yX0_colourOfTube yX0_colourOfTube, .initialized RX0, .code yX0_colourOfTube cX0_colourOfTube 3 (some .int), .fieldLink RX0 9 "AtelierBook" "pigmentColours" "[I", .fieldLink RX0 13 "AtelierBook" "pigmentOfTube" "[I"] ++ wsX00)
def wsX0_square : List Cond := .code yX0_square cX0_square 1 (some .int) :: ([])
def wsX0_recipe : List Cond := .code yX0_recipe cX0_recipe 10 (some .int) :: ([.fieldLink RX0 68 "AtelierBook" "tubeCount" "I", .fieldLink RX0 16 "AtelierBook" "gramsInTube" "[I", .methodLink RX0 46 yX0_checkColour, .static yX0_checkColour, .initialized RX0, .code yX0_checkColour cX0_checkColour 3 none, .methodLink RX0 65 yX0_checkRange, .static yX0_checkRange, .code yX0_checkRange cX0_checkRange 3 none, .classLink RX0 88 "java/lang/IllegalArgumentException", .initialized "java/lang/IllegalArgumentException", .methodLink RX0 154 yX0_mixed, .instanceMethod yX0_mixed, .selects RX0 yX0_mixed yX0_mixed, .code yX0_mixed cX0_mixed 5 (some .int), .methodLink RX0 170 yX0_colourOfTube, .instanceMethod yX0_colourOfTube, .selects RX0 yX0_colourOfTube yX0_colourOfTube, .code yX0_colourOfTube cX0_colourOfTube 3 (some .int), .fieldLink RX0 9 "AtelierBook" "pigmentColours" "[I", .fieldLink RX0 13 "AtelierBook" "pigmentOfTube" "[I", .methodLink RX0 158 yX0_square, .static yX0_square, .code yX0_square cX0_square 1 (some .int)] ++ wsX00 ++ (vx_atS RX0 92 "java/lang/IllegalArgumentException" ["java/lang/RuntimeException", "java/lang/Exception"]).filter goodWord)
def wsX0_paid : List Cond := .code yX0_paid cX0_paid 2 (some .int) :: ([.fieldLink RX0 43 "AtelierBook" "housePayments" "[I", .methodLink RX0 61 yX0_checkNumber, .static yX0_checkNumber, .initialized RX0, .code yX0_checkNumber cX0_checkNumber 2 none, .classLink RX0 161 "java/lang/IndexOutOfBoundsException", .initialized "java/lang/IndexOutOfBoundsException"] ++ wsX00 ++ (vx_atS RX0 165 "java/lang/IndexOutOfBoundsException" ["java/lang/RuntimeException", "java/lang/Exception"]).filter goodWord)
def wsX1_init : List Cond := .code yX1_init cX1_init 2 none :: ([.methodLink RX1 1 objectInit, .instanceMethod objectInit, .code objectInit ⟨#[0xb1]⟩ 1 none, .arrayClass .int, .fieldLink RX1 7 "AtelierBookModel" "shade" "[I", .fieldLink RX1 13 "AtelierBookModel" "pigmentOf" "[I", .fieldLink RX1 16 "AtelierBookModel" "left" "[I", .fieldLink RX1 19 "AtelierBookModel" "wasted" "[I", .fieldLink RX1 22 "AtelierBookModel" "inPot" "[I", .fieldLink RX1 25 "AtelierBookModel" "layers" "[I", .fieldLink RX1 28 "AtelierBookModel" "inLayer" "[I", .fieldLink RX1 31 "AtelierBookModel" "cracks" "[I", .fieldLink RX1 34 "AtelierBookModel" "price" "[I", .fieldLink RX1 37 "AtelierBookModel" "house" "[I", .fieldLink RX1 40 "AtelierBookModel" "days" "[I", .fieldLink RX1 43 "AtelierBookModel" "cost" "[I", .fieldLink RX1 46 "AtelierBookModel" "damp" "[I", .fieldLink RX1 49 "AtelierBookModel" "paid" "[I", .fieldLink RX1 52 "AtelierBookModel" "flow" "[I", .fieldLink RX1 55 "AtelierBookModel" "sums" "[I"] ++ wsX10)
def wsX1_thrown : List Cond := .code yX1_thrown cX1_thrown 1 (some .int) :: ([.fieldLink RX1 58 "AtelierBookModel" "thrown" "I"] ++ wsX10)
def wsX1_in : List Cond := .code yX1_in cX1_in 3 (some .boolean) :: ([])
def wsX1_areShades : List Cond := .code yX1_areShades cX1_areShades 3 (some .boolean) :: ([.methodLink RX1 62 yX1_in, .static yX1_in, .initialized RX1, .code yX1_in cX1_in 3 (some .boolean)])
def wsX1_isTube : List Cond := .code yX1_isTube cX1_isTube 2 (some .boolean) :: ([.fieldLink RX1 66 "AtelierBookModel" "tubes" "I", .methodLink RX1 62 yX1_in, .static yX1_in, .initialized RX1, .code yX1_in cX1_in 3 (some .boolean)] ++ wsX10)
def wsX1_isPot : List Cond := .code yX1_isPot cX1_isPot 2 (some .boolean) :: ([.fieldLink RX1 69 "AtelierBookModel" "pots" "I", .methodLink RX1 62 yX1_in, .static yX1_in, .initialized RX1, .code yX1_in cX1_in 3 (some .boolean)] ++ wsX10)
def wsX1_isPicture : List Cond := .code yX1_isPicture cX1_isPicture 2 (some .boolean) :: ([.fieldLink RX1 72 "AtelierBookModel" "pictures" "I", .methodLink RX1 62 yX1_in, .static yX1_in, .initialized RX1, .code yX1_in cX1_in 3 (some .boolean)] ++ wsX10)
def wsX1_isHouse : List Cond := .code yX1_isHouse cX1_isHouse 1 (some .boolean) :: ([.methodLink RX1 62 yX1_in, .static yX1_in, .initialized RX1, .code yX1_in cX1_in 3 (some .boolean)])
def wsX1_pigment : List Cond := .code yX1_pigment cX1_pigment 4 (some .int) :: ([.fieldLink RX1 78 "AtelierBookModel" "pigments" "I", .fieldLink RX1 58 "AtelierBookModel" "thrown" "I", .fieldLink RX1 7 "AtelierBookModel" "shade" "[I", .methodLink RX1 75 yX1_areShades, .static yX1_areShades, .initialized RX1, .code yX1_areShades cX1_areShades 3 (some .boolean), .methodLink RX1 62 yX1_in, .static yX1_in, .code yX1_in cX1_in 3 (some .boolean)] ++ wsX10)
def wsX1_tube : List Cond := .code yX1_tube cX1_tube 3 (some .int) :: ([.fieldLink RX1 78 "AtelierBookModel" "pigments" "I", .fieldLink RX1 66 "AtelierBookModel" "tubes" "I", .fieldLink RX1 58 "AtelierBookModel" "thrown" "I", .fieldLink RX1 13 "AtelierBookModel" "pigmentOf" "[I", .fieldLink RX1 16 "AtelierBookModel" "left" "[I", .methodLink RX1 62 yX1_in, .static yX1_in, .initialized RX1, .code yX1_in cX1_in 3 (some .boolean)] ++ wsX10)
def wsX1_pot : List Cond := .code yX1_pot cX1_pot 1 (some .int) :: ([.fieldLink RX1 69 "AtelierBookModel" "pots" "I", .fieldLink RX1 58 "AtelierBookModel" "thrown" "I"] ++ wsX10)
def wsX1_gramsOf : List Cond := .code yX1_gramsOf cX1_gramsOf 4 (some .int) :: ([.fieldLink RX1 22 "AtelierBookModel" "inPot" "[I"] ++ wsX10)
def wsX1_squeeze : List Cond := .code yX1_squeeze cX1_squeeze 4 (some .int) :: ([.fieldLink RX1 16 "AtelierBookModel" "left" "[I", .fieldLink RX1 58 "AtelierBookModel" "thrown" "I", .fieldLink RX1 22 "AtelierBookModel" "inPot" "[I", .methodLink RX1 81 yX1_isPot, .instanceMethod yX1_isPot, .selects RX1 yX1_isPot yX1_isPot, .initialized RX1, .code yX1_isPot cX1_isPot 2 (some .boolean), .fieldLink RX1 69 "AtelierBookModel" "pots" "I", .methodLink RX1 62 yX1_in, .static yX1_in, .code yX1_in cX1_in 3 (some .boolean), .methodLink RX1 85 yX1_isTube, .instanceMethod yX1_isTube, .selects RX1 yX1_isTube yX1_isTube, .code yX1_isTube cX1_isTube 2 (some .boolean), .fieldLink RX1 66 "AtelierBookModel" "tubes" "I"] ++ wsX10)
def wsX1_flows : List Cond := .code yX1_flows cX1_flows 7 none :: ([.fieldLink RX1 22 "AtelierBookModel" "inPot" "[I", .fieldLink RX1 52 "AtelierBookModel" "flow" "[I", .methodLink RX1 88 yX1_gramsOf, .instanceMethod yX1_gramsOf, .selects RX1 yX1_gramsOf yX1_gramsOf, .initialized RX1, .code yX1_gramsOf cX1_gramsOf 4 (some .int)] ++ wsX10)
def wsX1_pour : List Cond := .code yX1_pour cX1_pour 5 (some .int) :: ([.fieldLink RX1 58 "AtelierBookModel" "thrown" "I", .fieldLink RX1 22 "AtelierBookModel" "inPot" "[I", .fieldLink RX1 52 "AtelierBookModel" "flow" "[I", .methodLink RX1 81 yX1_isPot, .instanceMethod yX1_isPot, .selects RX1 yX1_isPot yX1_isPot, .initialized RX1, .code yX1_isPot cX1_isPot 2 (some .boolean), .fieldLink RX1 69 "AtelierBookModel" "pots" "I", .methodLink RX1 62 yX1_in, .static yX1_in, .code yX1_in cX1_in 3 (some .boolean), .methodLink RX1 88 yX1_gramsOf, .instanceMethod yX1_gramsOf, .selects RX1 yX1_gramsOf yX1_gramsOf, .code yX1_gramsOf cX1_gramsOf 4 (some .int), .methodLink RX1 92 yX1_flows, .instanceMethod yX1_flows, .selects RX1 yX1_flows yX1_flows, .code yX1_flows cX1_flows 7 none] ++ wsX10)
def wsX1_scrape : List Cond := .code yX1_scrape cX1_scrape 4 (some .int) :: ([.fieldLink RX1 58 "AtelierBookModel" "thrown" "I", .fieldLink RX1 19 "AtelierBookModel" "wasted" "[I", .fieldLink RX1 22 "AtelierBookModel" "inPot" "[I", .methodLink RX1 81 yX1_isPot, .instanceMethod yX1_isPot, .selects RX1 yX1_isPot yX1_isPot, .initialized RX1, .code yX1_isPot cX1_isPot 2 (some .boolean), .fieldLink RX1 69 "AtelierBookModel" "pots" "I", .methodLink RX1 62 yX1_in, .static yX1_in, .code yX1_in cX1_in 3 (some .boolean), .methodLink RX1 88 yX1_gramsOf, .instanceMethod yX1_gramsOf, .selects RX1 yX1_gramsOf yX1_gramsOf, .code yX1_gramsOf cX1_gramsOf 4 (some .int)] ++ wsX10)
def wsX1_picture : List Cond := .code yX1_picture cX1_picture 1 (some .int) :: ([.fieldLink RX1 72 "AtelierBookModel" "pictures" "I", .fieldLink RX1 58 "AtelierBookModel" "thrown" "I"] ++ wsX10)
def wsX1_layerAt : List Cond := .code yX1_layerAt cX1_layerAt 2 (some .int) :: ([])
def wsX1_paint_r1 : List Cond := [Cond.fieldLink RX1 37 "AtelierBookModel" "house" "[I", Cond.fieldLink RX1 25 "AtelierBookModel" "layers" "[I", Cond.fieldLink RX1 58 "AtelierBookModel" "thrown" "I", Cond.fieldLink RX1 28 "AtelierBookModel" "inLayer" "[I", Cond.fieldLink RX1 52 "AtelierBookModel" "flow" "[I", Cond.methodLink RX1 96 yX1_isPicture, Cond.instanceMethod yX1_isPicture, Cond.selects RX1 yX1_isPicture yX1_isPicture, Cond.initialized RX1, Cond.code yX1_isPicture cX1_isPicture 2 (some .boolean), Cond.fieldLink RX1 72 "AtelierBookModel" "pictures" "I", Cond.methodLink RX1 62 yX1_in, Cond.static yX1_in, Cond.code yX1_in cX1_in 3 (some .boolean), Cond.methodLink RX1 81 yX1_isPot, Cond.instanceMethod yX1_isPot, Cond.selects RX1 yX1_isPot yX1_isPot, Cond.code yX1_isPot cX1_isPot 2 (some .boolean), Cond.fieldLink RX1 69 "AtelierBookModel" "pots" "I", Cond.methodLink RX1 88 yX1_gramsOf, Cond.instanceMethod yX1_gramsOf, Cond.selects RX1 yX1_gramsOf yX1_gramsOf, Cond.code yX1_gramsOf cX1_gramsOf 4 (some .int), Cond.fieldLink RX1 22 "AtelierBookModel" "inPot" "[I"]
def wsX1_paint_r2 : List Cond := [Cond.methodLink RX1 92 yX1_flows, Cond.instanceMethod yX1_flows, Cond.selects RX1 yX1_flows yX1_flows, Cond.code yX1_flows cX1_flows 7 none, Cond.methodLink RX1 99 yX1_layerAt, Cond.static yX1_layerAt, Cond.code yX1_layerAt cX1_layerAt 2 (some .int)]
def wsX1_paint : List Cond := .code yX1_paint cX1_paint 5 (some .int) :: ((wsX1_paint_r1 ++ wsX1_paint_r2) ++ wsX10)
def wsX1_clean : List Cond := .code yX1_clean cX1_clean 7 (some .int) :: ([.fieldLink RX1 37 "AtelierBookModel" "house" "[I", .fieldLink RX1 25 "AtelierBookModel" "layers" "[I", .fieldLink RX1 58 "AtelierBookModel" "thrown" "I", .fieldLink RX1 28 "AtelierBookModel" "inLayer" "[I", .fieldLink RX1 19 "AtelierBookModel" "wasted" "[I", .methodLink RX1 96 yX1_isPicture, .instanceMethod yX1_isPicture, .selects RX1 yX1_isPicture yX1_isPicture, .initialized RX1, .code yX1_isPicture cX1_isPicture 2 (some .boolean), .fieldLink RX1 72 "AtelierBookModel" "pictures" "I", .methodLink RX1 62 yX1_in, .static yX1_in, .code yX1_in cX1_in 3 (some .boolean), .methodLink RX1 99 yX1_layerAt, .static yX1_layerAt, .code yX1_layerAt cX1_layerAt 2 (some .int)] ++ wsX10)
def wsX1_main : List Cond := .code yX1_main cX1_main 4 (some .int) :: ([.fieldLink RX1 25 "AtelierBookModel" "layers" "[I", .fieldLink RX1 55 "AtelierBookModel" "sums" "[I", .fieldLink RX1 66 "AtelierBookModel" "tubes" "I", .fieldLink RX1 13 "AtelierBookModel" "pigmentOf" "[I", .fieldLink RX1 28 "AtelierBookModel" "inLayer" "[I", .methodLink RX1 99 yX1_layerAt, .static yX1_layerAt, .initialized RX1, .code yX1_layerAt cX1_layerAt 2 (some .int)] ++ wsX10)
def wsX1_look : List Cond := .code yX1_look cX1_look 7 (some .int) :: ([.fieldLink RX1 25 "AtelierBookModel" "layers" "[I", .fieldLink RX1 66 "AtelierBookModel" "tubes" "I", .fieldLink RX1 28 "AtelierBookModel" "inLayer" "[I", .fieldLink RX1 7 "AtelierBookModel" "shade" "[I", .fieldLink RX1 13 "AtelierBookModel" "pigmentOf" "[I", .methodLink RX1 99 yX1_layerAt, .static yX1_layerAt, .initialized RX1, .code yX1_layerAt cX1_layerAt 2 (some .int)] ++ wsX10)
def wsX1_value : List Cond := .code yX1_value cX1_value 7 (some .int) :: ([.fieldLink RX1 72 "AtelierBookModel" "pictures" "I", .fieldLink RX1 34 "AtelierBookModel" "price" "[I", .fieldLink RX1 31 "AtelierBookModel" "cracks" "[I", .methodLink RX1 103 yX1_main, .instanceMethod yX1_main, .selects RX1 yX1_main yX1_main, .initialized RX1, .code yX1_main cX1_main 4 (some .int), .fieldLink RX1 25 "AtelierBookModel" "layers" "[I", .fieldLink RX1 55 "AtelierBookModel" "sums" "[I", .fieldLink RX1 66 "AtelierBookModel" "tubes" "I", .fieldLink RX1 13 "AtelierBookModel" "pigmentOf" "[I", .fieldLink RX1 28 "AtelierBookModel" "inLayer" "[I", .methodLink RX1 99 yX1_layerAt, .static yX1_layerAt, .code yX1_layerAt cX1_layerAt 2 (some .int)] ++ wsX10)
def wsX1_damp : List Cond := .code yX1_damp cX1_damp 4 (some .int) :: ([.fieldLink RX1 58 "AtelierBookModel" "thrown" "I", .fieldLink RX1 46 "AtelierBookModel" "damp" "[I", .methodLink RX1 106 yX1_isHouse, .static yX1_isHouse, .initialized RX1, .code yX1_isHouse cX1_isHouse 1 (some .boolean), .methodLink RX1 62 yX1_in, .static yX1_in, .code yX1_in cX1_in 3 (some .boolean)] ++ wsX10)
def wsX1_lend_r1 : List Cond := [Cond.fieldLink RX1 37 "AtelierBookModel" "house" "[I", Cond.fieldLink RX1 31 "AtelierBookModel" "cracks" "[I", Cond.fieldLink RX1 58 "AtelierBookModel" "thrown" "I", Cond.fieldLink RX1 40 "AtelierBookModel" "days" "[I", Cond.fieldLink RX1 43 "AtelierBookModel" "cost" "[I", Cond.methodLink RX1 96 yX1_isPicture, Cond.instanceMethod yX1_isPicture, Cond.selects RX1 yX1_isPicture yX1_isPicture, Cond.initialized RX1, Cond.code yX1_isPicture cX1_isPicture 2 (some .boolean), Cond.fieldLink RX1 72 "AtelierBookModel" "pictures" "I", Cond.methodLink RX1 62 yX1_in, Cond.static yX1_in, Cond.code yX1_in cX1_in 3 (some .boolean), Cond.methodLink RX1 106 yX1_isHouse, Cond.static yX1_isHouse, Cond.code yX1_isHouse cX1_isHouse 1 (some .boolean), Cond.methodLink RX1 109 yX1_value, Cond.instanceMethod yX1_value, Cond.selects RX1 yX1_value yX1_value, Cond.code yX1_value cX1_value 7 (some .int), Cond.fieldLink RX1 34 "AtelierBookModel" "price" "[I", Cond.methodLink RX1 103 yX1_main, Cond.instanceMethod yX1_main]
def wsX1_lend_r2 : List Cond := [Cond.selects RX1 yX1_main yX1_main, Cond.code yX1_main cX1_main 4 (some .int), Cond.fieldLink RX1 25 "AtelierBookModel" "layers" "[I", Cond.fieldLink RX1 55 "AtelierBookModel" "sums" "[I", Cond.fieldLink RX1 66 "AtelierBookModel" "tubes" "I", Cond.fieldLink RX1 13 "AtelierBookModel" "pigmentOf" "[I", Cond.fieldLink RX1 28 "AtelierBookModel" "inLayer" "[I", Cond.methodLink RX1 99 yX1_layerAt, Cond.static yX1_layerAt, Cond.code yX1_layerAt cX1_layerAt 2 (some .int)]
def wsX1_lend : List Cond := .code yX1_lend cX1_lend 4 (some .int) :: ((wsX1_lend_r1 ++ wsX1_lend_r2) ++ wsX10)
def wsX1_sell_r1 : List Cond := [Cond.constant RX1 112 (100000), Cond.fieldLink RX1 37 "AtelierBookModel" "house" "[I", Cond.fieldLink RX1 25 "AtelierBookModel" "layers" "[I", Cond.fieldLink RX1 58 "AtelierBookModel" "thrown" "I", Cond.fieldLink RX1 34 "AtelierBookModel" "price" "[I", Cond.methodLink RX1 96 yX1_isPicture, Cond.instanceMethod yX1_isPicture, Cond.selects RX1 yX1_isPicture yX1_isPicture, Cond.initialized RX1, Cond.code yX1_isPicture cX1_isPicture 2 (some .boolean), Cond.fieldLink RX1 72 "AtelierBookModel" "pictures" "I", Cond.methodLink RX1 62 yX1_in, Cond.static yX1_in, Cond.code yX1_in cX1_in 3 (some .boolean), Cond.methodLink RX1 109 yX1_value, Cond.instanceMethod yX1_value, Cond.selects RX1 yX1_value yX1_value, Cond.code yX1_value cX1_value 7 (some .int), Cond.fieldLink RX1 31 "AtelierBookModel" "cracks" "[I", Cond.methodLink RX1 103 yX1_main, Cond.instanceMethod yX1_main, Cond.selects RX1 yX1_main yX1_main, Cond.code yX1_main cX1_main 4 (some .int), Cond.fieldLink RX1 55 "AtelierBookModel" "sums" "[I"]
def wsX1_sell_r2 : List Cond := [Cond.fieldLink RX1 66 "AtelierBookModel" "tubes" "I", Cond.fieldLink RX1 13 "AtelierBookModel" "pigmentOf" "[I", Cond.fieldLink RX1 28 "AtelierBookModel" "inLayer" "[I", Cond.methodLink RX1 99 yX1_layerAt, Cond.static yX1_layerAt, Cond.code yX1_layerAt cX1_layerAt 2 (some .int)]
def wsX1_sell : List Cond := .code yX1_sell cX1_sell 3 (some .int) :: ((wsX1_sell_r1 ++ wsX1_sell_r2) ++ wsX10)
def wsX1_passOne : List Cond := .code yX1_passOne cX1_passOne 3 none :: ([.fieldLink RX1 113 "AtelierBookModel" "today" "I", .fieldLink RX1 72 "AtelierBookModel" "pictures" "I", .fieldLink RX1 37 "AtelierBookModel" "house" "[I", .fieldLink RX1 49 "AtelierBookModel" "paid" "[I", .fieldLink RX1 43 "AtelierBookModel" "cost" "[I", .fieldLink RX1 31 "AtelierBookModel" "cracks" "[I", .fieldLink RX1 46 "AtelierBookModel" "damp" "[I", .fieldLink RX1 40 "AtelierBookModel" "days" "[I", .methodLink RX1 62 yX1_in, .static yX1_in, .initialized RX1, .code yX1_in cX1_in 3 (some .boolean)] ++ wsX10)
def wsX1_pass : List Cond := .code yX1_pass cX1_pass 3 (some .int) :: ([.fieldLink RX1 113 "AtelierBookModel" "today" "I", .fieldLink RX1 58 "AtelierBookModel" "thrown" "I", .methodLink RX1 62 yX1_in, .static yX1_in, .initialized RX1, .code yX1_in cX1_in 3 (some .boolean), .methodLink RX1 116 yX1_passOne, .instanceMethod yX1_passOne, .selects RX1 yX1_passOne yX1_passOne, .code yX1_passOne cX1_passOne 3 none, .fieldLink RX1 72 "AtelierBookModel" "pictures" "I", .fieldLink RX1 37 "AtelierBookModel" "house" "[I", .fieldLink RX1 49 "AtelierBookModel" "paid" "[I", .fieldLink RX1 43 "AtelierBookModel" "cost" "[I", .fieldLink RX1 31 "AtelierBookModel" "cracks" "[I", .fieldLink RX1 46 "AtelierBookModel" "damp" "[I", .fieldLink RX1 40 "AtelierBookModel" "days" "[I"] ++ wsX10)
def wsX1_left : List Cond := .code yX1_left cX1_left 2 (some .int) :: ([.fieldLink RX1 58 "AtelierBookModel" "thrown" "I", .fieldLink RX1 16 "AtelierBookModel" "left" "[I", .methodLink RX1 85 yX1_isTube, .instanceMethod yX1_isTube, .selects RX1 yX1_isTube yX1_isTube, .initialized RX1, .code yX1_isTube cX1_isTube 2 (some .boolean), .fieldLink RX1 66 "AtelierBookModel" "tubes" "I", .methodLink RX1 62 yX1_in, .static yX1_in, .code yX1_in cX1_in 3 (some .boolean)] ++ wsX10)
def wsX1_has : List Cond := .code yX1_has cX1_has 3 (some .int) :: ([.fieldLink RX1 58 "AtelierBookModel" "thrown" "I", .fieldLink RX1 22 "AtelierBookModel" "inPot" "[I", .methodLink RX1 81 yX1_isPot, .instanceMethod yX1_isPot, .selects RX1 yX1_isPot yX1_isPot, .initialized RX1, .code yX1_isPot cX1_isPot 2 (some .boolean), .fieldLink RX1 69 "AtelierBookModel" "pots" "I", .methodLink RX1 62 yX1_in, .static yX1_in, .code yX1_in cX1_in 3 (some .boolean), .methodLink RX1 85 yX1_isTube, .instanceMethod yX1_isTube, .selects RX1 yX1_isTube yX1_isTube, .code yX1_isTube cX1_isTube 2 (some .boolean), .fieldLink RX1 66 "AtelierBookModel" "tubes" "I", .methodLink RX1 88 yX1_gramsOf, .instanceMethod yX1_gramsOf, .selects RX1 yX1_gramsOf yX1_gramsOf, .code yX1_gramsOf cX1_gramsOf 4 (some .int)] ++ wsX10)
def wsX1_colour : List Cond := .code yX1_colour cX1_colour 6 (some .int) :: ([.fieldLink RX1 58 "AtelierBookModel" "thrown" "I", .fieldLink RX1 66 "AtelierBookModel" "tubes" "I", .fieldLink RX1 22 "AtelierBookModel" "inPot" "[I", .fieldLink RX1 7 "AtelierBookModel" "shade" "[I", .fieldLink RX1 13 "AtelierBookModel" "pigmentOf" "[I", .methodLink RX1 81 yX1_isPot, .instanceMethod yX1_isPot, .selects RX1 yX1_isPot yX1_isPot, .initialized RX1, .code yX1_isPot cX1_isPot 2 (some .boolean), .fieldLink RX1 69 "AtelierBookModel" "pots" "I", .methodLink RX1 62 yX1_in, .static yX1_in, .code yX1_in cX1_in 3 (some .boolean), .methodLink RX1 88 yX1_gramsOf, .instanceMethod yX1_gramsOf, .selects RX1 yX1_gramsOf yX1_gramsOf, .code yX1_gramsOf cX1_gramsOf 4 (some .int)] ++ wsX10)
def wsX1_of_r1 : List Cond := [Cond.fieldLink RX1 58 "AtelierBookModel" "thrown" "I", Cond.fieldLink RX1 25 "AtelierBookModel" "layers" "[I", Cond.fieldLink RX1 31 "AtelierBookModel" "cracks" "[I", Cond.fieldLink RX1 37 "AtelierBookModel" "house" "[I", Cond.fieldLink RX1 40 "AtelierBookModel" "days" "[I", Cond.methodLink RX1 96 yX1_isPicture, Cond.instanceMethod yX1_isPicture, Cond.selects RX1 yX1_isPicture yX1_isPicture, Cond.initialized RX1, Cond.code yX1_isPicture cX1_isPicture 2 (some .boolean), Cond.fieldLink RX1 72 "AtelierBookModel" "pictures" "I", Cond.methodLink RX1 62 yX1_in, Cond.static yX1_in, Cond.code yX1_in cX1_in 3 (some .boolean), Cond.methodLink RX1 109 yX1_value, Cond.instanceMethod yX1_value, Cond.selects RX1 yX1_value yX1_value, Cond.code yX1_value cX1_value 7 (some .int), Cond.fieldLink RX1 34 "AtelierBookModel" "price" "[I", Cond.methodLink RX1 103 yX1_main, Cond.instanceMethod yX1_main, Cond.selects RX1 yX1_main yX1_main, Cond.code yX1_main cX1_main 4 (some .int), Cond.fieldLink RX1 55 "AtelierBookModel" "sums" "[I"]
def wsX1_of_r2 : List Cond := [Cond.fieldLink RX1 66 "AtelierBookModel" "tubes" "I", Cond.fieldLink RX1 13 "AtelierBookModel" "pigmentOf" "[I", Cond.fieldLink RX1 28 "AtelierBookModel" "inLayer" "[I", Cond.methodLink RX1 99 yX1_layerAt, Cond.static yX1_layerAt, Cond.code yX1_layerAt cX1_layerAt 2 (some .int), Cond.methodLink RX1 119 yX1_look, Cond.instanceMethod yX1_look, Cond.selects RX1 yX1_look yX1_look, Cond.code yX1_look cX1_look 7 (some .int), Cond.fieldLink RX1 7 "AtelierBookModel" "shade" "[I"]
def wsX1_of : List Cond := .code yX1_of cX1_of 3 (some .int) :: ((wsX1_of_r1 ++ wsX1_of_r2) ++ wsX10)
def wsX1_layer : List Cond := .code yX1_layer cX1_layer 4 (some .int) :: ([.fieldLink RX1 25 "AtelierBookModel" "layers" "[I", .fieldLink RX1 58 "AtelierBookModel" "thrown" "I", .fieldLink RX1 28 "AtelierBookModel" "inLayer" "[I", .methodLink RX1 96 yX1_isPicture, .instanceMethod yX1_isPicture, .selects RX1 yX1_isPicture yX1_isPicture, .initialized RX1, .code yX1_isPicture cX1_isPicture 2 (some .boolean), .fieldLink RX1 72 "AtelierBookModel" "pictures" "I", .methodLink RX1 62 yX1_in, .static yX1_in, .code yX1_in cX1_in 3 (some .boolean), .methodLink RX1 85 yX1_isTube, .instanceMethod yX1_isTube, .selects RX1 yX1_isTube yX1_isTube, .code yX1_isTube cX1_isTube 2 (some .boolean), .fieldLink RX1 66 "AtelierBookModel" "tubes" "I", .methodLink RX1 99 yX1_layerAt, .static yX1_layerAt, .code yX1_layerAt cX1_layerAt 2 (some .int)] ++ wsX10)
def wsX1_onPictures : List Cond := .code yX1_onPictures cX1_onPictures 4 (some .int) :: ([.fieldLink RX1 28 "AtelierBookModel" "inLayer" "[I"] ++ wsX10)
def wsX1_inPots : List Cond := .code yX1_inPots cX1_inPots 4 (some .int) :: ([.fieldLink RX1 69 "AtelierBookModel" "pots" "I", .fieldLink RX1 22 "AtelierBookModel" "inPot" "[I"] ++ wsX10)
def wsX1_where : List Cond := .code yX1_where cX1_where 3 (some .int) :: ([.fieldLink RX1 58 "AtelierBookModel" "thrown" "I", .fieldLink RX1 16 "AtelierBookModel" "left" "[I", .fieldLink RX1 19 "AtelierBookModel" "wasted" "[I", .methodLink RX1 85 yX1_isTube, .instanceMethod yX1_isTube, .selects RX1 yX1_isTube yX1_isTube, .initialized RX1, .code yX1_isTube cX1_isTube 2 (some .boolean), .fieldLink RX1 66 "AtelierBookModel" "tubes" "I", .methodLink RX1 62 yX1_in, .static yX1_in, .code yX1_in cX1_in 3 (some .boolean), .methodLink RX1 122 yX1_inPots, .instanceMethod yX1_inPots, .selects RX1 yX1_inPots yX1_inPots, .code yX1_inPots cX1_inPots 4 (some .int), .fieldLink RX1 69 "AtelierBookModel" "pots" "I", .fieldLink RX1 22 "AtelierBookModel" "inPot" "[I", .methodLink RX1 125 yX1_onPictures, .instanceMethod yX1_onPictures, .selects RX1 yX1_onPictures yX1_onPictures, .code yX1_onPictures cX1_onPictures 4 (some .int), .fieldLink RX1 28 "AtelierBookModel" "inLayer" "[I"] ++ wsX10)
def wsX1_far : List Cond := .code yX1_far cX1_far 7 (some .int) :: ([.fieldLink RX1 7 "AtelierBookModel" "shade" "[I", .fieldLink RX1 13 "AtelierBookModel" "pigmentOf" "[I"] ++ wsX10)
def wsX1_recipe : List Cond := .code yX1_recipe cX1_recipe 10 (some .int) :: ([.fieldLink RX1 58 "AtelierBookModel" "thrown" "I", .fieldLink RX1 66 "AtelierBookModel" "tubes" "I", .fieldLink RX1 16 "AtelierBookModel" "left" "[I", .methodLink RX1 75 yX1_areShades, .static yX1_areShades, .initialized RX1, .code yX1_areShades cX1_areShades 3 (some .boolean), .methodLink RX1 62 yX1_in, .static yX1_in, .code yX1_in cX1_in 3 (some .boolean), .methodLink RX1 128 yX1_far, .instanceMethod yX1_far, .selects RX1 yX1_far yX1_far, .code yX1_far cX1_far 7 (some .int), .fieldLink RX1 7 "AtelierBookModel" "shade" "[I", .fieldLink RX1 13 "AtelierBookModel" "pigmentOf" "[I"] ++ wsX10)
def wsX1_paid : List Cond := .code yX1_paid cX1_paid 2 (some .int) :: ([.fieldLink RX1 58 "AtelierBookModel" "thrown" "I", .fieldLink RX1 49 "AtelierBookModel" "paid" "[I", .methodLink RX1 106 yX1_isHouse, .static yX1_isHouse, .initialized RX1, .code yX1_isHouse cX1_isHouse 1 (some .boolean), .methodLink RX1 62 yX1_in, .static yX1_in, .code yX1_in cX1_in 3 (some .boolean)] ++ wsX10)
def wsJ9_abs_0f7a4 : List Cond := .code yJ9_abs_0f7a4 cJ9_abs_0f7a4 1 (some .int) :: ([])
def wsJ9_max_7cf53 : List Cond := .code yJ9_max_7cf53 cJ9_max_7cf53 2 (some .int) :: ([])
def wsJ9_min_7cf53 : List Cond := .code yJ9_min_7cf53 cJ9_min_7cf53 2 (some .int) :: ([])
def wsL_pigment : List Cond := .codeWith yL_pigment cL_pigment 6 (some .int) [(0, 12, 15, 13), (0, 12, 19, 15)] :: ([.classLink RL 13 "java/lang/IllegalArgumentException", .classLink RL 15 "java/lang/IllegalStateException", .methodLink RL 7 yX0_pigment, .instanceMethod yX0_pigment, .selects RX0 yX0_pigment yX0_pigment, .initialized RX0, .code yX0_pigment cX0_pigment 5 (some .int), .classLink RX0 54 "java/lang/IllegalStateException", .initialized "java/lang/IllegalStateException", .fieldLink RX0 50 "AtelierBook" "pigmentCount" "I", .fieldLink RX0 9 "AtelierBook" "pigmentColours" "[I", .methodLink RX0 46 yX0_checkColour, .static yX0_checkColour, .code yX0_checkColour cX0_checkColour 3 none, .methodLink RX0 65 yX0_checkRange, .static yX0_checkRange, .code yX0_checkRange cX0_checkRange 3 none, .classLink RX0 88 "java/lang/IllegalArgumentException", .initialized "java/lang/IllegalArgumentException"] ++ wsX00 ++ (vx_atS RX0 58 "java/lang/IllegalStateException" ["java/lang/RuntimeException", "java/lang/Exception"]).filter goodWord ++ (vx_atS RX0 92 "java/lang/IllegalArgumentException" ["java/lang/RuntimeException", "java/lang/Exception"]).filter goodWord)
def wsL_tube : List Cond := .codeWith yL_tube cL_tube 5 (some .int) [(0, 10, 13, 21), (0, 10, 17, 13), (0, 10, 21, 15)] :: ([.classLink RL 21 "java/lang/IndexOutOfBoundsException", .classLink RL 13 "java/lang/IllegalArgumentException", .classLink RL 15 "java/lang/IllegalStateException", .methodLink RL 17 yX0_tube, .instanceMethod yX0_tube, .selects RX0 yX0_tube yX0_tube, .initialized RX0, .code yX0_tube cX0_tube 3 (some .int), .classLink RX0 54 "java/lang/IllegalStateException", .initialized "java/lang/IllegalStateException", .fieldLink RX0 50 "AtelierBook" "pigmentCount" "I", .fieldLink RX0 68 "AtelierBook" "tubeCount" "I", .fieldLink RX0 13 "AtelierBook" "pigmentOfTube" "[I", .fieldLink RX0 16 "AtelierBook" "gramsInTube" "[I", .methodLink RX0 61 yX0_checkNumber, .static yX0_checkNumber, .code yX0_checkNumber cX0_checkNumber 2 none, .classLink RX0 161 "java/lang/IndexOutOfBoundsException", .initialized "java/lang/IndexOutOfBoundsException", .methodLink RX0 65 yX0_checkRange, .static yX0_checkRange, .code yX0_checkRange cX0_checkRange 3 none, .classLink RX0 88 "java/lang/IllegalArgumentException", .initialized "java/lang/IllegalArgumentException"] ++ wsX00 ++ (vx_atS RX0 58 "java/lang/IllegalStateException" ["java/lang/RuntimeException", "java/lang/Exception"]).filter goodWord ++ (vx_atS RX0 165 "java/lang/IndexOutOfBoundsException" ["java/lang/RuntimeException", "java/lang/Exception"]).filter goodWord ++ (vx_atS RX0 92 "java/lang/IllegalArgumentException" ["java/lang/RuntimeException", "java/lang/Exception"]).filter goodWord)
def wsL_pot : List Cond := .codeWith yL_pot cL_pot 3 (some .int) [(0, 8, 11, 15)] :: ([.classLink RL 15 "java/lang/IllegalStateException", .methodLink RL 23 yX0_pot, .instanceMethod yX0_pot, .selects RX0 yX0_pot yX0_pot, .initialized RX0, .code yX0_pot cX0_pot 1 (some .int), .classLink RX0 54 "java/lang/IllegalStateException", .initialized "java/lang/IllegalStateException", .fieldLink RX0 73 "AtelierBook" "potCount" "I"] ++ wsX00 ++ (vx_atS RX0 58 "java/lang/IllegalStateException" ["java/lang/RuntimeException", "java/lang/Exception"]).filter goodWord)
def wsL_squeeze_r1 : List Cond := [Cond.classLink RL 21 "java/lang/IndexOutOfBoundsException", Cond.classLink RL 13 "java/lang/IllegalArgumentException", Cond.classLink RL 15 "java/lang/IllegalStateException", Cond.methodLink RL 27 yX0_squeeze, Cond.instanceMethod yX0_squeeze, Cond.selects RX0 yX0_squeeze yX0_squeeze, Cond.initialized RX0, Cond.code yX0_squeeze cX0_squeeze 4 (some .int), Cond.classLink RX0 54 "java/lang/IllegalStateException", Cond.initialized "java/lang/IllegalStateException", Cond.fieldLink RX0 73 "AtelierBook" "potCount" "I", Cond.fieldLink RX0 68 "AtelierBook" "tubeCount" "I", Cond.fieldLink RX0 16 "AtelierBook" "gramsInTube" "[I", Cond.fieldLink RX0 19 "AtelierBook" "ledger" "[I", Cond.methodLink RX0 61 yX0_checkNumber, Cond.static yX0_checkNumber, Cond.code yX0_checkNumber cX0_checkNumber 2 none, Cond.classLink RX0 161 "java/lang/IndexOutOfBoundsException", Cond.initialized "java/lang/IndexOutOfBoundsException", Cond.methodLink RX0 65 yX0_checkRange, Cond.static yX0_checkRange, Cond.code yX0_checkRange cX0_checkRange 3 none, Cond.classLink RX0 88 "java/lang/IllegalArgumentException", Cond.initialized "java/lang/IllegalArgumentException"]
def wsL_squeeze_r2 : List Cond := [Cond.methodLink RX0 80 yX0_potRow, Cond.static yX0_potRow, Cond.code yX0_potRow cX0_potRow 1 (some .int), Cond.methodLink RX0 84 yX0_place, Cond.static yX0_place, Cond.code yX0_place cX0_place 2 (some .int)]
def wsL_squeeze : List Cond := .codeWith yL_squeeze cL_squeeze 6 (some .int) [(0, 12, 15, 21), (0, 12, 19, 13), (0, 12, 23, 15)] :: ((wsL_squeeze_r1 ++ wsL_squeeze_r2) ++ wsX00 ++ (vx_atS RX0 58 "java/lang/IllegalStateException" ["java/lang/RuntimeException", "java/lang/Exception"]).filter goodWord ++ (vx_atS RX0 165 "java/lang/IndexOutOfBoundsException" ["java/lang/RuntimeException", "java/lang/Exception"]).filter goodWord ++ (vx_atS RX0 92 "java/lang/IllegalArgumentException" ["java/lang/RuntimeException", "java/lang/Exception"]).filter goodWord)
def wsL_pour_r1 : List Cond := [Cond.classLink RL 21 "java/lang/IndexOutOfBoundsException", Cond.classLink RL 13 "java/lang/IllegalArgumentException", Cond.classLink RL 15 "java/lang/IllegalStateException", Cond.methodLink RL 30 yX0_pour, Cond.instanceMethod yX0_pour, Cond.selects RX0 yX0_pour yX0_pour, Cond.initialized RX0, Cond.code yX0_pour cX0_pour 4 (some .int), Cond.classLink RX0 88 "java/lang/IllegalArgumentException", Cond.initialized "java/lang/IllegalArgumentException", Cond.classLink RX0 54 "java/lang/IllegalStateException", Cond.initialized "java/lang/IllegalStateException", Cond.fieldLink RX0 73 "AtelierBook" "potCount" "I", Cond.methodLink RX0 61 yX0_checkNumber, Cond.static yX0_checkNumber, Cond.code yX0_checkNumber cX0_checkNumber 2 none, Cond.classLink RX0 161 "java/lang/IndexOutOfBoundsException", Cond.initialized "java/lang/IndexOutOfBoundsException", Cond.methodLink RX0 65 yX0_checkRange, Cond.static yX0_checkRange, Cond.code yX0_checkRange cX0_checkRange 3 none, Cond.methodLink RX0 80 yX0_potRow, Cond.static yX0_potRow, Cond.code yX0_potRow cX0_potRow 1 (some .int)]
def wsL_pour_r2 : List Cond := [Cond.methodLink RX0 93 yX0_move, Cond.instanceMethod yX0_move, Cond.selects RX0 yX0_move yX0_move, Cond.code yX0_move cX0_move 9 (some .boolean), Cond.fieldLink RX0 68 "AtelierBook" "tubeCount" "I", Cond.fieldLink RX0 19 "AtelierBook" "ledger" "[I", Cond.methodLink RX0 99 yX0_sumOfRow, Cond.instanceMethod yX0_sumOfRow, Cond.selects RX0 yX0_sumOfRow yX0_sumOfRow, Cond.code yX0_sumOfRow cX0_sumOfRow 4 (some .int), Cond.methodLink RX0 84 yX0_place, Cond.static yX0_place, Cond.code yX0_place cX0_place 2 (some .int)]
def wsL_pour : List Cond := .codeWith yL_pour cL_pour 6 (some .int) [(0, 12, 15, 21), (0, 12, 19, 13), (0, 12, 23, 15)] :: ((wsL_pour_r1 ++ wsL_pour_r2) ++ wsX00 ++ (vx_atS RX0 92 "java/lang/IllegalArgumentException" ["java/lang/RuntimeException", "java/lang/Exception"]).filter goodWord ++ (vx_atS RX0 58 "java/lang/IllegalStateException" ["java/lang/RuntimeException", "java/lang/Exception"]).filter goodWord ++ (vx_atS RX0 165 "java/lang/IndexOutOfBoundsException" ["java/lang/RuntimeException", "java/lang/Exception"]).filter goodWord)
def wsL_scrape : List Cond := .codeWith yL_scrape cL_scrape 4 (some .int) [(0, 9, 12, 21)] :: ([.classLink RL 21 "java/lang/IndexOutOfBoundsException", .methodLink RL 33 yX0_scrape, .instanceMethod yX0_scrape, .selects RX0 yX0_scrape yX0_scrape, .initialized RX0, .code yX0_scrape cX0_scrape 2 (some .int), .fieldLink RX0 73 "AtelierBook" "potCount" "I", .methodLink RX0 61 yX0_checkNumber, .static yX0_checkNumber, .code yX0_checkNumber cX0_checkNumber 2 none, .classLink RX0 161 "java/lang/IndexOutOfBoundsException", .initialized "java/lang/IndexOutOfBoundsException", .methodLink RX0 80 yX0_potRow, .static yX0_potRow, .code yX0_potRow cX0_potRow 1 (some .int), .methodLink RX0 102 yX0_waste, .instanceMethod yX0_waste, .selects RX0 yX0_waste yX0_waste, .code yX0_waste cX0_waste 5 (some .int), .fieldLink RX0 68 "AtelierBook" "tubeCount" "I", .fieldLink RX0 19 "AtelierBook" "ledger" "[I", .methodLink RX0 84 yX0_place, .static yX0_place, .code yX0_place cX0_place 2 (some .int)] ++ wsX00 ++ (vx_atS RX0 165 "java/lang/IndexOutOfBoundsException" ["java/lang/RuntimeException", "java/lang/Exception"]).filter goodWord)
def wsL_picture : List Cond := .codeWith yL_picture cL_picture 3 (some .int) [(0, 8, 11, 15)] :: ([.classLink RL 15 "java/lang/IllegalStateException", .methodLink RL 37 yX0_picture, .instanceMethod yX0_picture, .selects RX0 yX0_picture yX0_picture, .initialized RX0, .code yX0_picture cX0_picture 1 (some .int), .classLink RX0 54 "java/lang/IllegalStateException", .initialized "java/lang/IllegalStateException", .fieldLink RX0 105 "AtelierBook" "pictureCount" "I"] ++ wsX00 ++ (vx_atS RX0 58 "java/lang/IllegalStateException" ["java/lang/RuntimeException", "java/lang/Exception"]).filter goodWord)
def wsL_paint_r1 : List Cond := [Cond.classLink RL 21 "java/lang/IndexOutOfBoundsException", Cond.classLink RL 13 "java/lang/IllegalArgumentException", Cond.classLink RL 15 "java/lang/IllegalStateException", Cond.methodLink RL 40 yX0_paint, Cond.instanceMethod yX0_paint, Cond.selects RX0 yX0_paint yX0_paint, Cond.initialized RX0, Cond.code yX0_paint cX0_paint 4 (some .int), Cond.classLink RX0 54 "java/lang/IllegalStateException", Cond.initialized "java/lang/IllegalStateException", Cond.fieldLink RX0 105 "AtelierBook" "pictureCount" "I", Cond.fieldLink RX0 73 "AtelierBook" "potCount" "I", Cond.fieldLink RX0 22 "AtelierBook" "layerCounts" "[I", Cond.methodLink RX0 61 yX0_checkNumber, Cond.static yX0_checkNumber, Cond.code yX0_checkNumber cX0_checkNumber 2 none, Cond.classLink RX0 161 "java/lang/IndexOutOfBoundsException", Cond.initialized "java/lang/IndexOutOfBoundsException", Cond.methodLink RX0 65 yX0_checkRange, Cond.static yX0_checkRange, Cond.code yX0_checkRange cX0_checkRange 3 none, Cond.classLink RX0 88 "java/lang/IllegalArgumentException", Cond.initialized "java/lang/IllegalArgumentException", Cond.methodLink RX0 110 yX0_checkAtHome]
def wsL_paint_r2 : List Cond := [Cond.instanceMethod yX0_checkAtHome, Cond.selects RX0 yX0_checkAtHome yX0_checkAtHome, Cond.code yX0_checkAtHome cX0_checkAtHome 2 none, Cond.methodLink RX0 143 yX0_isLent, Cond.instanceMethod yX0_isLent, Cond.selects RX0 yX0_isLent yX0_isLent, Cond.code yX0_isLent cX0_isLent 2 (some .boolean), Cond.fieldLink RX0 31 "AtelierBook" "loanDays" "[I", Cond.methodLink RX0 80 yX0_potRow, Cond.static yX0_potRow, Cond.code yX0_potRow cX0_potRow 1 (some .int), Cond.methodLink RX0 116 yX0_layerRow, Cond.static yX0_layerRow, Cond.code yX0_layerRow cX0_layerRow 2 (some .int), Cond.methodLink RX0 93 yX0_move, Cond.instanceMethod yX0_move, Cond.selects RX0 yX0_move yX0_move, Cond.code yX0_move cX0_move 9 (some .boolean), Cond.fieldLink RX0 68 "AtelierBook" "tubeCount" "I", Cond.fieldLink RX0 19 "AtelierBook" "ledger" "[I", Cond.methodLink RX0 99 yX0_sumOfRow, Cond.instanceMethod yX0_sumOfRow, Cond.selects RX0 yX0_sumOfRow yX0_sumOfRow, Cond.code yX0_sumOfRow cX0_sumOfRow 4 (some .int)]
def wsL_paint_r3 : List Cond := [Cond.methodLink RX0 84 yX0_place, Cond.static yX0_place, Cond.code yX0_place cX0_place 2 (some .int)]
def wsL_paint : List Cond := .codeWith yL_paint cL_paint 6 (some .int) [(0, 12, 15, 21), (0, 12, 19, 13), (0, 12, 23, 15)] :: ((wsL_paint_r1 ++ (wsL_paint_r2 ++ wsL_paint_r3)) ++ wsX00 ++ (vx_atS RX0 58 "java/lang/IllegalStateException" ["java/lang/RuntimeException", "java/lang/Exception"]).filter goodWord ++ (vx_atS RX0 165 "java/lang/IndexOutOfBoundsException" ["java/lang/RuntimeException", "java/lang/Exception"]).filter goodWord ++ (vx_atS RX0 92 "java/lang/IllegalArgumentException" ["java/lang/RuntimeException", "java/lang/Exception"]).filter goodWord)
def wsL_clean_r1 : List Cond := [Cond.classLink RL 21 "java/lang/IndexOutOfBoundsException", Cond.classLink RL 13 "java/lang/IllegalArgumentException", Cond.classLink RL 15 "java/lang/IllegalStateException", Cond.methodLink RL 43 yX0_clean, Cond.instanceMethod yX0_clean, Cond.selects RX0 yX0_clean yX0_clean, Cond.initialized RX0, Cond.code yX0_clean cX0_clean 5 (some .int), Cond.classLink RX0 54 "java/lang/IllegalStateException", Cond.initialized "java/lang/IllegalStateException", Cond.fieldLink RX0 105 "AtelierBook" "pictureCount" "I", Cond.fieldLink RX0 22 "AtelierBook" "layerCounts" "[I", Cond.methodLink RX0 61 yX0_checkNumber, Cond.static yX0_checkNumber, Cond.code yX0_checkNumber cX0_checkNumber 2 none, Cond.classLink RX0 161 "java/lang/IndexOutOfBoundsException", Cond.initialized "java/lang/IndexOutOfBoundsException", Cond.methodLink RX0 65 yX0_checkRange, Cond.static yX0_checkRange, Cond.code yX0_checkRange cX0_checkRange 3 none, Cond.classLink RX0 88 "java/lang/IllegalArgumentException", Cond.initialized "java/lang/IllegalArgumentException", Cond.methodLink RX0 110 yX0_checkAtHome, Cond.instanceMethod yX0_checkAtHome]
def wsL_clean_r2 : List Cond := [Cond.selects RX0 yX0_checkAtHome yX0_checkAtHome, Cond.code yX0_checkAtHome cX0_checkAtHome 2 none, Cond.methodLink RX0 143 yX0_isLent, Cond.instanceMethod yX0_isLent, Cond.selects RX0 yX0_isLent yX0_isLent, Cond.code yX0_isLent cX0_isLent 2 (some .boolean), Cond.fieldLink RX0 31 "AtelierBook" "loanDays" "[I", Cond.methodLink RX0 116 yX0_layerRow, Cond.static yX0_layerRow, Cond.code yX0_layerRow cX0_layerRow 2 (some .int), Cond.methodLink RX0 102 yX0_waste, Cond.instanceMethod yX0_waste, Cond.selects RX0 yX0_waste yX0_waste, Cond.code yX0_waste cX0_waste 5 (some .int), Cond.fieldLink RX0 68 "AtelierBook" "tubeCount" "I", Cond.fieldLink RX0 19 "AtelierBook" "ledger" "[I", Cond.methodLink RX0 84 yX0_place, Cond.static yX0_place, Cond.code yX0_place cX0_place 2 (some .int)]
def wsL_clean : List Cond := .codeWith yL_clean cL_clean 5 (some .int) [(0, 10, 13, 21), (0, 10, 17, 13), (0, 10, 21, 15)] :: ((wsL_clean_r1 ++ wsL_clean_r2) ++ wsX00 ++ (vx_atS RX0 58 "java/lang/IllegalStateException" ["java/lang/RuntimeException", "java/lang/Exception"]).filter goodWord ++ (vx_atS RX0 165 "java/lang/IndexOutOfBoundsException" ["java/lang/RuntimeException", "java/lang/Exception"]).filter goodWord ++ (vx_atS RX0 92 "java/lang/IllegalArgumentException" ["java/lang/RuntimeException", "java/lang/Exception"]).filter goodWord)
def wsL_damp : List Cond := .codeWith yL_damp cL_damp 5 (some .int) [(0, 10, 13, 21), (0, 10, 17, 13)] :: ([.classLink RL 21 "java/lang/IndexOutOfBoundsException", .classLink RL 13 "java/lang/IllegalArgumentException", .methodLink RL 46 yX0_damp, .instanceMethod yX0_damp, .selects RX0 yX0_damp yX0_damp, .initialized RX0, .code yX0_damp cX0_damp 4 (some .int), .fieldLink RX0 40 "AtelierBook" "houseDamps" "[I", .methodLink RX0 61 yX0_checkNumber, .static yX0_checkNumber, .code yX0_checkNumber cX0_checkNumber 2 none, .classLink RX0 161 "java/lang/IndexOutOfBoundsException", .initialized "java/lang/IndexOutOfBoundsException", .methodLink RX0 65 yX0_checkRange, .static yX0_checkRange, .code yX0_checkRange cX0_checkRange 3 none, .classLink RX0 88 "java/lang/IllegalArgumentException", .initialized "java/lang/IllegalArgumentException"] ++ wsX00 ++ (vx_atS RX0 165 "java/lang/IndexOutOfBoundsException" ["java/lang/RuntimeException", "java/lang/Exception"]).filter goodWord ++ (vx_atS RX0 92 "java/lang/IllegalArgumentException" ["java/lang/RuntimeException", "java/lang/Exception"]).filter goodWord)
def wsL_lend_r1 : List Cond := [Cond.classLink RL 21 "java/lang/IndexOutOfBoundsException", Cond.classLink RL 13 "java/lang/IllegalArgumentException", Cond.classLink RL 15 "java/lang/IllegalStateException", Cond.methodLink RL 49 yX0_lend, Cond.instanceMethod yX0_lend, Cond.selects RX0 yX0_lend yX0_lend, Cond.initialized RX0, Cond.code yX0_lend cX0_lend 4 (some .int), Cond.classLink RX0 54 "java/lang/IllegalStateException", Cond.initialized "java/lang/IllegalStateException", Cond.fieldLink RX0 105 "AtelierBook" "pictureCount" "I", Cond.fieldLink RX0 25 "AtelierBook" "crackCounts" "[I", Cond.fieldLink RX0 37 "AtelierBook" "loanCosts" "[I", Cond.fieldLink RX0 34 "AtelierBook" "loanHouses" "[I", Cond.fieldLink RX0 31 "AtelierBook" "loanDays" "[I", Cond.methodLink RX0 61 yX0_checkNumber, Cond.static yX0_checkNumber, Cond.code yX0_checkNumber cX0_checkNumber 2 none, Cond.classLink RX0 161 "java/lang/IndexOutOfBoundsException", Cond.initialized "java/lang/IndexOutOfBoundsException", Cond.methodLink RX0 65 yX0_checkRange, Cond.static yX0_checkRange, Cond.code yX0_checkRange cX0_checkRange 3 none, Cond.classLink RX0 88 "java/lang/IllegalArgumentException"]
def wsL_lend_r2 : List Cond := [Cond.initialized "java/lang/IllegalArgumentException", Cond.methodLink RX0 110 yX0_checkAtHome, Cond.instanceMethod yX0_checkAtHome, Cond.selects RX0 yX0_checkAtHome yX0_checkAtHome, Cond.code yX0_checkAtHome cX0_checkAtHome 2 none, Cond.methodLink RX0 143 yX0_isLent, Cond.instanceMethod yX0_isLent, Cond.selects RX0 yX0_isLent yX0_isLent, Cond.code yX0_isLent cX0_isLent 2 (some .boolean), Cond.methodLink RX0 123 yX0_valueOf, Cond.instanceMethod yX0_valueOf, Cond.selects RX0 yX0_valueOf yX0_valueOf, Cond.code yX0_valueOf cX0_valueOf 3 (some .int), Cond.methodLink RX0 182 Lib.Math.max.name, Cond.static Lib.Math.max.name, Cond.initialized "java/lang/Math", Cond.code Lib.Math.max.name Lib.Math.max.code 2 (some .int), Cond.methodLink RX0 179 yX0_averagePriceOfAlike, Cond.instanceMethod yX0_averagePriceOfAlike, Cond.selects RX0 yX0_averagePriceOfAlike yX0_averagePriceOfAlike, Cond.code yX0_averagePriceOfAlike cX0_averagePriceOfAlike 6 (some .int), Cond.fieldLink RX0 28 "AtelierBook" "latestPrices" "[I", Cond.methodLink RX0 140 yX0_mainPigmentOf, Cond.instanceMethod yX0_mainPigmentOf]
def wsL_lend_r3 : List Cond := [Cond.selects RX0 yX0_mainPigmentOf yX0_mainPigmentOf, Cond.code yX0_mainPigmentOf cX0_mainPigmentOf 3 (some .int), Cond.fieldLink RX0 22 "AtelierBook" "layerCounts" "[I", Cond.methodLink RX0 116 yX0_layerRow, Cond.static yX0_layerRow, Cond.code yX0_layerRow cX0_layerRow 2 (some .int), Cond.methodLink RX0 176 yX0_mainPigmentOfRow, Cond.instanceMethod yX0_mainPigmentOfRow, Cond.selects RX0 yX0_mainPigmentOfRow yX0_mainPigmentOfRow, Cond.code yX0_mainPigmentOfRow cX0_mainPigmentOfRow 6 (some .int), Cond.fieldLink RX0 50 "AtelierBook" "pigmentCount" "I", Cond.methodLink RX0 173 yX0_gramsOfPigment, Cond.instanceMethod yX0_gramsOfPigment, Cond.selects RX0 yX0_gramsOfPigment yX0_gramsOfPigment, Cond.code yX0_gramsOfPigment cX0_gramsOfPigment 5 (some .int), Cond.fieldLink RX0 68 "AtelierBook" "tubeCount" "I", Cond.fieldLink RX0 13 "AtelierBook" "pigmentOfTube" "[I", Cond.fieldLink RX0 19 "AtelierBook" "ledger" "[I", Cond.methodLink RX0 84 yX0_place, Cond.static yX0_place, Cond.code yX0_place cX0_place 2 (some .int)]
def wsL_lend : List Cond := .codeWith yL_lend cL_lend 6 (some .int) [(0, 12, 15, 21), (0, 12, 19, 13), (0, 12, 23, 15)] :: ((wsL_lend_r1 ++ (wsL_lend_r2 ++ wsL_lend_r3)) ++ wsX00 ++ (vx_atS RX0 58 "java/lang/IllegalStateException" ["java/lang/RuntimeException", "java/lang/Exception"]).filter goodWord ++ (vx_atS RX0 165 "java/lang/IndexOutOfBoundsException" ["java/lang/RuntimeException", "java/lang/Exception"]).filter goodWord ++ (vx_atS RX0 92 "java/lang/IllegalArgumentException" ["java/lang/RuntimeException", "java/lang/Exception"]).filter goodWord)
def wsL_sell_r1 : List Cond := [Cond.classLink RL 21 "java/lang/IndexOutOfBoundsException", Cond.classLink RL 13 "java/lang/IllegalArgumentException", Cond.classLink RL 15 "java/lang/IllegalStateException", Cond.methodLink RL 52 yX0_sell, Cond.instanceMethod yX0_sell, Cond.selects RX0 yX0_sell yX0_sell, Cond.initialized RX0, Cond.code yX0_sell cX0_sell 3 (some .int), Cond.classLink RX0 54 "java/lang/IllegalStateException", Cond.initialized "java/lang/IllegalStateException", Cond.fieldLink RX0 105 "AtelierBook" "pictureCount" "I", Cond.constant RX0 126 (100000), Cond.fieldLink RX0 22 "AtelierBook" "layerCounts" "[I", Cond.fieldLink RX0 28 "AtelierBook" "latestPrices" "[I", Cond.methodLink RX0 61 yX0_checkNumber, Cond.static yX0_checkNumber, Cond.code yX0_checkNumber cX0_checkNumber 2 none, Cond.classLink RX0 161 "java/lang/IndexOutOfBoundsException", Cond.initialized "java/lang/IndexOutOfBoundsException", Cond.methodLink RX0 65 yX0_checkRange, Cond.static yX0_checkRange, Cond.code yX0_checkRange cX0_checkRange 3 none, Cond.classLink RX0 88 "java/lang/IllegalArgumentException", Cond.initialized "java/lang/IllegalArgumentException"]
def wsL_sell_r2 : List Cond := [Cond.methodLink RX0 110 yX0_checkAtHome, Cond.instanceMethod yX0_checkAtHome, Cond.selects RX0 yX0_checkAtHome yX0_checkAtHome, Cond.code yX0_checkAtHome cX0_checkAtHome 2 none, Cond.methodLink RX0 143 yX0_isLent, Cond.instanceMethod yX0_isLent, Cond.selects RX0 yX0_isLent yX0_isLent, Cond.code yX0_isLent cX0_isLent 2 (some .boolean), Cond.fieldLink RX0 31 "AtelierBook" "loanDays" "[I", Cond.methodLink RX0 123 yX0_valueOf, Cond.instanceMethod yX0_valueOf, Cond.selects RX0 yX0_valueOf yX0_valueOf, Cond.code yX0_valueOf cX0_valueOf 3 (some .int), Cond.fieldLink RX0 25 "AtelierBook" "crackCounts" "[I", Cond.methodLink RX0 182 Lib.Math.max.name, Cond.static Lib.Math.max.name, Cond.initialized "java/lang/Math", Cond.code Lib.Math.max.name Lib.Math.max.code 2 (some .int), Cond.methodLink RX0 179 yX0_averagePriceOfAlike, Cond.instanceMethod yX0_averagePriceOfAlike, Cond.selects RX0 yX0_averagePriceOfAlike yX0_averagePriceOfAlike, Cond.code yX0_averagePriceOfAlike cX0_averagePriceOfAlike 6 (some .int), Cond.methodLink RX0 140 yX0_mainPigmentOf, Cond.instanceMethod yX0_mainPigmentOf]
def wsL_sell_r3 : List Cond := [Cond.selects RX0 yX0_mainPigmentOf yX0_mainPigmentOf, Cond.code yX0_mainPigmentOf cX0_mainPigmentOf 3 (some .int), Cond.methodLink RX0 116 yX0_layerRow, Cond.static yX0_layerRow, Cond.code yX0_layerRow cX0_layerRow 2 (some .int), Cond.methodLink RX0 176 yX0_mainPigmentOfRow, Cond.instanceMethod yX0_mainPigmentOfRow, Cond.selects RX0 yX0_mainPigmentOfRow yX0_mainPigmentOfRow, Cond.code yX0_mainPigmentOfRow cX0_mainPigmentOfRow 6 (some .int), Cond.fieldLink RX0 50 "AtelierBook" "pigmentCount" "I", Cond.methodLink RX0 173 yX0_gramsOfPigment, Cond.instanceMethod yX0_gramsOfPigment, Cond.selects RX0 yX0_gramsOfPigment yX0_gramsOfPigment, Cond.code yX0_gramsOfPigment cX0_gramsOfPigment 5 (some .int), Cond.fieldLink RX0 68 "AtelierBook" "tubeCount" "I", Cond.fieldLink RX0 13 "AtelierBook" "pigmentOfTube" "[I", Cond.fieldLink RX0 19 "AtelierBook" "ledger" "[I", Cond.methodLink RX0 84 yX0_place, Cond.static yX0_place, Cond.code yX0_place cX0_place 2 (some .int)]
def wsL_sell : List Cond := .codeWith yL_sell cL_sell 5 (some .int) [(0, 10, 13, 21), (0, 10, 17, 13), (0, 10, 21, 15)] :: ((wsL_sell_r1 ++ (wsL_sell_r2 ++ wsL_sell_r3)) ++ wsX00 ++ (vx_atS RX0 58 "java/lang/IllegalStateException" ["java/lang/RuntimeException", "java/lang/Exception"]).filter goodWord ++ (vx_atS RX0 165 "java/lang/IndexOutOfBoundsException" ["java/lang/RuntimeException", "java/lang/Exception"]).filter goodWord ++ (vx_atS RX0 92 "java/lang/IllegalArgumentException" ["java/lang/RuntimeException", "java/lang/Exception"]).filter goodWord)
def wsL_pass_r1 : List Cond := [Cond.classLink RL 13 "java/lang/IllegalArgumentException", Cond.classLink RL 15 "java/lang/IllegalStateException", Cond.methodLink RL 55 yX0_pass, Cond.instanceMethod yX0_pass, Cond.selects RX0 yX0_pass yX0_pass, Cond.initialized RX0, Cond.code yX0_pass cX0_pass 3 (some .int), Cond.classLink RX0 54 "java/lang/IllegalStateException", Cond.initialized "java/lang/IllegalStateException", Cond.fieldLink RX0 129 "AtelierBook" "today" "I", Cond.fieldLink RX0 105 "AtelierBook" "pictureCount" "I", Cond.methodLink RX0 65 yX0_checkRange, Cond.static yX0_checkRange, Cond.code yX0_checkRange cX0_checkRange 3 none, Cond.classLink RX0 88 "java/lang/IllegalArgumentException", Cond.initialized "java/lang/IllegalArgumentException", Cond.methodLink RX0 134 yX0_passForLoan, Cond.instanceMethod yX0_passForLoan, Cond.selects RX0 yX0_passForLoan yX0_passForLoan, Cond.code yX0_passForLoan cX0_passForLoan 5 none, Cond.fieldLink RX0 31 "AtelierBook" "loanDays" "[I", Cond.methodLink RX0 187 Lib.Math.min.name, Cond.static Lib.Math.min.name, Cond.initialized "java/lang/Math"]
def wsL_pass_r2 : List Cond := [Cond.code Lib.Math.min.name Lib.Math.min.code 2 (some .int), Cond.fieldLink RX0 34 "AtelierBook" "loanHouses" "[I", Cond.fieldLink RX0 40 "AtelierBook" "houseDamps" "[I", Cond.methodLink RX0 190 Lib.Math.abs.name, Cond.static Lib.Math.abs.name, Cond.code Lib.Math.abs.name Lib.Math.abs.code 1 (some .int), Cond.fieldLink RX0 25 "AtelierBook" "crackCounts" "[I", Cond.fieldLink RX0 43 "AtelierBook" "housePayments" "[I", Cond.fieldLink RX0 37 "AtelierBook" "loanCosts" "[I"]
def wsL_pass : List Cond := .codeWith yL_pass cL_pass 4 (some .int) [(0, 9, 12, 13), (0, 9, 15, 15)] :: ((wsL_pass_r1 ++ wsL_pass_r2) ++ wsX00 ++ (vx_atS RX0 58 "java/lang/IllegalStateException" ["java/lang/RuntimeException", "java/lang/Exception"]).filter goodWord ++ (vx_atS RX0 92 "java/lang/IllegalArgumentException" ["java/lang/RuntimeException", "java/lang/Exception"]).filter goodWord)
def wsL_left : List Cond := .codeWith yL_left cL_left 4 (some .int) [(0, 9, 12, 21)] :: ([.classLink RL 21 "java/lang/IndexOutOfBoundsException", .methodLink RL 58 yX0_left, .instanceMethod yX0_left, .selects RX0 yX0_left yX0_left, .initialized RX0, .code yX0_left cX0_left 2 (some .int), .fieldLink RX0 68 "AtelierBook" "tubeCount" "I", .fieldLink RX0 16 "AtelierBook" "gramsInTube" "[I", .methodLink RX0 61 yX0_checkNumber, .static yX0_checkNumber, .code yX0_checkNumber cX0_checkNumber 2 none, .classLink RX0 161 "java/lang/IndexOutOfBoundsException", .initialized "java/lang/IndexOutOfBoundsException"] ++ wsX00 ++ (vx_atS RX0 165 "java/lang/IndexOutOfBoundsException" ["java/lang/RuntimeException", "java/lang/Exception"]).filter goodWord)
def wsL_has : List Cond := .codeWith yL_has cL_has 5 (some .int) [(0, 10, 13, 21)] :: ([.classLink RL 21 "java/lang/IndexOutOfBoundsException", .methodLink RL 61 yX0_has, .instanceMethod yX0_has, .selects RX0 yX0_has yX0_has, .initialized RX0, .code yX0_has cX0_has 3 (some .int), .fieldLink RX0 73 "AtelierBook" "potCount" "I", .fieldLink RX0 68 "AtelierBook" "tubeCount" "I", .fieldLink RX0 19 "AtelierBook" "ledger" "[I", .methodLink RX0 61 yX0_checkNumber, .static yX0_checkNumber, .code yX0_checkNumber cX0_checkNumber 2 none, .classLink RX0 161 "java/lang/IndexOutOfBoundsException", .initialized "java/lang/IndexOutOfBoundsException", .methodLink RX0 80 yX0_potRow, .static yX0_potRow, .code yX0_potRow cX0_potRow 1 (some .int), .methodLink RX0 99 yX0_sumOfRow, .instanceMethod yX0_sumOfRow, .selects RX0 yX0_sumOfRow yX0_sumOfRow, .code yX0_sumOfRow cX0_sumOfRow 4 (some .int), .methodLink RX0 84 yX0_place, .static yX0_place, .code yX0_place cX0_place 2 (some .int)] ++ wsX00 ++ (vx_atS RX0 165 "java/lang/IndexOutOfBoundsException" ["java/lang/RuntimeException", "java/lang/Exception"]).filter goodWord)
def wsL_colour_r1 : List Cond := [Cond.classLink RL 21 "java/lang/IndexOutOfBoundsException", Cond.classLink RL 13 "java/lang/IllegalArgumentException", Cond.methodLink RL 64 yX0_colour, Cond.instanceMethod yX0_colour, Cond.selects RX0 yX0_colour yX0_colour, Cond.initialized RX0, Cond.code yX0_colour cX0_colour 3 (some .int), Cond.fieldLink RX0 73 "AtelierBook" "potCount" "I", Cond.methodLink RX0 61 yX0_checkNumber, Cond.static yX0_checkNumber, Cond.code yX0_checkNumber cX0_checkNumber 2 none, Cond.classLink RX0 161 "java/lang/IndexOutOfBoundsException", Cond.initialized "java/lang/IndexOutOfBoundsException", Cond.methodLink RX0 65 yX0_checkRange, Cond.static yX0_checkRange, Cond.code yX0_checkRange cX0_checkRange 3 none, Cond.classLink RX0 88 "java/lang/IllegalArgumentException", Cond.initialized "java/lang/IllegalArgumentException", Cond.methodLink RX0 80 yX0_potRow, Cond.static yX0_potRow, Cond.code yX0_potRow cX0_potRow 1 (some .int), Cond.methodLink RX0 137 yX0_colourOfRow, Cond.instanceMethod yX0_colourOfRow, Cond.selects RX0 yX0_colourOfRow yX0_colourOfRow]
def wsL_colour_r2 : List Cond := [Cond.code yX0_colourOfRow cX0_colourOfRow 7 (some .int), Cond.fieldLink RX0 68 "AtelierBook" "tubeCount" "I", Cond.fieldLink RX0 19 "AtelierBook" "ledger" "[I", Cond.methodLink RX0 84 yX0_place, Cond.static yX0_place, Cond.code yX0_place cX0_place 2 (some .int), Cond.methodLink RX0 170 yX0_colourOfTube, Cond.instanceMethod yX0_colourOfTube, Cond.selects RX0 yX0_colourOfTube yX0_colourOfTube, Cond.code yX0_colourOfTube cX0_colourOfTube 3 (some .int), Cond.fieldLink RX0 9 "AtelierBook" "pigmentColours" "[I", Cond.fieldLink RX0 13 "AtelierBook" "pigmentOfTube" "[I"]
def wsL_colour : List Cond := .codeWith yL_colour cL_colour 5 (some .int) [(0, 10, 13, 21), (0, 10, 17, 13)] :: ((wsL_colour_r1 ++ wsL_colour_r2) ++ wsX00 ++ (vx_atS RX0 165 "java/lang/IndexOutOfBoundsException" ["java/lang/RuntimeException", "java/lang/Exception"]).filter goodWord ++ (vx_atS RX0 92 "java/lang/IllegalArgumentException" ["java/lang/RuntimeException", "java/lang/Exception"]).filter goodWord)
def wsL_of_r1 : List Cond := [Cond.classLink RL 21 "java/lang/IndexOutOfBoundsException", Cond.classLink RL 13 "java/lang/IllegalArgumentException", Cond.methodLink RL 67 yX0_of, Cond.instanceMethod yX0_of, Cond.selects RX0 yX0_of yX0_of, Cond.initialized RX0, Cond.code yX0_of cX0_of 3 (some .int), Cond.fieldLink RX0 105 "AtelierBook" "pictureCount" "I", Cond.fieldLink RX0 22 "AtelierBook" "layerCounts" "[I", Cond.fieldLink RX0 25 "AtelierBook" "crackCounts" "[I", Cond.fieldLink RX0 34 "AtelierBook" "loanHouses" "[I", Cond.fieldLink RX0 31 "AtelierBook" "loanDays" "[I", Cond.methodLink RX0 61 yX0_checkNumber, Cond.static yX0_checkNumber, Cond.code yX0_checkNumber cX0_checkNumber 2 none, Cond.classLink RX0 161 "java/lang/IndexOutOfBoundsException", Cond.initialized "java/lang/IndexOutOfBoundsException", Cond.methodLink RX0 65 yX0_checkRange, Cond.static yX0_checkRange, Cond.code yX0_checkRange cX0_checkRange 3 none, Cond.classLink RX0 88 "java/lang/IllegalArgumentException", Cond.initialized "java/lang/IllegalArgumentException", Cond.methodLink RX0 123 yX0_valueOf, Cond.instanceMethod yX0_valueOf]
def wsL_of_r2 : List Cond := [Cond.selects RX0 yX0_valueOf yX0_valueOf, Cond.code yX0_valueOf cX0_valueOf 3 (some .int), Cond.methodLink RX0 182 Lib.Math.max.name, Cond.static Lib.Math.max.name, Cond.initialized "java/lang/Math", Cond.code Lib.Math.max.name Lib.Math.max.code 2 (some .int), Cond.methodLink RX0 179 yX0_averagePriceOfAlike, Cond.instanceMethod yX0_averagePriceOfAlike, Cond.selects RX0 yX0_averagePriceOfAlike yX0_averagePriceOfAlike, Cond.code yX0_averagePriceOfAlike cX0_averagePriceOfAlike 6 (some .int), Cond.fieldLink RX0 28 "AtelierBook" "latestPrices" "[I", Cond.methodLink RX0 140 yX0_mainPigmentOf, Cond.instanceMethod yX0_mainPigmentOf, Cond.selects RX0 yX0_mainPigmentOf yX0_mainPigmentOf, Cond.code yX0_mainPigmentOf cX0_mainPigmentOf 3 (some .int), Cond.methodLink RX0 116 yX0_layerRow, Cond.static yX0_layerRow, Cond.code yX0_layerRow cX0_layerRow 2 (some .int), Cond.methodLink RX0 176 yX0_mainPigmentOfRow, Cond.instanceMethod yX0_mainPigmentOfRow, Cond.selects RX0 yX0_mainPigmentOfRow yX0_mainPigmentOfRow, Cond.code yX0_mainPigmentOfRow cX0_mainPigmentOfRow 6 (some .int), Cond.fieldLink RX0 50 "AtelierBook" "pigmentCount" "I", Cond.methodLink RX0 173 yX0_gramsOfPigment]
def wsL_of_r3 : List Cond := [Cond.instanceMethod yX0_gramsOfPigment, Cond.selects RX0 yX0_gramsOfPigment yX0_gramsOfPigment, Cond.code yX0_gramsOfPigment cX0_gramsOfPigment 5 (some .int), Cond.fieldLink RX0 68 "AtelierBook" "tubeCount" "I", Cond.fieldLink RX0 13 "AtelierBook" "pigmentOfTube" "[I", Cond.fieldLink RX0 19 "AtelierBook" "ledger" "[I", Cond.methodLink RX0 84 yX0_place, Cond.static yX0_place, Cond.code yX0_place cX0_place 2 (some .int), Cond.methodLink RX0 143 yX0_isLent, Cond.instanceMethod yX0_isLent, Cond.selects RX0 yX0_isLent yX0_isLent, Cond.code yX0_isLent cX0_isLent 2 (some .boolean), Cond.methodLink RX0 147 yX0_lookOf, Cond.instanceMethod yX0_lookOf, Cond.selects RX0 yX0_lookOf yX0_lookOf, Cond.code yX0_lookOf cX0_lookOf 4 (some .int), Cond.methodLink RX0 137 yX0_colourOfRow, Cond.instanceMethod yX0_colourOfRow, Cond.selects RX0 yX0_colourOfRow yX0_colourOfRow, Cond.code yX0_colourOfRow cX0_colourOfRow 7 (some .int), Cond.methodLink RX0 170 yX0_colourOfTube, Cond.instanceMethod yX0_colourOfTube, Cond.selects RX0 yX0_colourOfTube yX0_colourOfTube]
def wsL_of_r4 : List Cond := [Cond.code yX0_colourOfTube cX0_colourOfTube 3 (some .int), Cond.fieldLink RX0 9 "AtelierBook" "pigmentColours" "[I"]
def wsL_of : List Cond := .codeWith yL_of cL_of 5 (some .int) [(0, 10, 13, 21), (0, 10, 17, 13)] :: ((wsL_of_r1 ++ (wsL_of_r2 ++ (wsL_of_r3 ++ wsL_of_r4))) ++ wsX00 ++ (vx_atS RX0 165 "java/lang/IndexOutOfBoundsException" ["java/lang/RuntimeException", "java/lang/Exception"]).filter goodWord ++ (vx_atS RX0 92 "java/lang/IllegalArgumentException" ["java/lang/RuntimeException", "java/lang/Exception"]).filter goodWord)
def wsL_layer : List Cond := .codeWith yL_layer cL_layer 6 (some .int) [(0, 12, 15, 21)] :: ([.classLink RL 21 "java/lang/IndexOutOfBoundsException", .methodLink RL 70 yX0_layer, .instanceMethod yX0_layer, .selects RX0 yX0_layer yX0_layer, .initialized RX0, .code yX0_layer cX0_layer 4 (some .int), .fieldLink RX0 105 "AtelierBook" "pictureCount" "I", .fieldLink RX0 22 "AtelierBook" "layerCounts" "[I", .fieldLink RX0 68 "AtelierBook" "tubeCount" "I", .fieldLink RX0 19 "AtelierBook" "ledger" "[I", .methodLink RX0 61 yX0_checkNumber, .static yX0_checkNumber, .code yX0_checkNumber cX0_checkNumber 2 none, .classLink RX0 161 "java/lang/IndexOutOfBoundsException", .initialized "java/lang/IndexOutOfBoundsException", .methodLink RX0 116 yX0_layerRow, .static yX0_layerRow, .code yX0_layerRow cX0_layerRow 2 (some .int), .methodLink RX0 84 yX0_place, .static yX0_place, .code yX0_place cX0_place 2 (some .int)] ++ wsX00 ++ (vx_atS RX0 165 "java/lang/IndexOutOfBoundsException" ["java/lang/RuntimeException", "java/lang/Exception"]).filter goodWord)
def wsL_where_r1 : List Cond := [Cond.classLink RL 21 "java/lang/IndexOutOfBoundsException", Cond.classLink RL 13 "java/lang/IllegalArgumentException", Cond.methodLink RL 73 yX0_where, Cond.instanceMethod yX0_where, Cond.selects RX0 yX0_where yX0_where, Cond.initialized RX0, Cond.code yX0_where cX0_where 3 (some .int), Cond.fieldLink RX0 68 "AtelierBook" "tubeCount" "I", Cond.fieldLink RX0 16 "AtelierBook" "gramsInTube" "[I", Cond.methodLink RX0 61 yX0_checkNumber, Cond.static yX0_checkNumber, Cond.code yX0_checkNumber cX0_checkNumber 2 none, Cond.classLink RX0 161 "java/lang/IndexOutOfBoundsException", Cond.initialized "java/lang/IndexOutOfBoundsException", Cond.methodLink RX0 65 yX0_checkRange, Cond.static yX0_checkRange, Cond.code yX0_checkRange cX0_checkRange 3 none, Cond.classLink RX0 88 "java/lang/IllegalArgumentException", Cond.initialized "java/lang/IllegalArgumentException", Cond.methodLink RX0 150 yX0_sumOfTube, Cond.instanceMethod yX0_sumOfTube, Cond.selects RX0 yX0_sumOfTube yX0_sumOfTube, Cond.code yX0_sumOfTube cX0_sumOfTube 6 (some .int), Cond.fieldLink RX0 19 "AtelierBook" "ledger" "[I"]
def wsL_where_r2 : List Cond := [Cond.methodLink RX0 84 yX0_place, Cond.static yX0_place, Cond.code yX0_place cX0_place 2 (some .int)]
def wsL_where : List Cond := .codeWith yL_where cL_where 5 (some .int) [(0, 10, 13, 21), (0, 10, 17, 13)] :: ((wsL_where_r1 ++ wsL_where_r2) ++ wsX00 ++ (vx_atS RX0 165 "java/lang/IndexOutOfBoundsException" ["java/lang/RuntimeException", "java/lang/Exception"]).filter goodWord ++ (vx_atS RX0 92 "java/lang/IllegalArgumentException" ["java/lang/RuntimeException", "java/lang/Exception"]).filter goodWord)
def wsL_recipe_r1 : List Cond := [Cond.classLink RL 13 "java/lang/IllegalArgumentException", Cond.methodLink RL 76 yX0_recipe, Cond.instanceMethod yX0_recipe, Cond.selects RX0 yX0_recipe yX0_recipe, Cond.initialized RX0, Cond.code yX0_recipe cX0_recipe 10 (some .int), Cond.fieldLink RX0 68 "AtelierBook" "tubeCount" "I", Cond.fieldLink RX0 16 "AtelierBook" "gramsInTube" "[I", Cond.methodLink RX0 46 yX0_checkColour, Cond.static yX0_checkColour, Cond.code yX0_checkColour cX0_checkColour 3 none, Cond.methodLink RX0 65 yX0_checkRange, Cond.static yX0_checkRange, Cond.code yX0_checkRange cX0_checkRange 3 none, Cond.classLink RX0 88 "java/lang/IllegalArgumentException", Cond.initialized "java/lang/IllegalArgumentException", Cond.methodLink RX0 154 yX0_mixed, Cond.instanceMethod yX0_mixed, Cond.selects RX0 yX0_mixed yX0_mixed, Cond.code yX0_mixed cX0_mixed 5 (some .int), Cond.methodLink RX0 170 yX0_colourOfTube, Cond.instanceMethod yX0_colourOfTube, Cond.selects RX0 yX0_colourOfTube yX0_colourOfTube, Cond.code yX0_colourOfTube cX0_colourOfTube 3 (some .int)]
def wsL_recipe_r2 : List Cond := [Cond.fieldLink RX0 9 "AtelierBook" "pigmentColours" "[I", Cond.fieldLink RX0 13 "AtelierBook" "pigmentOfTube" "[I", Cond.methodLink RX0 158 yX0_square, Cond.static yX0_square, Cond.code yX0_square cX0_square 1 (some .int)]
def wsL_recipe : List Cond := .codeWith yL_recipe cL_recipe 6 (some .int) [(0, 12, 15, 13)] :: ((wsL_recipe_r1 ++ wsL_recipe_r2) ++ wsX00 ++ (vx_atS RX0 92 "java/lang/IllegalArgumentException" ["java/lang/RuntimeException", "java/lang/Exception"]).filter goodWord)
def wsL_paid : List Cond := .codeWith yL_paid cL_paid 4 (some .int) [(0, 9, 12, 21)] :: ([.classLink RL 21 "java/lang/IndexOutOfBoundsException", .methodLink RL 79 yX0_paid, .instanceMethod yX0_paid, .selects RX0 yX0_paid yX0_paid, .initialized RX0, .code yX0_paid cX0_paid 2 (some .int), .fieldLink RX0 43 "AtelierBook" "housePayments" "[I", .methodLink RX0 61 yX0_checkNumber, .static yX0_checkNumber, .code yX0_checkNumber cX0_checkNumber 2 none, .classLink RX0 161 "java/lang/IndexOutOfBoundsException", .initialized "java/lang/IndexOutOfBoundsException"] ++ wsX00 ++ (vx_atS RX0 165 "java/lang/IndexOutOfBoundsException" ["java/lang/RuntimeException", "java/lang/Exception"]).filter goodWord)
def wsL_law0_r1 : List Cond := [Cond.classLink RL 8 RX0, Cond.instantiable RX0 17, Cond.initialized RX0, Cond.classLink RL 83 RX1, Cond.instantiable RX1 22, Cond.initialized RX1, Cond.arrayClass .long, Cond.methodLink RL 82 yX0_init, Cond.instanceMethod yX0_init, Cond.code yX0_init cX0_init 2 none, Cond.methodLink RX0 3 objectInit, Cond.instanceMethod objectInit, Cond.code objectInit ⟨#[0xb1]⟩ 1 none, Cond.arrayClass .int, Cond.fieldLink RX0 9 "AtelierBook" "pigmentColours" "[I", Cond.fieldLink RX0 13 "AtelierBook" "pigmentOfTube" "[I", Cond.fieldLink RX0 16 "AtelierBook" "gramsInTube" "[I", Cond.fieldLink RX0 19 "AtelierBook" "ledger" "[I", Cond.fieldLink RX0 22 "AtelierBook" "layerCounts" "[I", Cond.fieldLink RX0 25 "AtelierBook" "crackCounts" "[I", Cond.fieldLink RX0 28 "AtelierBook" "latestPrices" "[I", Cond.fieldLink RX0 31 "AtelierBook" "loanDays" "[I", Cond.fieldLink RX0 34 "AtelierBook" "loanHouses" "[I", Cond.fieldLink RX0 37 "AtelierBook" "loanCosts" "[I"]
def wsL_law0_r2 : List Cond := [Cond.fieldLink RX0 40 "AtelierBook" "houseDamps" "[I", Cond.fieldLink RX0 43 "AtelierBook" "housePayments" "[I", Cond.methodLink RL 85 yX1_init, Cond.instanceMethod yX1_init, Cond.code yX1_init cX1_init 2 none, Cond.methodLink RX1 1 objectInit, Cond.fieldLink RX1 7 "AtelierBookModel" "shade" "[I", Cond.fieldLink RX1 13 "AtelierBookModel" "pigmentOf" "[I", Cond.fieldLink RX1 16 "AtelierBookModel" "left" "[I", Cond.fieldLink RX1 19 "AtelierBookModel" "wasted" "[I", Cond.fieldLink RX1 22 "AtelierBookModel" "inPot" "[I", Cond.fieldLink RX1 25 "AtelierBookModel" "layers" "[I", Cond.fieldLink RX1 28 "AtelierBookModel" "inLayer" "[I", Cond.fieldLink RX1 31 "AtelierBookModel" "cracks" "[I", Cond.fieldLink RX1 34 "AtelierBookModel" "price" "[I", Cond.fieldLink RX1 37 "AtelierBookModel" "house" "[I", Cond.fieldLink RX1 40 "AtelierBookModel" "days" "[I", Cond.fieldLink RX1 43 "AtelierBookModel" "cost" "[I", Cond.fieldLink RX1 46 "AtelierBookModel" "damp" "[I", Cond.fieldLink RX1 49 "AtelierBookModel" "paid" "[I", Cond.fieldLink RX1 52 "AtelierBookModel" "flow" "[I", Cond.fieldLink RX1 55 "AtelierBookModel" "sums" "[I", Cond.methodLink RL 86 yL_pigment, Cond.static yL_pigment]
def wsL_law0_r3 : List Cond := [Cond.initialized RL, Cond.codeWith yL_pigment cL_pigment 6 (some .int) [(0, 12, 15, 13), (0, 12, 19, 15)], Cond.classLink RL 13 "java/lang/IllegalArgumentException", Cond.classLink RL 15 "java/lang/IllegalStateException", Cond.methodLink RL 7 yX0_pigment, Cond.instanceMethod yX0_pigment, Cond.selects RX0 yX0_pigment yX0_pigment, Cond.code yX0_pigment cX0_pigment 5 (some .int), Cond.classLink RX0 54 "java/lang/IllegalStateException", Cond.initialized "java/lang/IllegalStateException", Cond.fieldLink RX0 50 "AtelierBook" "pigmentCount" "I", Cond.methodLink RX0 46 yX0_checkColour, Cond.static yX0_checkColour, Cond.code yX0_checkColour cX0_checkColour 3 none, Cond.methodLink RX0 65 yX0_checkRange, Cond.static yX0_checkRange, Cond.code yX0_checkRange cX0_checkRange 3 none, Cond.classLink RX0 88 "java/lang/IllegalArgumentException", Cond.initialized "java/lang/IllegalArgumentException", Cond.methodLink RL 91 yX1_pigment, Cond.instanceMethod yX1_pigment, Cond.selects RX1 yX1_pigment yX1_pigment, Cond.code yX1_pigment cX1_pigment 4 (some .int), Cond.fieldLink RX1 78 "AtelierBookModel" "pigments" "I"]
def wsL_law0_r4 : List Cond := [Cond.fieldLink RX1 58 "AtelierBookModel" "thrown" "I", Cond.methodLink RX1 75 yX1_areShades, Cond.static yX1_areShades, Cond.code yX1_areShades cX1_areShades 3 (some .boolean), Cond.methodLink RX1 62 yX1_in, Cond.static yX1_in, Cond.code yX1_in cX1_in 3 (some .boolean), Cond.methodLink RL 92 yX1_thrown, Cond.instanceMethod yX1_thrown, Cond.selects RX1 yX1_thrown yX1_thrown, Cond.code yX1_thrown cX1_thrown 1 (some .int), Cond.methodLink RL 95 yL_tube, Cond.static yL_tube, Cond.codeWith yL_tube cL_tube 5 (some .int) [(0, 10, 13, 21), (0, 10, 17, 13), (0, 10, 21, 15)], Cond.classLink RL 21 "java/lang/IndexOutOfBoundsException", Cond.methodLink RL 17 yX0_tube, Cond.instanceMethod yX0_tube, Cond.selects RX0 yX0_tube yX0_tube, Cond.code yX0_tube cX0_tube 3 (some .int), Cond.fieldLink RX0 68 "AtelierBook" "tubeCount" "I", Cond.methodLink RX0 61 yX0_checkNumber, Cond.static yX0_checkNumber, Cond.code yX0_checkNumber cX0_checkNumber 2 none, Cond.classLink RX0 161 "java/lang/IndexOutOfBoundsException"]
def wsL_law0_r5 : List Cond := [Cond.initialized "java/lang/IndexOutOfBoundsException", Cond.methodLink RL 98 yX1_tube, Cond.instanceMethod yX1_tube, Cond.selects RX1 yX1_tube yX1_tube, Cond.code yX1_tube cX1_tube 3 (some .int), Cond.fieldLink RX1 66 "AtelierBookModel" "tubes" "I", Cond.methodLink RL 99 yL_pot, Cond.static yL_pot, Cond.codeWith yL_pot cL_pot 3 (some .int) [(0, 8, 11, 15)], Cond.methodLink RL 23 yX0_pot, Cond.instanceMethod yX0_pot, Cond.selects RX0 yX0_pot yX0_pot, Cond.code yX0_pot cX0_pot 1 (some .int), Cond.fieldLink RX0 73 "AtelierBook" "potCount" "I", Cond.methodLink RL 102 yX1_pot, Cond.instanceMethod yX1_pot, Cond.selects RX1 yX1_pot yX1_pot, Cond.code yX1_pot cX1_pot 1 (some .int), Cond.fieldLink RX1 69 "AtelierBookModel" "pots" "I", Cond.methodLink RL 103 yL_squeeze, Cond.static yL_squeeze, Cond.codeWith yL_squeeze cL_squeeze 6 (some .int) [(0, 12, 15, 21), (0, 12, 19, 13), (0, 12, 23, 15)], Cond.methodLink RL 27 yX0_squeeze, Cond.instanceMethod yX0_squeeze]
def wsL_law0_r6 : List Cond := [Cond.selects RX0 yX0_squeeze yX0_squeeze, Cond.code yX0_squeeze cX0_squeeze 4 (some .int), Cond.methodLink RX0 80 yX0_potRow, Cond.static yX0_potRow, Cond.code yX0_potRow cX0_potRow 1 (some .int), Cond.methodLink RX0 84 yX0_place, Cond.static yX0_place, Cond.code yX0_place cX0_place 2 (some .int), Cond.methodLink RL 105 yX1_squeeze, Cond.instanceMethod yX1_squeeze, Cond.selects RX1 yX1_squeeze yX1_squeeze, Cond.code yX1_squeeze cX1_squeeze 4 (some .int), Cond.methodLink RX1 81 yX1_isPot, Cond.instanceMethod yX1_isPot, Cond.selects RX1 yX1_isPot yX1_isPot, Cond.code yX1_isPot cX1_isPot 2 (some .boolean), Cond.methodLink RX1 85 yX1_isTube, Cond.instanceMethod yX1_isTube, Cond.selects RX1 yX1_isTube yX1_isTube, Cond.code yX1_isTube cX1_isTube 2 (some .boolean), Cond.methodLink RL 106 yL_pour, Cond.static yL_pour, Cond.codeWith yL_pour cL_pour 6 (some .int) [(0, 12, 15, 21), (0, 12, 19, 13), (0, 12, 23, 15)], Cond.methodLink RL 30 yX0_pour]
def wsL_law0_r7 : List Cond := [Cond.instanceMethod yX0_pour, Cond.selects RX0 yX0_pour yX0_pour, Cond.code yX0_pour cX0_pour 4 (some .int), Cond.methodLink RX0 93 yX0_move, Cond.instanceMethod yX0_move, Cond.selects RX0 yX0_move yX0_move, Cond.code yX0_move cX0_move 9 (some .boolean), Cond.methodLink RX0 99 yX0_sumOfRow, Cond.instanceMethod yX0_sumOfRow, Cond.selects RX0 yX0_sumOfRow yX0_sumOfRow, Cond.code yX0_sumOfRow cX0_sumOfRow 4 (some .int), Cond.methodLink RL 108 yX1_pour, Cond.instanceMethod yX1_pour, Cond.selects RX1 yX1_pour yX1_pour, Cond.code yX1_pour cX1_pour 5 (some .int), Cond.methodLink RX1 88 yX1_gramsOf, Cond.instanceMethod yX1_gramsOf, Cond.selects RX1 yX1_gramsOf yX1_gramsOf, Cond.code yX1_gramsOf cX1_gramsOf 4 (some .int), Cond.methodLink RX1 92 yX1_flows, Cond.instanceMethod yX1_flows, Cond.selects RX1 yX1_flows yX1_flows, Cond.code yX1_flows cX1_flows 7 none, Cond.methodLink RL 109 yL_scrape]
def wsL_law0_r8 : List Cond := [Cond.static yL_scrape, Cond.codeWith yL_scrape cL_scrape 4 (some .int) [(0, 9, 12, 21)], Cond.methodLink RL 33 yX0_scrape, Cond.instanceMethod yX0_scrape, Cond.selects RX0 yX0_scrape yX0_scrape, Cond.code yX0_scrape cX0_scrape 2 (some .int), Cond.methodLink RX0 102 yX0_waste, Cond.instanceMethod yX0_waste, Cond.selects RX0 yX0_waste yX0_waste, Cond.code yX0_waste cX0_waste 5 (some .int), Cond.methodLink RL 112 yX1_scrape, Cond.instanceMethod yX1_scrape, Cond.selects RX1 yX1_scrape yX1_scrape, Cond.code yX1_scrape cX1_scrape 4 (some .int), Cond.methodLink RL 113 yL_picture, Cond.static yL_picture, Cond.codeWith yL_picture cL_picture 3 (some .int) [(0, 8, 11, 15)], Cond.methodLink RL 37 yX0_picture, Cond.instanceMethod yX0_picture, Cond.selects RX0 yX0_picture yX0_picture, Cond.code yX0_picture cX0_picture 1 (some .int), Cond.fieldLink RX0 105 "AtelierBook" "pictureCount" "I", Cond.methodLink RL 115 yX1_picture, Cond.instanceMethod yX1_picture]
def wsL_law0_r9 : List Cond := [Cond.selects RX1 yX1_picture yX1_picture, Cond.code yX1_picture cX1_picture 1 (some .int), Cond.fieldLink RX1 72 "AtelierBookModel" "pictures" "I", Cond.methodLink RL 116 yL_paint, Cond.static yL_paint, Cond.codeWith yL_paint cL_paint 6 (some .int) [(0, 12, 15, 21), (0, 12, 19, 13), (0, 12, 23, 15)], Cond.methodLink RL 40 yX0_paint, Cond.instanceMethod yX0_paint, Cond.selects RX0 yX0_paint yX0_paint, Cond.code yX0_paint cX0_paint 4 (some .int), Cond.methodLink RX0 110 yX0_checkAtHome, Cond.instanceMethod yX0_checkAtHome, Cond.selects RX0 yX0_checkAtHome yX0_checkAtHome, Cond.code yX0_checkAtHome cX0_checkAtHome 2 none, Cond.methodLink RX0 143 yX0_isLent, Cond.instanceMethod yX0_isLent, Cond.selects RX0 yX0_isLent yX0_isLent, Cond.code yX0_isLent cX0_isLent 2 (some .boolean), Cond.methodLink RX0 116 yX0_layerRow, Cond.static yX0_layerRow, Cond.code yX0_layerRow cX0_layerRow 2 (some .int), Cond.methodLink RL 118 yX1_paint, Cond.instanceMethod yX1_paint, Cond.selects RX1 yX1_paint yX1_paint]
def wsL_law0_r10 : List Cond := [Cond.code yX1_paint cX1_paint 5 (some .int), Cond.methodLink RX1 96 yX1_isPicture, Cond.instanceMethod yX1_isPicture, Cond.selects RX1 yX1_isPicture yX1_isPicture, Cond.code yX1_isPicture cX1_isPicture 2 (some .boolean), Cond.methodLink RX1 99 yX1_layerAt, Cond.static yX1_layerAt, Cond.code yX1_layerAt cX1_layerAt 2 (some .int), Cond.methodLink RL 119 yL_clean, Cond.static yL_clean, Cond.codeWith yL_clean cL_clean 5 (some .int) [(0, 10, 13, 21), (0, 10, 17, 13), (0, 10, 21, 15)], Cond.methodLink RL 43 yX0_clean, Cond.instanceMethod yX0_clean, Cond.selects RX0 yX0_clean yX0_clean, Cond.code yX0_clean cX0_clean 5 (some .int), Cond.methodLink RL 121 yX1_clean, Cond.instanceMethod yX1_clean, Cond.selects RX1 yX1_clean yX1_clean, Cond.code yX1_clean cX1_clean 7 (some .int), Cond.methodLink RL 122 yL_damp, Cond.static yL_damp, Cond.codeWith yL_damp cL_damp 5 (some .int) [(0, 10, 13, 21), (0, 10, 17, 13)], Cond.methodLink RL 46 yX0_damp, Cond.instanceMethod yX0_damp]
def wsL_law0_r11 : List Cond := [Cond.selects RX0 yX0_damp yX0_damp, Cond.code yX0_damp cX0_damp 4 (some .int), Cond.methodLink RL 124 yX1_damp, Cond.instanceMethod yX1_damp, Cond.selects RX1 yX1_damp yX1_damp, Cond.code yX1_damp cX1_damp 4 (some .int), Cond.methodLink RX1 106 yX1_isHouse, Cond.static yX1_isHouse, Cond.code yX1_isHouse cX1_isHouse 1 (some .boolean), Cond.methodLink RL 125 yL_lend, Cond.static yL_lend, Cond.codeWith yL_lend cL_lend 6 (some .int) [(0, 12, 15, 21), (0, 12, 19, 13), (0, 12, 23, 15)], Cond.methodLink RL 49 yX0_lend, Cond.instanceMethod yX0_lend, Cond.selects RX0 yX0_lend yX0_lend, Cond.code yX0_lend cX0_lend 4 (some .int), Cond.methodLink RX0 123 yX0_valueOf, Cond.instanceMethod yX0_valueOf, Cond.selects RX0 yX0_valueOf yX0_valueOf, Cond.code yX0_valueOf cX0_valueOf 3 (some .int), Cond.methodLink RX0 182 Lib.Math.max.name, Cond.static Lib.Math.max.name, Cond.initialized "java/lang/Math", Cond.code Lib.Math.max.name Lib.Math.max.code 2 (some .int)]
def wsL_law0_r12 : List Cond := [Cond.methodLink RX0 179 yX0_averagePriceOfAlike, Cond.instanceMethod yX0_averagePriceOfAlike, Cond.selects RX0 yX0_averagePriceOfAlike yX0_averagePriceOfAlike, Cond.code yX0_averagePriceOfAlike cX0_averagePriceOfAlike 6 (some .int), Cond.methodLink RX0 140 yX0_mainPigmentOf, Cond.instanceMethod yX0_mainPigmentOf, Cond.selects RX0 yX0_mainPigmentOf yX0_mainPigmentOf, Cond.code yX0_mainPigmentOf cX0_mainPigmentOf 3 (some .int), Cond.methodLink RX0 176 yX0_mainPigmentOfRow, Cond.instanceMethod yX0_mainPigmentOfRow, Cond.selects RX0 yX0_mainPigmentOfRow yX0_mainPigmentOfRow, Cond.code yX0_mainPigmentOfRow cX0_mainPigmentOfRow 6 (some .int), Cond.methodLink RX0 173 yX0_gramsOfPigment, Cond.instanceMethod yX0_gramsOfPigment, Cond.selects RX0 yX0_gramsOfPigment yX0_gramsOfPigment, Cond.code yX0_gramsOfPigment cX0_gramsOfPigment 5 (some .int), Cond.methodLink RL 127 yX1_lend, Cond.instanceMethod yX1_lend, Cond.selects RX1 yX1_lend yX1_lend, Cond.code yX1_lend cX1_lend 4 (some .int), Cond.methodLink RX1 109 yX1_value, Cond.instanceMethod yX1_value, Cond.selects RX1 yX1_value yX1_value, Cond.code yX1_value cX1_value 7 (some .int)]
def wsL_law0_r13 : List Cond := [Cond.methodLink RX1 103 yX1_main, Cond.instanceMethod yX1_main, Cond.selects RX1 yX1_main yX1_main, Cond.code yX1_main cX1_main 4 (some .int), Cond.methodLink RL 128 yL_sell, Cond.static yL_sell, Cond.codeWith yL_sell cL_sell 5 (some .int) [(0, 10, 13, 21), (0, 10, 17, 13), (0, 10, 21, 15)], Cond.methodLink RL 52 yX0_sell, Cond.instanceMethod yX0_sell, Cond.selects RX0 yX0_sell yX0_sell, Cond.code yX0_sell cX0_sell 3 (some .int), Cond.constant RX0 126 (100000), Cond.methodLink RL 130 yX1_sell, Cond.instanceMethod yX1_sell, Cond.selects RX1 yX1_sell yX1_sell, Cond.code yX1_sell cX1_sell 3 (some .int), Cond.constant RX1 112 (100000), Cond.methodLink RL 131 yL_pass, Cond.static yL_pass, Cond.codeWith yL_pass cL_pass 4 (some .int) [(0, 9, 12, 13), (0, 9, 15, 15)], Cond.methodLink RL 55 yX0_pass, Cond.instanceMethod yX0_pass, Cond.selects RX0 yX0_pass yX0_pass, Cond.code yX0_pass cX0_pass 3 (some .int)]
def wsL_law0_r14 : List Cond := [Cond.fieldLink RX0 129 "AtelierBook" "today" "I", Cond.methodLink RX0 134 yX0_passForLoan, Cond.instanceMethod yX0_passForLoan, Cond.selects RX0 yX0_passForLoan yX0_passForLoan, Cond.code yX0_passForLoan cX0_passForLoan 5 none, Cond.methodLink RX0 187 Lib.Math.min.name, Cond.static Lib.Math.min.name, Cond.code Lib.Math.min.name Lib.Math.min.code 2 (some .int), Cond.methodLink RX0 190 Lib.Math.abs.name, Cond.static Lib.Math.abs.name, Cond.code Lib.Math.abs.name Lib.Math.abs.code 1 (some .int), Cond.methodLink RL 133 yX1_pass, Cond.instanceMethod yX1_pass, Cond.selects RX1 yX1_pass yX1_pass, Cond.code yX1_pass cX1_pass 3 (some .int), Cond.fieldLink RX1 113 "AtelierBookModel" "today" "I", Cond.methodLink RX1 116 yX1_passOne, Cond.instanceMethod yX1_passOne, Cond.selects RX1 yX1_passOne yX1_passOne, Cond.code yX1_passOne cX1_passOne 3 none, Cond.methodLink RL 134 yL_left, Cond.static yL_left, Cond.codeWith yL_left cL_left 4 (some .int) [(0, 9, 12, 21)], Cond.methodLink RL 58 yX0_left]
def wsL_law0_r15 : List Cond := [Cond.instanceMethod yX0_left, Cond.selects RX0 yX0_left yX0_left, Cond.code yX0_left cX0_left 2 (some .int), Cond.methodLink RL 136 yX1_left, Cond.instanceMethod yX1_left, Cond.selects RX1 yX1_left yX1_left, Cond.code yX1_left cX1_left 2 (some .int), Cond.methodLink RL 137 yL_has, Cond.static yL_has, Cond.codeWith yL_has cL_has 5 (some .int) [(0, 10, 13, 21)], Cond.methodLink RL 61 yX0_has, Cond.instanceMethod yX0_has, Cond.selects RX0 yX0_has yX0_has, Cond.code yX0_has cX0_has 3 (some .int), Cond.methodLink RL 139 yX1_has, Cond.instanceMethod yX1_has, Cond.selects RX1 yX1_has yX1_has, Cond.code yX1_has cX1_has 3 (some .int), Cond.methodLink RL 140 yL_colour, Cond.static yL_colour, Cond.codeWith yL_colour cL_colour 5 (some .int) [(0, 10, 13, 21), (0, 10, 17, 13)], Cond.methodLink RL 64 yX0_colour, Cond.instanceMethod yX0_colour, Cond.selects RX0 yX0_colour yX0_colour]
def wsL_law0_r16 : List Cond := [Cond.code yX0_colour cX0_colour 3 (some .int), Cond.methodLink RX0 137 yX0_colourOfRow, Cond.instanceMethod yX0_colourOfRow, Cond.selects RX0 yX0_colourOfRow yX0_colourOfRow, Cond.code yX0_colourOfRow cX0_colourOfRow 7 (some .int), Cond.methodLink RX0 170 yX0_colourOfTube, Cond.instanceMethod yX0_colourOfTube, Cond.selects RX0 yX0_colourOfTube yX0_colourOfTube, Cond.code yX0_colourOfTube cX0_colourOfTube 3 (some .int), Cond.methodLink RL 142 yX1_colour, Cond.instanceMethod yX1_colour, Cond.selects RX1 yX1_colour yX1_colour, Cond.code yX1_colour cX1_colour 6 (some .int), Cond.methodLink RL 143 yL_of, Cond.static yL_of, Cond.codeWith yL_of cL_of 5 (some .int) [(0, 10, 13, 21), (0, 10, 17, 13)], Cond.methodLink RL 67 yX0_of, Cond.instanceMethod yX0_of, Cond.selects RX0 yX0_of yX0_of, Cond.code yX0_of cX0_of 3 (some .int), Cond.methodLink RX0 147 yX0_lookOf, Cond.instanceMethod yX0_lookOf, Cond.selects RX0 yX0_lookOf yX0_lookOf, Cond.code yX0_lookOf cX0_lookOf 4 (some .int)]
def wsL_law0_r17 : List Cond := [Cond.methodLink RL 145 yX1_of, Cond.instanceMethod yX1_of, Cond.selects RX1 yX1_of yX1_of, Cond.code yX1_of cX1_of 3 (some .int), Cond.methodLink RX1 119 yX1_look, Cond.instanceMethod yX1_look, Cond.selects RX1 yX1_look yX1_look, Cond.code yX1_look cX1_look 7 (some .int), Cond.methodLink RL 146 yL_layer, Cond.static yL_layer, Cond.codeWith yL_layer cL_layer 6 (some .int) [(0, 12, 15, 21)], Cond.methodLink RL 70 yX0_layer, Cond.instanceMethod yX0_layer, Cond.selects RX0 yX0_layer yX0_layer, Cond.code yX0_layer cX0_layer 4 (some .int), Cond.methodLink RL 148 yX1_layer, Cond.instanceMethod yX1_layer, Cond.selects RX1 yX1_layer yX1_layer, Cond.code yX1_layer cX1_layer 4 (some .int), Cond.methodLink RL 149 yL_where, Cond.static yL_where, Cond.codeWith yL_where cL_where 5 (some .int) [(0, 10, 13, 21), (0, 10, 17, 13)], Cond.methodLink RL 73 yX0_where, Cond.instanceMethod yX0_where]
def wsL_law0_r18 : List Cond := [Cond.selects RX0 yX0_where yX0_where, Cond.code yX0_where cX0_where 3 (some .int), Cond.methodLink RX0 150 yX0_sumOfTube, Cond.instanceMethod yX0_sumOfTube, Cond.selects RX0 yX0_sumOfTube yX0_sumOfTube, Cond.code yX0_sumOfTube cX0_sumOfTube 6 (some .int), Cond.methodLink RL 151 yX1_where, Cond.instanceMethod yX1_where, Cond.selects RX1 yX1_where yX1_where, Cond.code yX1_where cX1_where 3 (some .int), Cond.methodLink RX1 122 yX1_inPots, Cond.instanceMethod yX1_inPots, Cond.selects RX1 yX1_inPots yX1_inPots, Cond.code yX1_inPots cX1_inPots 4 (some .int), Cond.methodLink RX1 125 yX1_onPictures, Cond.instanceMethod yX1_onPictures, Cond.selects RX1 yX1_onPictures yX1_onPictures, Cond.code yX1_onPictures cX1_onPictures 4 (some .int), Cond.methodLink RL 152 yL_recipe, Cond.static yL_recipe, Cond.codeWith yL_recipe cL_recipe 6 (some .int) [(0, 12, 15, 13)], Cond.methodLink RL 76 yX0_recipe, Cond.instanceMethod yX0_recipe, Cond.selects RX0 yX0_recipe yX0_recipe]
def wsL_law0_r19 : List Cond := [Cond.code yX0_recipe cX0_recipe 10 (some .int), Cond.methodLink RX0 154 yX0_mixed, Cond.instanceMethod yX0_mixed, Cond.selects RX0 yX0_mixed yX0_mixed, Cond.code yX0_mixed cX0_mixed 5 (some .int), Cond.methodLink RX0 158 yX0_square, Cond.static yX0_square, Cond.code yX0_square cX0_square 1 (some .int), Cond.methodLink RL 154 yX1_recipe, Cond.instanceMethod yX1_recipe, Cond.selects RX1 yX1_recipe yX1_recipe, Cond.code yX1_recipe cX1_recipe 10 (some .int), Cond.methodLink RX1 128 yX1_far, Cond.instanceMethod yX1_far, Cond.selects RX1 yX1_far yX1_far, Cond.code yX1_far cX1_far 7 (some .int), Cond.methodLink RL 155 yL_paid, Cond.static yL_paid, Cond.codeWith yL_paid cL_paid 4 (some .int) [(0, 9, 12, 21)], Cond.methodLink RL 79 yX0_paid, Cond.instanceMethod yX0_paid, Cond.selects RX0 yX0_paid yX0_paid, Cond.code yX0_paid cX0_paid 2 (some .int), Cond.methodLink RL 157 yX1_paid]
def wsL_law0_r20 : List Cond := [Cond.instanceMethod yX1_paid, Cond.selects RX1 yX1_paid yX1_paid, Cond.code yX1_paid cX1_paid 2 (some .int)]
def wsL_law0 : List Cond := (wsL_law0_r1 ++ (wsL_law0_r2 ++ (wsL_law0_r3 ++ (wsL_law0_r4 ++ (wsL_law0_r5 ++ (wsL_law0_r6 ++ (wsL_law0_r7 ++ (wsL_law0_r8 ++ (wsL_law0_r9 ++ (wsL_law0_r10 ++ (wsL_law0_r11 ++ (wsL_law0_r12 ++ (wsL_law0_r13 ++ (wsL_law0_r14 ++ (wsL_law0_r15 ++ (wsL_law0_r16 ++ (wsL_law0_r17 ++ (wsL_law0_r18 ++ (wsL_law0_r19 ++ wsL_law0_r20))))))))))))))))))) ++ wsX00 ++ wsX10 ++ ([] : List Cond)
def wsL_law : List Cond := wsL_law0 ++ (vx_atS RX0 58 "java/lang/IllegalStateException" ["java/lang/RuntimeException", "java/lang/Exception"]).filter goodWord ++ (vx_atS RX0 92 "java/lang/IllegalArgumentException" ["java/lang/RuntimeException", "java/lang/Exception"]).filter goodWord ++ (vx_atS RX0 165 "java/lang/IndexOutOfBoundsException" ["java/lang/RuntimeException", "java/lang/Exception"]).filter goodWord
set_option maxRecDepth 20000 in
theorem ggX0_pigment_X0_checkColour : GoodIn wsX0_pigment wsX0_checkColour := goodIn_ca (goodIn_r _ [8, 9, 10, 7, 11, 12, 13] (by decide +kernel) (by decide +kernel)) (goodIn_sub (fun _ h => List.mem_cons_of_mem _ (List.mem_append_right _ h)) (by decide +kernel))
set_option maxRecDepth 20000 in
theorem gX0_pigment_X0_checkColour : GoodIn wsX0_pigment (va_wsS RX0 46 yX0_checkColour wsX0_checkColour) := goodIn_app (goodIn_of _ (by decide +kernel)) ggX0_pigment_X0_checkColour
set_option maxRecDepth 20000 in
theorem ggX0_tube_X0_checkNumber : GoodIn wsX0_tube wsX0_checkNumber := goodIn_ca (goodIn_r _ [10, 11, 12] (by decide +kernel) (by decide +kernel)) (goodIn_sub (fun _ h => List.mem_cons_of_mem _ (List.mem_append_left _ (List.mem_append_right _ h))) (by decide +kernel))
set_option maxRecDepth 20000 in
theorem gX0_tube_X0_checkNumber : GoodIn wsX0_tube (va_wsS RX0 61 yX0_checkNumber wsX0_checkNumber) := goodIn_app (goodIn_of _ (by decide +kernel)) ggX0_tube_X0_checkNumber
set_option maxRecDepth 20000 in
theorem ggX0_tube_X0_checkRange : GoodIn wsX0_tube wsX0_checkRange := goodIn_ca (goodIn_r _ [15, 16, 17] (by decide +kernel) (by decide +kernel)) (goodIn_sub (fun _ h => List.mem_cons_of_mem _ (List.mem_append_right _ h)) (by decide +kernel))
set_option maxRecDepth 20000 in
theorem gX0_tube_X0_checkRange : GoodIn wsX0_tube (va_wsS RX0 65 yX0_checkRange wsX0_checkRange) := goodIn_app (goodIn_of _ (by decide +kernel)) ggX0_tube_X0_checkRange
set_option maxRecDepth 20000 in
theorem ggX0_squeeze_X0_checkNumber : GoodIn wsX0_squeeze wsX0_checkNumber := goodIn_ca (goodIn_r _ [10, 11, 12] (by decide +kernel) (by decide +kernel)) (goodIn_sub (fun _ h => List.mem_cons_of_mem _ (List.mem_append_left _ (List.mem_append_right _ h))) (by decide +kernel))
set_option maxRecDepth 20000 in
theorem gX0_squeeze_X0_checkNumber : GoodIn wsX0_squeeze (va_wsS RX0 61 yX0_checkNumber wsX0_checkNumber) := goodIn_app (goodIn_of _ (by decide +kernel)) ggX0_squeeze_X0_checkNumber
set_option maxRecDepth 20000 in
theorem ggX0_squeeze_X0_checkRange : GoodIn wsX0_squeeze wsX0_checkRange := goodIn_ca (goodIn_r _ [15, 16, 17] (by decide +kernel) (by decide +kernel)) (goodIn_sub (fun _ h => List.mem_cons_of_mem _ (List.mem_append_right _ h)) (by decide +kernel))
set_option maxRecDepth 20000 in
theorem gX0_squeeze_X0_checkRange : GoodIn wsX0_squeeze (va_wsS RX0 65 yX0_checkRange wsX0_checkRange) := goodIn_app (goodIn_of _ (by decide +kernel)) ggX0_squeeze_X0_checkRange
set_option maxRecDepth 20000 in
theorem ggX0_squeeze_X0_potRow : GoodIn wsX0_squeeze wsX0_potRow := goodIn_r _ [20] (by decide +kernel) (by decide +kernel)
set_option maxRecDepth 20000 in
theorem gX0_squeeze_X0_potRow : GoodIn wsX0_squeeze (va_wsS RX0 80 yX0_potRow wsX0_potRow) := goodIn_app (goodIn_of _ (by decide +kernel)) ggX0_squeeze_X0_potRow
set_option maxRecDepth 20000 in
theorem ggX0_squeeze_X0_place : GoodIn wsX0_squeeze wsX0_place := goodIn_r _ [23] (by decide +kernel) (by decide +kernel)
set_option maxRecDepth 20000 in
theorem gX0_squeeze_X0_place : GoodIn wsX0_squeeze (va_wsS RX0 84 yX0_place wsX0_place) := goodIn_app (goodIn_of _ (by decide +kernel)) ggX0_squeeze_X0_place
set_option maxRecDepth 20000 in
theorem ggX0_pour_X0_checkNumber : GoodIn wsX0_pour wsX0_checkNumber := goodIn_ca (goodIn_r _ [9, 10, 11] (by decide +kernel) (by decide +kernel)) (goodIn_sub (fun _ h => List.mem_cons_of_mem _ (List.mem_append_right _ h)) (by decide +kernel))
set_option maxRecDepth 20000 in
theorem gX0_pour_X0_checkNumber : GoodIn wsX0_pour (va_wsS RX0 61 yX0_checkNumber wsX0_checkNumber) := goodIn_app (goodIn_of _ (by decide +kernel)) ggX0_pour_X0_checkNumber
set_option maxRecDepth 20000 in
theorem ggX0_pour_X0_checkRange : GoodIn wsX0_pour wsX0_checkRange := goodIn_ca (goodIn_r _ [14, 1, 2] (by decide +kernel) (by decide +kernel)) (goodIn_sub (fun _ h => List.mem_cons_of_mem _ (List.mem_append_left _ (List.mem_append_left _ (List.mem_append_right _ h)))) (by decide +kernel))
set_option maxRecDepth 20000 in
theorem gX0_pour_X0_checkRange : GoodIn wsX0_pour (va_wsS RX0 65 yX0_checkRange wsX0_checkRange) := goodIn_app (goodIn_of _ (by decide +kernel)) ggX0_pour_X0_checkRange
set_option maxRecDepth 20000 in
theorem ggX0_pour_X0_potRow : GoodIn wsX0_pour wsX0_potRow := goodIn_r _ [17] (by decide +kernel) (by decide +kernel)
set_option maxRecDepth 20000 in
theorem gX0_pour_X0_potRow : GoodIn wsX0_pour (va_wsS RX0 80 yX0_potRow wsX0_potRow) := goodIn_app (goodIn_of _ (by decide +kernel)) ggX0_pour_X0_potRow
set_option maxRecDepth 20000 in
theorem ggX0_pour_X0_move : GoodIn wsX0_pour wsX0_move := goodIn_r _ [21, 22, 23, 24, 25, 26, 8, 27, 28, 29, 30, 31, 32, 33, 34, 35, 36, 37, 38, 39, 40, 41, 42, 43, 44, 45, 46, 47] (by decide +kernel) (by decide +kernel)
set_option maxRecDepth 20000 in
theorem gX0_pour_X0_move : GoodIn wsX0_pour (wsV RX0 93 RX0 yX0_move wsX0_move) := goodIn_app (goodIn_of _ (by decide +kernel)) ggX0_pour_X0_move
set_option maxRecDepth 20000 in
theorem ggX0_pour_X0_sumOfRow : GoodIn wsX0_pour wsX0_sumOfRow := goodIn_r _ [27, 22, 23, 28, 29, 8, 30, 31, 32, 33, 34, 35, 36, 37, 38, 39, 40, 41, 42, 43, 44, 45, 46, 47] (by decide +kernel) (by decide +kernel)
set_option maxRecDepth 20000 in
theorem gX0_pour_X0_sumOfRow : GoodIn wsX0_pour (wsV RX0 99 RX0 yX0_sumOfRow wsX0_sumOfRow) := goodIn_app (goodIn_of _ (by decide +kernel)) ggX0_pour_X0_sumOfRow
set_option maxRecDepth 20000 in
theorem ggX0_scrape_X0_checkNumber : GoodIn wsX0_scrape wsX0_checkNumber := goodIn_ca (goodIn_r _ [5, 6, 7] (by decide +kernel) (by decide +kernel)) (goodIn_sub (fun _ h => List.mem_cons_of_mem _ (List.mem_append_right _ h)) (by decide +kernel))
set_option maxRecDepth 20000 in
theorem gX0_scrape_X0_checkNumber : GoodIn wsX0_scrape (va_wsS RX0 61 yX0_checkNumber wsX0_checkNumber) := goodIn_app (goodIn_of _ (by decide +kernel)) ggX0_scrape_X0_checkNumber
set_option maxRecDepth 20000 in
theorem ggX0_scrape_X0_potRow : GoodIn wsX0_scrape wsX0_potRow := goodIn_r _ [10] (by decide +kernel) (by decide +kernel)
set_option maxRecDepth 20000 in
theorem gX0_scrape_X0_potRow : GoodIn wsX0_scrape (va_wsS RX0 80 yX0_potRow wsX0_potRow) := goodIn_app (goodIn_of _ (by decide +kernel)) ggX0_scrape_X0_potRow
set_option maxRecDepth 20000 in
theorem ggX0_scrape_X0_waste : GoodIn wsX0_scrape wsX0_waste := goodIn_r _ [14, 15, 16, 17, 18, 4, 19, 20, 21, 22, 23, 24, 25, 26, 27, 28, 29, 30, 31, 32, 33, 34, 35, 36] (by decide +kernel) (by decide +kernel)
set_option maxRecDepth 20000 in
theorem gX0_scrape_X0_waste : GoodIn wsX0_scrape (wsV RX0 102 RX0 yX0_waste wsX0_waste) := goodIn_app (goodIn_of _ (by decide +kernel)) ggX0_scrape_X0_waste
set_option maxRecDepth 20000 in
theorem ggX0_paint_X0_checkNumber : GoodIn wsX0_paint wsX0_checkNumber := goodIn_ca (goodIn_r _ [9, 10, 11] (by decide +kernel) (by decide +kernel)) (goodIn_sub (fun _ h => List.mem_cons_of_mem _ (List.mem_append_left _ (List.mem_append_right _ h))) (by decide +kernel))
set_option maxRecDepth 20000 in
theorem gX0_paint_X0_checkNumber : GoodIn wsX0_paint (va_wsS RX0 61 yX0_checkNumber wsX0_checkNumber) := goodIn_app (goodIn_of _ (by decide +kernel)) ggX0_paint_X0_checkNumber
set_option maxRecDepth 20000 in
theorem ggX0_paint_X0_checkRange : GoodIn wsX0_paint wsX0_checkRange := goodIn_ca (goodIn_r _ [14, 15, 16] (by decide +kernel) (by decide +kernel)) (goodIn_sub (fun _ h => List.mem_cons_of_mem _ (List.mem_append_right _ h)) (by decide +kernel))
set_option maxRecDepth 20000 in
theorem gX0_paint_X0_checkRange : GoodIn wsX0_paint (va_wsS RX0 65 yX0_checkRange wsX0_checkRange) := goodIn_app (goodIn_of _ (by decide +kernel)) ggX0_paint_X0_checkRange
set_option maxRecDepth 20000 in
theorem ggX0_paint_X0_checkAtHome : GoodIn wsX0_paint wsX0_checkAtHome := goodIn_ca (goodIn_r _ [20, 1, 2, 21, 22, 23, 8, 24, 25, 45, 46, 47, 48, 49, 50, 51, 52, 53, 54, 55, 56, 57, 58, 59, 60, 61] (by decide +kernel) (by decide +kernel)) (goodIn_sub (fun _ h => List.mem_cons_of_mem _ (List.mem_append_left _ (List.mem_append_left _ (List.mem_append_right _ h)))) (by decide +kernel))
set_option maxRecDepth 20000 in
theorem gX0_paint_X0_checkAtHome : GoodIn wsX0_paint (wsV RX0 110 RX0 yX0_checkAtHome wsX0_checkAtHome) := goodIn_app (goodIn_of _ (by decide +kernel)) ggX0_paint_X0_checkAtHome
set_option maxRecDepth 20000 in
theorem ggX0_paint_X0_potRow : GoodIn wsX0_paint wsX0_potRow := goodIn_r _ [28] (by decide +kernel) (by decide +kernel)
set_option maxRecDepth 20000 in
theorem gX0_paint_X0_potRow : GoodIn wsX0_paint (va_wsS RX0 80 yX0_potRow wsX0_potRow) := goodIn_app (goodIn_of _ (by decide +kernel)) ggX0_paint_X0_potRow
set_option maxRecDepth 20000 in
theorem ggX0_paint_X0_layerRow : GoodIn wsX0_paint wsX0_layerRow := goodIn_r _ [31] (by decide +kernel) (by decide +kernel)
set_option maxRecDepth 20000 in
theorem gX0_paint_X0_layerRow : GoodIn wsX0_paint (va_wsS RX0 116 yX0_layerRow wsX0_layerRow) := goodIn_app (goodIn_of _ (by decide +kernel)) ggX0_paint_X0_layerRow
set_option maxRecDepth 20000 in
theorem ggX0_paint_X0_move : GoodIn wsX0_paint wsX0_move := goodIn_r _ [35, 36, 37, 38, 39, 40, 8, 41, 42, 43, 44, 45, 46, 47, 48, 49, 50, 51, 52, 53, 54, 55, 56, 57, 58, 59, 60, 61] (by decide +kernel) (by decide +kernel)
set_option maxRecDepth 20000 in
theorem gX0_paint_X0_move : GoodIn wsX0_paint (wsV RX0 93 RX0 yX0_move wsX0_move) := goodIn_app (goodIn_of _ (by decide +kernel)) ggX0_paint_X0_move
set_option maxRecDepth 20000 in
theorem ggX0_clean_X0_checkNumber : GoodIn wsX0_clean wsX0_checkNumber := goodIn_ca (goodIn_r _ [8, 9, 10] (by decide +kernel) (by decide +kernel)) (goodIn_sub (fun _ h => List.mem_cons_of_mem _ (List.mem_append_left _ (List.mem_append_right _ h))) (by decide +kernel))
set_option maxRecDepth 20000 in
theorem gX0_clean_X0_checkNumber : GoodIn wsX0_clean (va_wsS RX0 61 yX0_checkNumber wsX0_checkNumber) := goodIn_app (goodIn_of _ (by decide +kernel)) ggX0_clean_X0_checkNumber
set_option maxRecDepth 20000 in
theorem ggX0_clean_X0_checkRange : GoodIn wsX0_clean wsX0_checkRange := goodIn_ca (goodIn_r _ [13, 14, 15] (by decide +kernel) (by decide +kernel)) (goodIn_sub (fun _ h => List.mem_cons_of_mem _ (List.mem_append_right _ h)) (by decide +kernel))
set_option maxRecDepth 20000 in
theorem gX0_clean_X0_checkRange : GoodIn wsX0_clean (va_wsS RX0 65 yX0_checkRange wsX0_checkRange) := goodIn_app (goodIn_of _ (by decide +kernel)) ggX0_clean_X0_checkRange
set_option maxRecDepth 20000 in
theorem ggX0_clean_X0_checkAtHome : GoodIn wsX0_clean wsX0_checkAtHome := goodIn_ca (goodIn_r _ [19, 1, 2, 20, 21, 22, 7, 23, 24, 37, 38, 39, 40, 41, 42, 43, 44, 45, 46, 47, 48, 49, 50, 51, 52, 53] (by decide +kernel) (by decide +kernel)) (goodIn_sub (fun _ h => List.mem_cons_of_mem _ (List.mem_append_left _ (List.mem_append_left _ (List.mem_append_right _ h)))) (by decide +kernel))
set_option maxRecDepth 20000 in
theorem gX0_clean_X0_checkAtHome : GoodIn wsX0_clean (wsV RX0 110 RX0 yX0_checkAtHome wsX0_checkAtHome) := goodIn_app (goodIn_of _ (by decide +kernel)) ggX0_clean_X0_checkAtHome
set_option maxRecDepth 20000 in
theorem ggX0_clean_X0_layerRow : GoodIn wsX0_clean wsX0_layerRow := goodIn_r _ [27] (by decide +kernel) (by decide +kernel)
set_option maxRecDepth 20000 in
theorem gX0_clean_X0_layerRow : GoodIn wsX0_clean (va_wsS RX0 116 yX0_layerRow wsX0_layerRow) := goodIn_app (goodIn_of _ (by decide +kernel)) ggX0_clean_X0_layerRow
set_option maxRecDepth 20000 in
theorem ggX0_clean_X0_waste : GoodIn wsX0_clean wsX0_waste := goodIn_r _ [31, 32, 33, 34, 35, 7, 36, 37, 38, 39, 40, 41, 42, 43, 44, 45, 46, 47, 48, 49, 50, 51, 52, 53] (by decide +kernel) (by decide +kernel)
set_option maxRecDepth 20000 in
theorem gX0_clean_X0_waste : GoodIn wsX0_clean (wsV RX0 102 RX0 yX0_waste wsX0_waste) := goodIn_app (goodIn_of _ (by decide +kernel)) ggX0_clean_X0_waste
set_option maxRecDepth 20000 in
theorem ggX0_damp_X0_checkNumber : GoodIn wsX0_damp wsX0_checkNumber := goodIn_ca (goodIn_r _ [5, 6, 7] (by decide +kernel) (by decide +kernel)) (goodIn_sub (fun _ h => List.mem_cons_of_mem _ (List.mem_append_left _ (List.mem_append_right _ h))) (by decide +kernel))
set_option maxRecDepth 20000 in
theorem gX0_damp_X0_checkNumber : GoodIn wsX0_damp (va_wsS RX0 61 yX0_checkNumber wsX0_checkNumber) := goodIn_app (goodIn_of _ (by decide +kernel)) ggX0_damp_X0_checkNumber
set_option maxRecDepth 20000 in
theorem ggX0_damp_X0_checkRange : GoodIn wsX0_damp wsX0_checkRange := goodIn_ca (goodIn_r _ [10, 11, 12] (by decide +kernel) (by decide +kernel)) (goodIn_sub (fun _ h => List.mem_cons_of_mem _ (List.mem_append_right _ h)) (by decide +kernel))
set_option maxRecDepth 20000 in
theorem gX0_damp_X0_checkRange : GoodIn wsX0_damp (va_wsS RX0 65 yX0_checkRange wsX0_checkRange) := goodIn_app (goodIn_of _ (by decide +kernel)) ggX0_damp_X0_checkRange
set_option maxRecDepth 20000 in
theorem ggX0_lend_X0_checkNumber : GoodIn wsX0_lend wsX0_checkNumber := goodIn_ca (goodIn_r _ [11, 12, 13] (by decide +kernel) (by decide +kernel)) (goodIn_sub (fun _ h => List.mem_cons_of_mem _ (List.mem_append_left _ (List.mem_append_right _ h))) (by decide +kernel))
set_option maxRecDepth 20000 in
theorem gX0_lend_X0_checkNumber : GoodIn wsX0_lend (va_wsS RX0 61 yX0_checkNumber wsX0_checkNumber) := goodIn_app (goodIn_of _ (by decide +kernel)) ggX0_lend_X0_checkNumber
set_option maxRecDepth 20000 in
theorem ggX0_lend_X0_checkRange : GoodIn wsX0_lend wsX0_checkRange := goodIn_ca (goodIn_r _ [16, 17, 18] (by decide +kernel) (by decide +kernel)) (goodIn_sub (fun _ h => List.mem_cons_of_mem _ (List.mem_append_right _ h)) (by decide +kernel))
set_option maxRecDepth 20000 in
theorem gX0_lend_X0_checkRange : GoodIn wsX0_lend (va_wsS RX0 65 yX0_checkRange wsX0_checkRange) := goodIn_app (goodIn_of _ (by decide +kernel)) ggX0_lend_X0_checkRange
set_option maxRecDepth 20000 in
theorem ggX0_lend_X0_checkAtHome : GoodIn wsX0_lend wsX0_checkAtHome := goodIn_ca (goodIn_r _ [22, 1, 2, 23, 24, 25, 10, 26, 7, 63, 64, 65, 66, 67, 68, 69, 70, 71, 72, 73, 74, 75, 76, 77, 78, 79] (by decide +kernel) (by decide +kernel)) (goodIn_sub (fun _ h => List.mem_cons_of_mem _ (List.mem_append_left _ (List.mem_append_left _ (List.mem_append_right _ h)))) (by decide +kernel))
set_option maxRecDepth 20000 in
theorem gX0_lend_X0_checkAtHome : GoodIn wsX0_lend (wsV RX0 110 RX0 yX0_checkAtHome wsX0_checkAtHome) := goodIn_app (goodIn_of _ (by decide +kernel)) ggX0_lend_X0_checkAtHome
set_option maxRecDepth 20000 in
theorem ggX0_lend_X0_valueOf : GoodIn wsX0_lend wsX0_valueOf := goodIn_r _ [30, 4, 31, 32, 33, 34, 35, 36, 37, 10, 38, 3, 39, 40, 41, 42, 43, 44, 45, 46, 47, 48, 49, 50, 51, 52, 53, 54, 55, 56, 57, 58, 59, 60, 61, 62, 63, 64, 65, 66, 67, 68, 69, 70, 71, 72, 73, 74, 75, 76, 77, 78, 79] (by decide +kernel) (by decide +kernel)
set_option maxRecDepth 20000 in
theorem gX0_lend_X0_valueOf : GoodIn wsX0_lend (wsV RX0 123 RX0 yX0_valueOf wsX0_valueOf) := goodIn_app (goodIn_of _ (by decide +kernel)) ggX0_lend_X0_valueOf
set_option maxRecDepth 20000 in
theorem ggX0_sell_X0_checkNumber : GoodIn wsX0_sell wsX0_checkNumber := goodIn_ca (goodIn_r _ [10, 11, 12] (by decide +kernel) (by decide +kernel)) (goodIn_sub (fun _ h => List.mem_cons_of_mem _ (List.mem_append_left _ (List.mem_append_right _ h))) (by decide +kernel))
set_option maxRecDepth 20000 in
theorem gX0_sell_X0_checkNumber : GoodIn wsX0_sell (va_wsS RX0 61 yX0_checkNumber wsX0_checkNumber) := goodIn_app (goodIn_of _ (by decide +kernel)) ggX0_sell_X0_checkNumber
set_option maxRecDepth 20000 in
theorem ggX0_sell_X0_checkRange : GoodIn wsX0_sell wsX0_checkRange := goodIn_ca (goodIn_r _ [15, 16, 17] (by decide +kernel) (by decide +kernel)) (goodIn_sub (fun _ h => List.mem_cons_of_mem _ (List.mem_append_right _ h)) (by decide +kernel))
set_option maxRecDepth 20000 in
theorem gX0_sell_X0_checkRange : GoodIn wsX0_sell (va_wsS RX0 65 yX0_checkRange wsX0_checkRange) := goodIn_app (goodIn_of _ (by decide +kernel)) ggX0_sell_X0_checkRange
set_option maxRecDepth 20000 in
theorem ggX0_sell_X0_checkAtHome : GoodIn wsX0_sell wsX0_checkAtHome := goodIn_ca (goodIn_r _ [21, 1, 2, 22, 23, 24, 9, 25, 26, 62, 63, 64, 65, 66, 67, 68, 69, 70, 71, 72, 73, 74, 75, 76, 77, 78] (by decide +kernel) (by decide +kernel)) (goodIn_sub (fun _ h => List.mem_cons_of_mem _ (List.mem_append_left _ (List.mem_append_left _ (List.mem_append_right _ h)))) (by decide +kernel))
set_option maxRecDepth 20000 in
theorem gX0_sell_X0_checkAtHome : GoodIn wsX0_sell (wsV RX0 110 RX0 yX0_checkAtHome wsX0_checkAtHome) := goodIn_app (goodIn_of _ (by decide +kernel)) ggX0_sell_X0_checkAtHome
set_option maxRecDepth 20000 in
theorem ggX0_sell_X0_valueOf : GoodIn wsX0_sell wsX0_valueOf := goodIn_r _ [30, 31, 32, 33, 34, 35, 36, 37, 38, 9, 39, 3, 6, 40, 41, 42, 43, 5, 44, 45, 46, 47, 48, 49, 50, 51, 52, 53, 54, 55, 56, 57, 58, 59, 60, 61, 62, 63, 64, 65, 66, 67, 68, 69, 70, 71, 72, 73, 74, 75, 76, 77, 78] (by decide +kernel) (by decide +kernel)
set_option maxRecDepth 20000 in
theorem gX0_sell_X0_valueOf : GoodIn wsX0_sell (wsV RX0 123 RX0 yX0_valueOf wsX0_valueOf) := goodIn_app (goodIn_of _ (by decide +kernel)) ggX0_sell_X0_valueOf
set_option maxRecDepth 20000 in
theorem ggX0_pass_X0_checkRange : GoodIn wsX0_pass wsX0_checkRange := goodIn_ca (goodIn_r _ [8, 9, 10] (by decide +kernel) (by decide +kernel)) (goodIn_sub (fun _ h => List.mem_cons_of_mem _ (List.mem_append_right _ h)) (by decide +kernel))
set_option maxRecDepth 20000 in
theorem gX0_pass_X0_checkRange : GoodIn wsX0_pass (va_wsS RX0 65 yX0_checkRange wsX0_checkRange) := goodIn_app (goodIn_of _ (by decide +kernel)) ggX0_pass_X0_checkRange
set_option maxRecDepth 20000 in
theorem ggX0_pass_X0_passForLoan : GoodIn wsX0_pass wsX0_passForLoan := goodIn_r _ [14, 15, 16, 17, 18, 19, 20, 21, 22, 23, 24, 25, 26, 27, 28, 29, 30, 31, 32, 33, 34, 35, 36, 37, 38, 39, 40, 41, 42, 43, 44] (by decide +kernel) (by decide +kernel)
set_option maxRecDepth 20000 in
theorem gX0_pass_X0_passForLoan : GoodIn wsX0_pass (wsV RX0 134 RX0 yX0_passForLoan wsX0_passForLoan) := goodIn_app (goodIn_of _ (by decide +kernel)) ggX0_pass_X0_passForLoan
set_option maxRecDepth 20000 in
theorem ggX0_left_X0_checkNumber : GoodIn wsX0_left wsX0_checkNumber := goodIn_ca (goodIn_r _ [6, 7, 8] (by decide +kernel) (by decide +kernel)) (goodIn_sub (fun _ h => List.mem_cons_of_mem _ (List.mem_append_right _ h)) (by decide +kernel))
set_option maxRecDepth 20000 in
theorem gX0_left_X0_checkNumber : GoodIn wsX0_left (va_wsS RX0 61 yX0_checkNumber wsX0_checkNumber) := goodIn_app (goodIn_of _ (by decide +kernel)) ggX0_left_X0_checkNumber
set_option maxRecDepth 20000 in
theorem ggX0_has_X0_checkNumber : GoodIn wsX0_has wsX0_checkNumber := goodIn_ca (goodIn_r _ [7, 8, 9] (by decide +kernel) (by decide +kernel)) (goodIn_sub (fun _ h => List.mem_cons_of_mem _ (List.mem_append_right _ h)) (by decide +kernel))
set_option maxRecDepth 20000 in
theorem gX0_has_X0_checkNumber : GoodIn wsX0_has (va_wsS RX0 61 yX0_checkNumber wsX0_checkNumber) := goodIn_app (goodIn_of _ (by decide +kernel)) ggX0_has_X0_checkNumber
set_option maxRecDepth 20000 in
theorem ggX0_has_X0_potRow : GoodIn wsX0_has wsX0_potRow := goodIn_r _ [12] (by decide +kernel) (by decide +kernel)
set_option maxRecDepth 20000 in
theorem gX0_has_X0_potRow : GoodIn wsX0_has (va_wsS RX0 80 yX0_potRow wsX0_potRow) := goodIn_app (goodIn_of _ (by decide +kernel)) ggX0_has_X0_potRow
set_option maxRecDepth 20000 in
theorem ggX0_has_X0_sumOfRow : GoodIn wsX0_has wsX0_sumOfRow := goodIn_r _ [16, 2, 3, 17, 18, 6, 19, 20, 21, 22, 23, 24, 25, 26, 27, 28, 29, 30, 31, 32, 33, 34, 35, 36] (by decide +kernel) (by decide +kernel)
set_option maxRecDepth 20000 in
theorem gX0_has_X0_sumOfRow : GoodIn wsX0_has (wsV RX0 99 RX0 yX0_sumOfRow wsX0_sumOfRow) := goodIn_app (goodIn_of _ (by decide +kernel)) ggX0_has_X0_sumOfRow
set_option maxRecDepth 20000 in
theorem ggX0_has_X0_place : GoodIn wsX0_has wsX0_place := goodIn_r _ [19] (by decide +kernel) (by decide +kernel)
set_option maxRecDepth 20000 in
theorem gX0_has_X0_place : GoodIn wsX0_has (va_wsS RX0 84 yX0_place wsX0_place) := goodIn_app (goodIn_of _ (by decide +kernel)) ggX0_has_X0_place
set_option maxRecDepth 20000 in
theorem ggX0_colour_X0_checkNumber : GoodIn wsX0_colour wsX0_checkNumber := goodIn_ca (goodIn_r _ [5, 6, 7] (by decide +kernel) (by decide +kernel)) (goodIn_sub (fun _ h => List.mem_cons_of_mem _ (List.mem_append_left _ (List.mem_append_right _ h))) (by decide +kernel))
set_option maxRecDepth 20000 in
theorem gX0_colour_X0_checkNumber : GoodIn wsX0_colour (va_wsS RX0 61 yX0_checkNumber wsX0_checkNumber) := goodIn_app (goodIn_of _ (by decide +kernel)) ggX0_colour_X0_checkNumber
set_option maxRecDepth 20000 in
theorem ggX0_colour_X0_checkRange : GoodIn wsX0_colour wsX0_checkRange := goodIn_ca (goodIn_r _ [10, 11, 12] (by decide +kernel) (by decide +kernel)) (goodIn_sub (fun _ h => List.mem_cons_of_mem _ (List.mem_append_right _ h)) (by decide +kernel))
set_option maxRecDepth 20000 in
theorem gX0_colour_X0_checkRange : GoodIn wsX0_colour (va_wsS RX0 65 yX0_checkRange wsX0_checkRange) := goodIn_app (goodIn_of _ (by decide +kernel)) ggX0_colour_X0_checkRange
set_option maxRecDepth 20000 in
theorem ggX0_colour_X0_potRow : GoodIn wsX0_colour wsX0_potRow := goodIn_r _ [15] (by decide +kernel) (by decide +kernel)
set_option maxRecDepth 20000 in
theorem gX0_colour_X0_potRow : GoodIn wsX0_colour (va_wsS RX0 80 yX0_potRow wsX0_potRow) := goodIn_app (goodIn_of _ (by decide +kernel)) ggX0_colour_X0_potRow
set_option maxRecDepth 20000 in
theorem ggX0_colour_X0_colourOfRow : GoodIn wsX0_colour wsX0_colourOfRow := goodIn_r _ [19, 20, 21, 22, 23, 4, 24, 25, 26, 27, 28, 29, 30, 31, 32, 33, 34, 35, 36, 37, 38, 39, 40, 41, 42, 43, 44, 45, 46, 47] (by decide +kernel) (by decide +kernel)
set_option maxRecDepth 20000 in
theorem gX0_colour_X0_colourOfRow : GoodIn wsX0_colour (wsV RX0 137 RX0 yX0_colourOfRow wsX0_colourOfRow) := goodIn_app (goodIn_of _ (by decide +kernel)) ggX0_colour_X0_colourOfRow
set_option maxRecDepth 20000 in
theorem ggX0_of_X0_checkNumber : GoodIn wsX0_of wsX0_checkNumber := goodIn_ca (goodIn_r _ [9, 10, 11] (by decide +kernel) (by decide +kernel)) (goodIn_sub (fun _ h => List.mem_cons_of_mem _ (List.mem_append_left _ (List.mem_append_right _ h))) (by decide +kernel))
set_option maxRecDepth 20000 in
theorem gX0_of_X0_checkNumber : GoodIn wsX0_of (va_wsS RX0 61 yX0_checkNumber wsX0_checkNumber) := goodIn_app (goodIn_of _ (by decide +kernel)) ggX0_of_X0_checkNumber
set_option maxRecDepth 20000 in
theorem ggX0_of_X0_checkRange : GoodIn wsX0_of wsX0_checkRange := goodIn_ca (goodIn_r _ [14, 15, 16] (by decide +kernel) (by decide +kernel)) (goodIn_sub (fun _ h => List.mem_cons_of_mem _ (List.mem_append_right _ h)) (by decide +kernel))
set_option maxRecDepth 20000 in
theorem gX0_of_X0_checkRange : GoodIn wsX0_of (va_wsS RX0 65 yX0_checkRange wsX0_checkRange) := goodIn_app (goodIn_of _ (by decide +kernel)) ggX0_of_X0_checkRange
set_option maxRecDepth 20000 in
theorem ggX0_of_X0_valueOf : GoodIn wsX0_of wsX0_valueOf := goodIn_r _ [20, 3, 21, 22, 23, 24, 25, 26, 27, 8, 28, 1, 29, 30, 31, 32, 33, 2, 34, 35, 36, 37, 38, 39, 40, 41, 42, 43, 44, 45, 46, 47, 48, 49, 50, 51, 69, 70, 71, 72, 73, 74, 75, 76, 77, 78, 79, 80, 81, 82, 83, 84, 85] (by decide +kernel) (by decide +kernel)
set_option maxRecDepth 20000 in
theorem gX0_of_X0_valueOf : GoodIn wsX0_of (wsV RX0 123 RX0 yX0_valueOf wsX0_valueOf) := goodIn_app (goodIn_of _ (by decide +kernel)) ggX0_of_X0_valueOf
set_option maxRecDepth 20000 in
theorem ggX0_of_X0_mainPigmentOf : GoodIn wsX0_of wsX0_mainPigmentOf := goodIn_r _ [33, 2, 34, 35, 8, 36, 37, 38, 39, 40, 41, 42, 43, 44, 45, 46, 47, 48, 49, 50, 51, 69, 70, 71, 72, 73, 74, 75, 76, 77, 78, 79, 80, 81, 82, 83, 84, 85] (by decide +kernel) (by decide +kernel)
set_option maxRecDepth 20000 in
theorem gX0_of_X0_mainPigmentOf : GoodIn wsX0_of (wsV RX0 140 RX0 yX0_mainPigmentOf wsX0_mainPigmentOf) := goodIn_app (goodIn_of _ (by decide +kernel)) ggX0_of_X0_mainPigmentOf
set_option maxRecDepth 20000 in
theorem ggX0_of_X0_isLent : GoodIn wsX0_of wsX0_isLent := goodIn_r _ [55, 5, 69, 70, 71, 72, 73, 74, 75, 76, 77, 78, 79, 80, 81, 82, 83, 84, 85] (by decide +kernel) (by decide +kernel)
set_option maxRecDepth 20000 in
theorem gX0_of_X0_isLent : GoodIn wsX0_of (wsV RX0 143 RX0 yX0_isLent wsX0_isLent) := goodIn_app (goodIn_of _ (by decide +kernel)) ggX0_of_X0_isLent
set_option maxRecDepth 20000 in
theorem ggX0_of_X0_lookOf : GoodIn wsX0_of wsX0_lookOf := goodIn_r _ [59, 2, 34, 35, 8, 36, 60, 61, 62, 63, 46, 48, 49, 50, 51, 64, 65, 66, 67, 68, 47, 69, 70, 71, 72, 73, 74, 75, 76, 77, 78, 79, 80, 81, 82, 83, 84, 85] (by decide +kernel) (by decide +kernel)
set_option maxRecDepth 20000 in
theorem gX0_of_X0_lookOf : GoodIn wsX0_of (wsV RX0 147 RX0 yX0_lookOf wsX0_lookOf) := goodIn_app (goodIn_of _ (by decide +kernel)) ggX0_of_X0_lookOf
set_option maxRecDepth 20000 in
theorem ggX0_layer_X0_checkNumber : GoodIn wsX0_layer wsX0_checkNumber := goodIn_ca (goodIn_r _ [8, 9, 10] (by decide +kernel) (by decide +kernel)) (goodIn_sub (fun _ h => List.mem_cons_of_mem _ (List.mem_append_right _ h)) (by decide +kernel))
set_option maxRecDepth 20000 in
theorem gX0_layer_X0_checkNumber : GoodIn wsX0_layer (va_wsS RX0 61 yX0_checkNumber wsX0_checkNumber) := goodIn_app (goodIn_of _ (by decide +kernel)) ggX0_layer_X0_checkNumber
set_option maxRecDepth 20000 in
theorem ggX0_layer_X0_layerRow : GoodIn wsX0_layer wsX0_layerRow := goodIn_r _ [13] (by decide +kernel) (by decide +kernel)
set_option maxRecDepth 20000 in
theorem gX0_layer_X0_layerRow : GoodIn wsX0_layer (va_wsS RX0 116 yX0_layerRow wsX0_layerRow) := goodIn_app (goodIn_of _ (by decide +kernel)) ggX0_layer_X0_layerRow
set_option maxRecDepth 20000 in
theorem ggX0_layer_X0_place : GoodIn wsX0_layer wsX0_place := goodIn_r _ [16] (by decide +kernel) (by decide +kernel)
set_option maxRecDepth 20000 in
theorem gX0_layer_X0_place : GoodIn wsX0_layer (va_wsS RX0 84 yX0_place wsX0_place) := goodIn_app (goodIn_of _ (by decide +kernel)) ggX0_layer_X0_place
set_option maxRecDepth 20000 in
theorem ggX0_where_X0_checkNumber : GoodIn wsX0_where wsX0_checkNumber := goodIn_ca (goodIn_r _ [6, 7, 8] (by decide +kernel) (by decide +kernel)) (goodIn_sub (fun _ h => List.mem_cons_of_mem _ (List.mem_append_left _ (List.mem_append_right _ h))) (by decide +kernel))
set_option maxRecDepth 20000 in
theorem gX0_where_X0_checkNumber : GoodIn wsX0_where (va_wsS RX0 61 yX0_checkNumber wsX0_checkNumber) := goodIn_app (goodIn_of _ (by decide +kernel)) ggX0_where_X0_checkNumber
set_option maxRecDepth 20000 in
theorem ggX0_where_X0_checkRange : GoodIn wsX0_where wsX0_checkRange := goodIn_ca (goodIn_r _ [11, 12, 13] (by decide +kernel) (by decide +kernel)) (goodIn_sub (fun _ h => List.mem_cons_of_mem _ (List.mem_append_right _ h)) (by decide +kernel))
set_option maxRecDepth 20000 in
theorem gX0_where_X0_checkRange : GoodIn wsX0_where (va_wsS RX0 65 yX0_checkRange wsX0_checkRange) := goodIn_app (goodIn_of _ (by decide +kernel)) ggX0_where_X0_checkRange
set_option maxRecDepth 20000 in
theorem ggX0_where_X0_sumOfTube : GoodIn wsX0_where wsX0_sumOfTube := goodIn_r _ [17, 18, 19, 20, 5, 21, 22, 23, 24, 25, 26, 27, 28, 29, 30, 31, 32, 33, 34, 35, 36, 37, 38] (by decide +kernel) (by decide +kernel)
set_option maxRecDepth 20000 in
theorem gX0_where_X0_sumOfTube : GoodIn wsX0_where (wsV RX0 150 RX0 yX0_sumOfTube wsX0_sumOfTube) := goodIn_app (goodIn_of _ (by decide +kernel)) ggX0_where_X0_sumOfTube
set_option maxRecDepth 20000 in
theorem ggX0_recipe_X0_checkColour : GoodIn wsX0_recipe wsX0_checkColour := goodIn_ca (goodIn_r _ [6, 7, 8, 5, 9, 10, 11] (by decide +kernel) (by decide +kernel)) (goodIn_sub (fun _ h => List.mem_cons_of_mem _ (List.mem_append_right _ h)) (by decide +kernel))
set_option maxRecDepth 20000 in
theorem gX0_recipe_X0_checkColour : GoodIn wsX0_recipe (va_wsS RX0 46 yX0_checkColour wsX0_checkColour) := goodIn_app (goodIn_of _ (by decide +kernel)) ggX0_recipe_X0_checkColour
set_option maxRecDepth 20000 in
theorem ggX0_recipe_X0_mixed : GoodIn wsX0_recipe wsX0_mixed := goodIn_r _ [15, 16, 17, 18, 5, 19, 20, 21, 25, 26, 27, 28, 29, 30, 31, 32, 33, 34, 35, 36, 37, 38, 39, 40, 41] (by decide +kernel) (by decide +kernel)
set_option maxRecDepth 20000 in
theorem gX0_recipe_X0_mixed : GoodIn wsX0_recipe (wsV RX0 154 RX0 yX0_mixed wsX0_mixed) := goodIn_app (goodIn_of _ (by decide +kernel)) ggX0_recipe_X0_mixed
set_option maxRecDepth 20000 in
theorem ggX0_recipe_X0_square : GoodIn wsX0_recipe wsX0_square := goodIn_r _ [24] (by decide +kernel) (by decide +kernel)
set_option maxRecDepth 20000 in
theorem gX0_recipe_X0_square : GoodIn wsX0_recipe (va_wsS RX0 158 yX0_square wsX0_square) := goodIn_app (goodIn_of _ (by decide +kernel)) ggX0_recipe_X0_square
set_option maxRecDepth 20000 in
theorem ggX0_paid_X0_checkNumber : GoodIn wsX0_paid wsX0_checkNumber := goodIn_ca (goodIn_r _ [5, 6, 7] (by decide +kernel) (by decide +kernel)) (goodIn_sub (fun _ h => List.mem_cons_of_mem _ (List.mem_append_right _ h)) (by decide +kernel))
set_option maxRecDepth 20000 in
theorem gX0_paid_X0_checkNumber : GoodIn wsX0_paid (va_wsS RX0 61 yX0_checkNumber wsX0_checkNumber) := goodIn_app (goodIn_of _ (by decide +kernel)) ggX0_paid_X0_checkNumber
set_option maxRecDepth 20000 in
theorem ggX0_checkColour_X0_checkRange : GoodIn wsX0_checkColour wsX0_checkRange := goodIn_ca (goodIn_r _ [4, 5, 6] (by decide +kernel) (by decide +kernel)) (goodIn_sub (fun _ h => List.mem_cons_of_mem _ (List.mem_append_right _ h)) (by decide +kernel))
set_option maxRecDepth 20000 in
theorem gX0_checkColour_X0_checkRange : GoodIn wsX0_checkColour (va_wsS RX0 65 yX0_checkRange wsX0_checkRange) := goodIn_app (goodIn_of _ (by decide +kernel)) ggX0_checkColour_X0_checkRange
set_option maxRecDepth 20000 in
theorem ggX0_checkAtHome_X0_isLent : GoodIn wsX0_checkAtHome wsX0_isLent := goodIn_r _ [7, 8, 9, 10, 11, 12, 13, 14, 15, 16, 17, 18, 19, 20, 21, 22, 23, 24, 25] (by decide +kernel) (by decide +kernel)
set_option maxRecDepth 20000 in
theorem gX0_checkAtHome_X0_isLent : GoodIn wsX0_checkAtHome (wsV RX0 143 RX0 yX0_isLent wsX0_isLent) := goodIn_app (goodIn_of _ (by decide +kernel)) ggX0_checkAtHome_X0_isLent
set_option maxRecDepth 20000 in
theorem ggX0_sumOfRow_X0_place : GoodIn wsX0_sumOfRow wsX0_place := goodIn_r _ [6] (by decide +kernel) (by decide +kernel)
set_option maxRecDepth 20000 in
theorem gX0_sumOfRow_X0_place : GoodIn wsX0_sumOfRow (va_wsS RX0 84 yX0_place wsX0_place) := goodIn_app (goodIn_of _ (by decide +kernel)) ggX0_sumOfRow_X0_place
set_option maxRecDepth 20000 in
theorem ggX0_sumOfTube_X0_place : GoodIn wsX0_sumOfTube wsX0_place := goodIn_r _ [5] (by decide +kernel) (by decide +kernel)
set_option maxRecDepth 20000 in
theorem gX0_sumOfTube_X0_place : GoodIn wsX0_sumOfTube (va_wsS RX0 84 yX0_place wsX0_place) := goodIn_app (goodIn_of _ (by decide +kernel)) ggX0_sumOfTube_X0_place
set_option maxRecDepth 20000 in
theorem ggX0_move_X0_sumOfRow : GoodIn wsX0_move wsX0_sumOfRow := goodIn_r _ [7, 1, 2, 8, 9, 6, 10, 11, 12, 13, 14, 15, 16, 17, 18, 19, 20, 21, 22, 23, 24, 25, 26, 27] (by decide +kernel) (by decide +kernel)
set_option maxRecDepth 20000 in
theorem gX0_move_X0_sumOfRow : GoodIn wsX0_move (wsV RX0 99 RX0 yX0_sumOfRow wsX0_sumOfRow) := goodIn_app (goodIn_of _ (by decide +kernel)) ggX0_move_X0_sumOfRow
set_option maxRecDepth 20000 in
theorem ggX0_move_X0_place : GoodIn wsX0_move wsX0_place := goodIn_r _ [10] (by decide +kernel) (by decide +kernel)
set_option maxRecDepth 20000 in
theorem gX0_move_X0_place : GoodIn wsX0_move (va_wsS RX0 84 yX0_place wsX0_place) := goodIn_app (goodIn_of _ (by decide +kernel)) ggX0_move_X0_place
set_option maxRecDepth 20000 in
theorem ggX0_waste_X0_place : GoodIn wsX0_waste wsX0_place := goodIn_r _ [6] (by decide +kernel) (by decide +kernel)
set_option maxRecDepth 20000 in
theorem gX0_waste_X0_place : GoodIn wsX0_waste (va_wsS RX0 84 yX0_place wsX0_place) := goodIn_app (goodIn_of _ (by decide +kernel)) ggX0_waste_X0_place
set_option maxRecDepth 20000 in
theorem ggX0_colourOfRow_X0_place : GoodIn wsX0_colourOfRow wsX0_place := goodIn_r _ [6] (by decide +kernel) (by decide +kernel)
set_option maxRecDepth 20000 in
theorem gX0_colourOfRow_X0_place : GoodIn wsX0_colourOfRow (va_wsS RX0 84 yX0_place wsX0_place) := goodIn_app (goodIn_of _ (by decide +kernel)) ggX0_colourOfRow_X0_place
set_option maxRecDepth 20000 in
theorem ggX0_colourOfRow_X0_colourOfTube : GoodIn wsX0_colourOfRow wsX0_colourOfTube := goodIn_r _ [10, 11, 12, 13, 14, 15, 16, 17, 18, 19, 20, 21, 22, 23, 24, 25, 26, 27, 28, 29] (by decide +kernel) (by decide +kernel)
set_option maxRecDepth 20000 in
theorem gX0_colourOfRow_X0_colourOfTube : GoodIn wsX0_colourOfRow (wsV RX0 170 RX0 yX0_colourOfTube wsX0_colourOfTube) := goodIn_app (goodIn_of _ (by decide +kernel)) ggX0_colourOfRow_X0_colourOfTube
set_option maxRecDepth 20000 in
theorem ggX0_gramsOfPigment_X0_place : GoodIn wsX0_gramsOfPigment wsX0_place := goodIn_r _ [7] (by decide +kernel) (by decide +kernel)
set_option maxRecDepth 20000 in
theorem gX0_gramsOfPigment_X0_place : GoodIn wsX0_gramsOfPigment (va_wsS RX0 84 yX0_place wsX0_place) := goodIn_app (goodIn_of _ (by decide +kernel)) ggX0_gramsOfPigment_X0_place
set_option maxRecDepth 20000 in
theorem ggX0_mainPigmentOfRow_X0_gramsOfPigment : GoodIn wsX0_mainPigmentOfRow wsX0_gramsOfPigment := goodIn_r _ [6, 7, 8, 9, 10, 11, 5, 12, 13, 14, 15, 16, 17, 18, 19, 20, 21, 22, 23, 24, 25, 26, 27, 28, 29] (by decide +kernel) (by decide +kernel)
set_option maxRecDepth 20000 in
theorem gX0_mainPigmentOfRow_X0_gramsOfPigment : GoodIn wsX0_mainPigmentOfRow (wsV RX0 173 RX0 yX0_gramsOfPigment wsX0_gramsOfPigment) := goodIn_app (goodIn_of _ (by decide +kernel)) ggX0_mainPigmentOfRow_X0_gramsOfPigment
set_option maxRecDepth 20000 in
theorem ggX0_mixed_X0_colourOfTube : GoodIn wsX0_mixed wsX0_colourOfTube := goodIn_r _ [5, 6, 7, 8, 9, 10, 11, 12, 13, 14, 15, 16, 17, 18, 19, 20, 21, 22, 23, 24] (by decide +kernel) (by decide +kernel)
set_option maxRecDepth 20000 in
theorem gX0_mixed_X0_colourOfTube : GoodIn wsX0_mixed (wsV RX0 170 RX0 yX0_colourOfTube wsX0_colourOfTube) := goodIn_app (goodIn_of _ (by decide +kernel)) ggX0_mixed_X0_colourOfTube
set_option maxRecDepth 20000 in
theorem ggX0_mainPigmentOf_X0_layerRow : GoodIn wsX0_mainPigmentOf wsX0_layerRow := goodIn_r _ [5] (by decide +kernel) (by decide +kernel)
set_option maxRecDepth 20000 in
theorem gX0_mainPigmentOf_X0_layerRow : GoodIn wsX0_mainPigmentOf (va_wsS RX0 116 yX0_layerRow wsX0_layerRow) := goodIn_app (goodIn_of _ (by decide +kernel)) ggX0_mainPigmentOf_X0_layerRow
set_option maxRecDepth 20000 in
theorem ggX0_mainPigmentOf_X0_mainPigmentOfRow : GoodIn wsX0_mainPigmentOf wsX0_mainPigmentOfRow := goodIn_r _ [9, 10, 11, 12, 13, 4, 14, 15, 16, 17, 18, 19, 20, 21, 22, 23, 24, 25, 26, 27, 28, 29, 30, 31, 32, 33, 34, 35, 36, 37] (by decide +kernel) (by decide +kernel)
set_option maxRecDepth 20000 in
theorem gX0_mainPigmentOf_X0_mainPigmentOfRow : GoodIn wsX0_mainPigmentOf (wsV RX0 176 RX0 yX0_mainPigmentOfRow wsX0_mainPigmentOfRow) := goodIn_app (goodIn_of _ (by decide +kernel)) ggX0_mainPigmentOf_X0_mainPigmentOfRow
set_option maxRecDepth 20000 in
theorem ggX0_lookOf_X0_layerRow : GoodIn wsX0_lookOf wsX0_layerRow := goodIn_r _ [5] (by decide +kernel) (by decide +kernel)
set_option maxRecDepth 20000 in
theorem gX0_lookOf_X0_layerRow : GoodIn wsX0_lookOf (va_wsS RX0 116 yX0_layerRow wsX0_layerRow) := goodIn_app (goodIn_of _ (by decide +kernel)) ggX0_lookOf_X0_layerRow
set_option maxRecDepth 20000 in
theorem ggX0_lookOf_X0_colourOfRow : GoodIn wsX0_lookOf wsX0_colourOfRow := goodIn_r _ [9, 10, 11, 12, 13, 4, 14, 15, 16, 17, 18, 19, 20, 21, 22, 23, 24, 25, 26, 27, 28, 29, 30, 31, 32, 33, 34, 35, 36, 37] (by decide +kernel) (by decide +kernel)
set_option maxRecDepth 20000 in
theorem gX0_lookOf_X0_colourOfRow : GoodIn wsX0_lookOf (wsV RX0 137 RX0 yX0_colourOfRow wsX0_colourOfRow) := goodIn_app (goodIn_of _ (by decide +kernel)) ggX0_lookOf_X0_colourOfRow
set_option maxRecDepth 20000 in
theorem ggX0_valueOf_X0_averagePriceOfAlike : GoodIn wsX0_valueOf wsX0_averagePriceOfAlike := goodIn_r _ [10, 11, 12, 13, 14, 15, 9, 16, 17, 18, 19, 20, 21, 22, 23, 24, 25, 26, 27, 28, 29, 30, 31, 32, 33, 34, 35, 36, 37, 38, 39, 40, 41, 42, 43, 44, 45, 46, 47, 48, 49, 50, 51, 52] (by decide +kernel) (by decide +kernel)
set_option maxRecDepth 20000 in
theorem gX0_valueOf_X0_averagePriceOfAlike : GoodIn wsX0_valueOf (wsV RX0 179 RX0 yX0_averagePriceOfAlike wsX0_averagePriceOfAlike) := goodIn_app (goodIn_of _ (by decide +kernel)) ggX0_valueOf_X0_averagePriceOfAlike
set_option maxRecDepth 20000 in
theorem ggX0_averagePriceOfAlike_X0_mainPigmentOf : GoodIn wsX0_averagePriceOfAlike wsX0_mainPigmentOf := goodIn_r _ [7, 8, 9, 10, 6, 11, 12, 13, 14, 15, 16, 17, 18, 19, 20, 21, 22, 23, 24, 25, 26, 27, 28, 29, 30, 31, 32, 33, 34, 35, 36, 37, 38, 39, 40, 41, 42, 43] (by decide +kernel) (by decide +kernel)
set_option maxRecDepth 20000 in
theorem gX0_averagePriceOfAlike_X0_mainPigmentOf : GoodIn wsX0_averagePriceOfAlike (wsV RX0 140 RX0 yX0_mainPigmentOf wsX0_mainPigmentOf) := goodIn_app (goodIn_of _ (by decide +kernel)) ggX0_averagePriceOfAlike_X0_mainPigmentOf
set_option maxRecDepth 20000 in
theorem ggX1_areShades_X1_in : GoodIn wsX1_areShades wsX1_in := goodIn_r _ [4] (by decide +kernel) (by decide +kernel)
set_option maxRecDepth 20000 in
theorem gX1_areShades_X1_in : GoodIn wsX1_areShades (va_wsS RX1 62 yX1_in wsX1_in) := goodIn_app (goodIn_of _ (by decide +kernel)) ggX1_areShades_X1_in
set_option maxRecDepth 20000 in
theorem ggX1_isTube_X1_in : GoodIn wsX1_isTube wsX1_in := goodIn_r _ [5] (by decide +kernel) (by decide +kernel)
set_option maxRecDepth 20000 in
theorem gX1_isTube_X1_in : GoodIn wsX1_isTube (va_wsS RX1 62 yX1_in wsX1_in) := goodIn_app (goodIn_of _ (by decide +kernel)) ggX1_isTube_X1_in
set_option maxRecDepth 20000 in
theorem ggX1_isPot_X1_in : GoodIn wsX1_isPot wsX1_in := goodIn_r _ [5] (by decide +kernel) (by decide +kernel)
set_option maxRecDepth 20000 in
theorem gX1_isPot_X1_in : GoodIn wsX1_isPot (va_wsS RX1 62 yX1_in wsX1_in) := goodIn_app (goodIn_of _ (by decide +kernel)) ggX1_isPot_X1_in
set_option maxRecDepth 20000 in
theorem ggX1_isPicture_X1_in : GoodIn wsX1_isPicture wsX1_in := goodIn_r _ [5] (by decide +kernel) (by decide +kernel)
set_option maxRecDepth 20000 in
theorem gX1_isPicture_X1_in : GoodIn wsX1_isPicture (va_wsS RX1 62 yX1_in wsX1_in) := goodIn_app (goodIn_of _ (by decide +kernel)) ggX1_isPicture_X1_in
set_option maxRecDepth 20000 in
theorem ggX1_isHouse_X1_in : GoodIn wsX1_isHouse wsX1_in := goodIn_r _ [4] (by decide +kernel) (by decide +kernel)
set_option maxRecDepth 20000 in
theorem gX1_isHouse_X1_in : GoodIn wsX1_isHouse (va_wsS RX1 62 yX1_in wsX1_in) := goodIn_app (goodIn_of _ (by decide +kernel)) ggX1_isHouse_X1_in
set_option maxRecDepth 20000 in
theorem ggX1_pigment_X1_areShades : GoodIn wsX1_pigment wsX1_areShades := goodIn_r _ [7, 8, 9, 6, 10] (by decide +kernel) (by decide +kernel)
set_option maxRecDepth 20000 in
theorem gX1_pigment_X1_areShades : GoodIn wsX1_pigment (va_wsS RX1 75 yX1_areShades wsX1_areShades) := goodIn_app (goodIn_of _ (by decide +kernel)) ggX1_pigment_X1_areShades
set_option maxRecDepth 20000 in
theorem ggX1_tube_X1_in : GoodIn wsX1_tube wsX1_in := goodIn_r _ [9] (by decide +kernel) (by decide +kernel)
set_option maxRecDepth 20000 in
theorem gX1_tube_X1_in : GoodIn wsX1_tube (va_wsS RX1 62 yX1_in wsX1_in) := goodIn_app (goodIn_of _ (by decide +kernel)) ggX1_tube_X1_in
set_option maxRecDepth 20000 in
theorem ggX1_squeeze_X1_isPot : GoodIn wsX1_squeeze wsX1_isPot := goodIn_r _ [8, 9, 10, 11, 7, 12, 18, 19, 20, 21, 22, 23, 24, 25, 26, 27, 28, 29, 30, 31, 32, 33, 34, 35, 36, 37, 38, 39] (by decide +kernel) (by decide +kernel)
set_option maxRecDepth 20000 in
theorem gX1_squeeze_X1_isPot : GoodIn wsX1_squeeze (wsV RX1 81 RX1 yX1_isPot wsX1_isPot) := goodIn_app (goodIn_of _ (by decide +kernel)) ggX1_squeeze_X1_isPot
set_option maxRecDepth 20000 in
theorem ggX1_squeeze_X1_isTube : GoodIn wsX1_squeeze wsX1_isTube := goodIn_r _ [16, 17, 10, 11, 7, 12, 18, 19, 20, 21, 22, 23, 24, 25, 26, 27, 28, 29, 30, 31, 32, 33, 34, 35, 36, 37, 38, 39] (by decide +kernel) (by decide +kernel)
set_option maxRecDepth 20000 in
theorem gX1_squeeze_X1_isTube : GoodIn wsX1_squeeze (wsV RX1 85 RX1 yX1_isTube wsX1_isTube) := goodIn_app (goodIn_of _ (by decide +kernel)) ggX1_squeeze_X1_isTube
set_option maxRecDepth 20000 in
theorem ggX1_squeeze_X1_in : GoodIn wsX1_squeeze wsX1_in := goodIn_r _ [12] (by decide +kernel) (by decide +kernel)
set_option maxRecDepth 20000 in
theorem gX1_squeeze_X1_in : GoodIn wsX1_squeeze (va_wsS RX1 62 yX1_in wsX1_in) := goodIn_app (goodIn_of _ (by decide +kernel)) ggX1_squeeze_X1_in
set_option maxRecDepth 20000 in
theorem ggX1_flows_X1_gramsOf : GoodIn wsX1_flows wsX1_gramsOf := goodIn_r _ [7, 1, 8, 9, 10, 11, 12, 13, 14, 15, 16, 17, 18, 19, 20, 21, 22, 23, 24, 25, 26, 27, 28, 29] (by decide +kernel) (by decide +kernel)
set_option maxRecDepth 20000 in
theorem gX1_flows_X1_gramsOf : GoodIn wsX1_flows (wsV RX1 88 RX1 yX1_gramsOf wsX1_gramsOf) := goodIn_app (goodIn_of _ (by decide +kernel)) ggX1_flows_X1_gramsOf
set_option maxRecDepth 20000 in
theorem ggX1_pour_X1_isPot : GoodIn wsX1_pour wsX1_isPot := goodIn_r _ [8, 9, 10, 11, 7, 12, 21, 22, 23, 24, 25, 26, 27, 28, 29, 30, 31, 32, 33, 34, 35, 36, 37, 38, 39, 40, 41, 42] (by decide +kernel) (by decide +kernel)
set_option maxRecDepth 20000 in
theorem gX1_pour_X1_isPot : GoodIn wsX1_pour (wsV RX1 81 RX1 yX1_isPot wsX1_isPot) := goodIn_app (goodIn_of _ (by decide +kernel)) ggX1_pour_X1_isPot
set_option maxRecDepth 20000 in
theorem ggX1_pour_X1_in : GoodIn wsX1_pour wsX1_in := goodIn_r _ [12] (by decide +kernel) (by decide +kernel)
set_option maxRecDepth 20000 in
theorem gX1_pour_X1_in : GoodIn wsX1_pour (va_wsS RX1 62 yX1_in wsX1_in) := goodIn_app (goodIn_of _ (by decide +kernel)) ggX1_pour_X1_in
set_option maxRecDepth 20000 in
theorem ggX1_pour_X1_gramsOf : GoodIn wsX1_pour wsX1_gramsOf := goodIn_r _ [16, 2, 21, 22, 23, 24, 25, 26, 27, 28, 29, 30, 31, 32, 33, 34, 35, 36, 37, 38, 39, 40, 41, 42] (by decide +kernel) (by decide +kernel)
set_option maxRecDepth 20000 in
theorem gX1_pour_X1_gramsOf : GoodIn wsX1_pour (wsV RX1 88 RX1 yX1_gramsOf wsX1_gramsOf) := goodIn_app (goodIn_of _ (by decide +kernel)) ggX1_pour_X1_gramsOf
set_option maxRecDepth 20000 in
theorem ggX1_pour_X1_flows : GoodIn wsX1_pour wsX1_flows := goodIn_r _ [20, 2, 3, 13, 14, 15, 7, 16, 21, 22, 23, 24, 25, 26, 27, 28, 29, 30, 31, 32, 33, 34, 35, 36, 37, 38, 39, 40, 41, 42] (by decide +kernel) (by decide +kernel)
set_option maxRecDepth 20000 in
theorem gX1_pour_X1_flows : GoodIn wsX1_pour (wsV RX1 92 RX1 yX1_flows wsX1_flows) := goodIn_app (goodIn_of _ (by decide +kernel)) ggX1_pour_X1_flows
set_option maxRecDepth 20000 in
theorem ggX1_scrape_X1_isPot : GoodIn wsX1_scrape wsX1_isPot := goodIn_r _ [8, 9, 10, 11, 7, 12, 17, 18, 19, 20, 21, 22, 23, 24, 25, 26, 27, 28, 29, 30, 31, 32, 33, 34, 35, 36, 37, 38] (by decide +kernel) (by decide +kernel)
set_option maxRecDepth 20000 in
theorem gX1_scrape_X1_isPot : GoodIn wsX1_scrape (wsV RX1 81 RX1 yX1_isPot wsX1_isPot) := goodIn_app (goodIn_of _ (by decide +kernel)) ggX1_scrape_X1_isPot
set_option maxRecDepth 20000 in
theorem ggX1_scrape_X1_gramsOf : GoodIn wsX1_scrape wsX1_gramsOf := goodIn_r _ [16, 3, 17, 18, 19, 20, 21, 22, 23, 24, 25, 26, 27, 28, 29, 30, 31, 32, 33, 34, 35, 36, 37, 38] (by decide +kernel) (by decide +kernel)
set_option maxRecDepth 20000 in
theorem gX1_scrape_X1_gramsOf : GoodIn wsX1_scrape (wsV RX1 88 RX1 yX1_gramsOf wsX1_gramsOf) := goodIn_app (goodIn_of _ (by decide +kernel)) ggX1_scrape_X1_gramsOf
set_option maxRecDepth 20000 in
theorem ggX1_paint_X1_isPicture : GoodIn wsX1_paint wsX1_isPicture := goodIn_r _ [10, 11, 12, 13, 9, 14, 32, 33, 34, 35, 36, 37, 38, 39, 40, 41, 42, 43, 44, 45, 46, 47, 48, 49, 50, 51, 52, 53] (by decide +kernel) (by decide +kernel)
set_option maxRecDepth 20000 in
theorem gX1_paint_X1_isPicture : GoodIn wsX1_paint (wsV RX1 96 RX1 yX1_isPicture wsX1_isPicture) := goodIn_app (goodIn_of _ (by decide +kernel)) ggX1_paint_X1_isPicture
set_option maxRecDepth 20000 in
theorem ggX1_paint_X1_isPot : GoodIn wsX1_paint wsX1_isPot := goodIn_r _ [18, 19, 12, 13, 9, 14, 32, 33, 34, 35, 36, 37, 38, 39, 40, 41, 42, 43, 44, 45, 46, 47, 48, 49, 50, 51, 52, 53] (by decide +kernel) (by decide +kernel)
set_option maxRecDepth 20000 in
theorem gX1_paint_X1_isPot : GoodIn wsX1_paint (wsV RX1 81 RX1 yX1_isPot wsX1_isPot) := goodIn_app (goodIn_of _ (by decide +kernel)) ggX1_paint_X1_isPot
set_option maxRecDepth 20000 in
theorem ggX1_paint_X1_in : GoodIn wsX1_paint wsX1_in := goodIn_r _ [14] (by decide +kernel) (by decide +kernel)
set_option maxRecDepth 20000 in
theorem gX1_paint_X1_in : GoodIn wsX1_paint (va_wsS RX1 62 yX1_in wsX1_in) := goodIn_app (goodIn_of _ (by decide +kernel)) ggX1_paint_X1_in
set_option maxRecDepth 20000 in
theorem ggX1_paint_X1_gramsOf : GoodIn wsX1_paint wsX1_gramsOf := goodIn_r _ [23, 24, 32, 33, 34, 35, 36, 37, 38, 39, 40, 41, 42, 43, 44, 45, 46, 47, 48, 49, 50, 51, 52, 53] (by decide +kernel) (by decide +kernel)
set_option maxRecDepth 20000 in
theorem gX1_paint_X1_gramsOf : GoodIn wsX1_paint (wsV RX1 88 RX1 yX1_gramsOf wsX1_gramsOf) := goodIn_app (goodIn_of _ (by decide +kernel)) ggX1_paint_X1_gramsOf
set_option maxRecDepth 20000 in
theorem ggX1_paint_X1_flows : GoodIn wsX1_paint wsX1_flows := goodIn_r _ [28, 24, 5, 20, 21, 22, 9, 23, 32, 33, 34, 35, 36, 37, 38, 39, 40, 41, 42, 43, 44, 45, 46, 47, 48, 49, 50, 51, 52, 53] (by decide +kernel) (by decide +kernel)
set_option maxRecDepth 20000 in
theorem gX1_paint_X1_flows : GoodIn wsX1_paint (wsV RX1 92 RX1 yX1_flows wsX1_flows) := goodIn_app (goodIn_of _ (by decide +kernel)) ggX1_paint_X1_flows
set_option maxRecDepth 20000 in
theorem ggX1_paint_X1_layerAt : GoodIn wsX1_paint wsX1_layerAt := goodIn_r _ [31] (by decide +kernel) (by decide +kernel)
set_option maxRecDepth 20000 in
theorem gX1_paint_X1_layerAt : GoodIn wsX1_paint (va_wsS RX1 99 yX1_layerAt wsX1_layerAt) := goodIn_app (goodIn_of _ (by decide +kernel)) ggX1_paint_X1_layerAt
set_option maxRecDepth 20000 in
theorem ggX1_clean_X1_isPicture : GoodIn wsX1_clean wsX1_isPicture := goodIn_r _ [10, 11, 12, 13, 9, 14, 18, 19, 20, 21, 22, 23, 24, 25, 26, 27, 28, 29, 30, 31, 32, 33, 34, 35, 36, 37, 38, 39] (by decide +kernel) (by decide +kernel)
set_option maxRecDepth 20000 in
theorem gX1_clean_X1_isPicture : GoodIn wsX1_clean (wsV RX1 96 RX1 yX1_isPicture wsX1_isPicture) := goodIn_app (goodIn_of _ (by decide +kernel)) ggX1_clean_X1_isPicture
set_option maxRecDepth 20000 in
theorem ggX1_clean_X1_in : GoodIn wsX1_clean wsX1_in := goodIn_r _ [14] (by decide +kernel) (by decide +kernel)
set_option maxRecDepth 20000 in
theorem gX1_clean_X1_in : GoodIn wsX1_clean (va_wsS RX1 62 yX1_in wsX1_in) := goodIn_app (goodIn_of _ (by decide +kernel)) ggX1_clean_X1_in
set_option maxRecDepth 20000 in
theorem ggX1_clean_X1_layerAt : GoodIn wsX1_clean wsX1_layerAt := goodIn_r _ [17] (by decide +kernel) (by decide +kernel)
set_option maxRecDepth 20000 in
theorem gX1_clean_X1_layerAt : GoodIn wsX1_clean (va_wsS RX1 99 yX1_layerAt wsX1_layerAt) := goodIn_app (goodIn_of _ (by decide +kernel)) ggX1_clean_X1_layerAt
set_option maxRecDepth 20000 in
theorem ggX1_main_X1_layerAt : GoodIn wsX1_main wsX1_layerAt := goodIn_r _ [9] (by decide +kernel) (by decide +kernel)
set_option maxRecDepth 20000 in
theorem gX1_main_X1_layerAt : GoodIn wsX1_main (va_wsS RX1 99 yX1_layerAt wsX1_layerAt) := goodIn_app (goodIn_of _ (by decide +kernel)) ggX1_main_X1_layerAt
set_option maxRecDepth 20000 in
theorem ggX1_look_X1_layerAt : GoodIn wsX1_look wsX1_layerAt := goodIn_r _ [9] (by decide +kernel) (by decide +kernel)
set_option maxRecDepth 20000 in
theorem gX1_look_X1_layerAt : GoodIn wsX1_look (va_wsS RX1 99 yX1_layerAt wsX1_layerAt) := goodIn_app (goodIn_of _ (by decide +kernel)) ggX1_look_X1_layerAt
set_option maxRecDepth 20000 in
theorem ggX1_value_X1_main : GoodIn wsX1_value wsX1_main := goodIn_r _ [8, 9, 10, 11, 12, 13, 14, 15, 7, 16, 17, 18, 19, 20, 21, 22, 23, 24, 25, 26, 27, 28, 29, 30, 31, 32, 33, 34, 35, 36, 37, 38] (by decide +kernel) (by decide +kernel)
set_option maxRecDepth 20000 in
theorem gX1_value_X1_main : GoodIn wsX1_value (wsV RX1 103 RX1 yX1_main wsX1_main) := goodIn_app (goodIn_of _ (by decide +kernel)) ggX1_value_X1_main
set_option maxRecDepth 20000 in
theorem ggX1_damp_X1_isHouse : GoodIn wsX1_damp wsX1_isHouse := goodIn_r _ [6, 7, 8, 5, 9] (by decide +kernel) (by decide +kernel)
set_option maxRecDepth 20000 in
theorem gX1_damp_X1_isHouse : GoodIn wsX1_damp (va_wsS RX1 106 yX1_isHouse wsX1_isHouse) := goodIn_app (goodIn_of _ (by decide +kernel)) ggX1_damp_X1_isHouse
set_option maxRecDepth 20000 in
theorem ggX1_damp_X1_in : GoodIn wsX1_damp wsX1_in := goodIn_r _ [9] (by decide +kernel) (by decide +kernel)
set_option maxRecDepth 20000 in
theorem gX1_damp_X1_in : GoodIn wsX1_damp (va_wsS RX1 62 yX1_in wsX1_in) := goodIn_app (goodIn_of _ (by decide +kernel)) ggX1_damp_X1_in
set_option maxRecDepth 20000 in
theorem ggX1_lend_X1_isPicture : GoodIn wsX1_lend wsX1_isPicture := goodIn_r _ [10, 11, 12, 13, 9, 14, 35, 36, 37, 38, 39, 40, 41, 42, 43, 44, 45, 46, 47, 48, 49, 50, 51, 52, 53, 54, 55, 56] (by decide +kernel) (by decide +kernel)
set_option maxRecDepth 20000 in
theorem gX1_lend_X1_isPicture : GoodIn wsX1_lend (wsV RX1 96 RX1 yX1_isPicture wsX1_isPicture) := goodIn_app (goodIn_of _ (by decide +kernel)) ggX1_lend_X1_isPicture
set_option maxRecDepth 20000 in
theorem ggX1_lend_X1_isHouse : GoodIn wsX1_lend wsX1_isHouse := goodIn_r _ [17, 12, 13, 9, 14] (by decide +kernel) (by decide +kernel)
set_option maxRecDepth 20000 in
theorem gX1_lend_X1_isHouse : GoodIn wsX1_lend (va_wsS RX1 106 yX1_isHouse wsX1_isHouse) := goodIn_app (goodIn_of _ (by decide +kernel)) ggX1_lend_X1_isHouse
set_option maxRecDepth 20000 in
theorem ggX1_lend_X1_in : GoodIn wsX1_lend wsX1_in := goodIn_r _ [14] (by decide +kernel) (by decide +kernel)
set_option maxRecDepth 20000 in
theorem gX1_lend_X1_in : GoodIn wsX1_lend (va_wsS RX1 62 yX1_in wsX1_in) := goodIn_app (goodIn_of _ (by decide +kernel)) ggX1_lend_X1_in
set_option maxRecDepth 20000 in
theorem ggX1_lend_X1_value : GoodIn wsX1_lend wsX1_value := goodIn_r _ [21, 11, 22, 2, 23, 24, 25, 9, 26, 27, 28, 29, 30, 31, 32, 33, 34, 35, 36, 37, 38, 39, 40, 41, 42, 43, 44, 45, 46, 47, 48, 49, 50, 51, 52, 53, 54, 55, 56] (by decide +kernel) (by decide +kernel)
set_option maxRecDepth 20000 in
theorem gX1_lend_X1_value : GoodIn wsX1_lend (wsV RX1 109 RX1 yX1_value wsX1_value) := goodIn_app (goodIn_of _ (by decide +kernel)) ggX1_lend_X1_value
set_option maxRecDepth 20000 in
theorem ggX1_sell_X1_isPicture : GoodIn wsX1_sell wsX1_isPicture := goodIn_r _ [10, 11, 12, 13, 9, 14, 31, 32, 33, 34, 35, 36, 37, 38, 39, 40, 41, 42, 43, 44, 45, 46, 47, 48, 49, 50, 51, 52] (by decide +kernel) (by decide +kernel)
set_option maxRecDepth 20000 in
theorem gX1_sell_X1_isPicture : GoodIn wsX1_sell (wsV RX1 96 RX1 yX1_isPicture wsX1_isPicture) := goodIn_app (goodIn_of _ (by decide +kernel)) ggX1_sell_X1_isPicture
set_option maxRecDepth 20000 in
theorem ggX1_sell_X1_in : GoodIn wsX1_sell wsX1_in := goodIn_r _ [14] (by decide +kernel) (by decide +kernel)
set_option maxRecDepth 20000 in
theorem gX1_sell_X1_in : GoodIn wsX1_sell (va_wsS RX1 62 yX1_in wsX1_in) := goodIn_app (goodIn_of _ (by decide +kernel)) ggX1_sell_X1_in
set_option maxRecDepth 20000 in
theorem ggX1_sell_X1_value : GoodIn wsX1_sell wsX1_value := goodIn_r _ [18, 11, 5, 19, 20, 21, 22, 9, 23, 3, 24, 25, 26, 27, 28, 29, 30, 31, 32, 33, 34, 35, 36, 37, 38, 39, 40, 41, 42, 43, 44, 45, 46, 47, 48, 49, 50, 51, 52] (by decide +kernel) (by decide +kernel)
set_option maxRecDepth 20000 in
theorem gX1_sell_X1_value : GoodIn wsX1_sell (wsV RX1 109 RX1 yX1_value wsX1_value) := goodIn_app (goodIn_of _ (by decide +kernel)) ggX1_sell_X1_value
set_option maxRecDepth 20000 in
theorem ggX1_passOne_X1_in : GoodIn wsX1_passOne wsX1_in := goodIn_r _ [12] (by decide +kernel) (by decide +kernel)
set_option maxRecDepth 20000 in
theorem gX1_passOne_X1_in : GoodIn wsX1_passOne (va_wsS RX1 62 yX1_in wsX1_in) := goodIn_app (goodIn_of _ (by decide +kernel)) ggX1_passOne_X1_in
set_option maxRecDepth 20000 in
theorem ggX1_pass_X1_in : GoodIn wsX1_pass wsX1_in := goodIn_r _ [6] (by decide +kernel) (by decide +kernel)
set_option maxRecDepth 20000 in
theorem gX1_pass_X1_in : GoodIn wsX1_pass (va_wsS RX1 62 yX1_in wsX1_in) := goodIn_app (goodIn_of _ (by decide +kernel)) ggX1_pass_X1_in
set_option maxRecDepth 20000 in
theorem ggX1_pass_X1_passOne : GoodIn wsX1_pass wsX1_passOne := goodIn_r _ [10, 1, 11, 12, 13, 14, 15, 16, 17, 3, 4, 5, 6, 18, 19, 20, 21, 22, 23, 24, 25, 26, 27, 28, 29, 30, 31, 32, 33, 34, 35, 36, 37, 38, 39] (by decide +kernel) (by decide +kernel)
set_option maxRecDepth 20000 in
theorem gX1_pass_X1_passOne : GoodIn wsX1_pass (wsV RX1 116 RX1 yX1_passOne wsX1_passOne) := goodIn_app (goodIn_of _ (by decide +kernel)) ggX1_pass_X1_passOne
set_option maxRecDepth 20000 in
theorem ggX1_left_X1_isTube : GoodIn wsX1_left wsX1_isTube := goodIn_r _ [7, 8, 9, 10, 6, 11, 12, 13, 14, 15, 16, 17, 18, 19, 20, 21, 22, 23, 24, 25, 26, 27, 28, 29, 30, 31, 32, 33] (by decide +kernel) (by decide +kernel)
set_option maxRecDepth 20000 in
theorem gX1_left_X1_isTube : GoodIn wsX1_left (wsV RX1 85 RX1 yX1_isTube wsX1_isTube) := goodIn_app (goodIn_of _ (by decide +kernel)) ggX1_left_X1_isTube
set_option maxRecDepth 20000 in
theorem ggX1_has_X1_isPot : GoodIn wsX1_has wsX1_isPot := goodIn_r _ [7, 8, 9, 10, 6, 11, 21, 22, 23, 24, 25, 26, 27, 28, 29, 30, 31, 32, 33, 34, 35, 36, 37, 38, 39, 40, 41, 42] (by decide +kernel) (by decide +kernel)
set_option maxRecDepth 20000 in
theorem gX1_has_X1_isPot : GoodIn wsX1_has (wsV RX1 81 RX1 yX1_isPot wsX1_isPot) := goodIn_app (goodIn_of _ (by decide +kernel)) ggX1_has_X1_isPot
set_option maxRecDepth 20000 in
theorem ggX1_has_X1_isTube : GoodIn wsX1_has wsX1_isTube := goodIn_r _ [15, 16, 9, 10, 6, 11, 21, 22, 23, 24, 25, 26, 27, 28, 29, 30, 31, 32, 33, 34, 35, 36, 37, 38, 39, 40, 41, 42] (by decide +kernel) (by decide +kernel)
set_option maxRecDepth 20000 in
theorem gX1_has_X1_isTube : GoodIn wsX1_has (wsV RX1 85 RX1 yX1_isTube wsX1_isTube) := goodIn_app (goodIn_of _ (by decide +kernel)) ggX1_has_X1_isTube
set_option maxRecDepth 20000 in
theorem ggX1_has_X1_gramsOf : GoodIn wsX1_has wsX1_gramsOf := goodIn_r _ [20, 2, 21, 22, 23, 24, 25, 26, 27, 28, 29, 30, 31, 32, 33, 34, 35, 36, 37, 38, 39, 40, 41, 42] (by decide +kernel) (by decide +kernel)
set_option maxRecDepth 20000 in
theorem gX1_has_X1_gramsOf : GoodIn wsX1_has (wsV RX1 88 RX1 yX1_gramsOf wsX1_gramsOf) := goodIn_app (goodIn_of _ (by decide +kernel)) ggX1_has_X1_gramsOf
set_option maxRecDepth 20000 in
theorem ggX1_colour_X1_isPot : GoodIn wsX1_colour wsX1_isPot := goodIn_r _ [10, 11, 12, 13, 9, 14, 19, 20, 21, 22, 23, 24, 25, 26, 27, 28, 29, 30, 31, 32, 33, 34, 35, 36, 37, 38, 39, 40] (by decide +kernel) (by decide +kernel)
set_option maxRecDepth 20000 in
theorem gX1_colour_X1_isPot : GoodIn wsX1_colour (wsV RX1 81 RX1 yX1_isPot wsX1_isPot) := goodIn_app (goodIn_of _ (by decide +kernel)) ggX1_colour_X1_isPot
set_option maxRecDepth 20000 in
theorem ggX1_colour_X1_in : GoodIn wsX1_colour wsX1_in := goodIn_r _ [14] (by decide +kernel) (by decide +kernel)
set_option maxRecDepth 20000 in
theorem gX1_colour_X1_in : GoodIn wsX1_colour (va_wsS RX1 62 yX1_in wsX1_in) := goodIn_app (goodIn_of _ (by decide +kernel)) ggX1_colour_X1_in
set_option maxRecDepth 20000 in
theorem ggX1_colour_X1_gramsOf : GoodIn wsX1_colour wsX1_gramsOf := goodIn_r _ [18, 3, 19, 20, 21, 22, 23, 24, 25, 26, 27, 28, 29, 30, 31, 32, 33, 34, 35, 36, 37, 38, 39, 40] (by decide +kernel) (by decide +kernel)
set_option maxRecDepth 20000 in
theorem gX1_colour_X1_gramsOf : GoodIn wsX1_colour (wsV RX1 88 RX1 yX1_gramsOf wsX1_gramsOf) := goodIn_app (goodIn_of _ (by decide +kernel)) ggX1_colour_X1_gramsOf
set_option maxRecDepth 20000 in
theorem ggX1_of_X1_isPicture : GoodIn wsX1_of wsX1_isPicture := goodIn_r _ [10, 11, 12, 13, 9, 14, 36, 37, 38, 39, 40, 41, 42, 43, 44, 45, 46, 47, 48, 49, 50, 51, 52, 53, 54, 55, 56, 57] (by decide +kernel) (by decide +kernel)
set_option maxRecDepth 20000 in
theorem gX1_of_X1_isPicture : GoodIn wsX1_of (wsV RX1 96 RX1 yX1_isPicture wsX1_isPicture) := goodIn_app (goodIn_of _ (by decide +kernel)) ggX1_of_X1_isPicture
set_option maxRecDepth 20000 in
theorem ggX1_of_X1_in : GoodIn wsX1_of wsX1_in := goodIn_r _ [14] (by decide +kernel) (by decide +kernel)
set_option maxRecDepth 20000 in
theorem gX1_of_X1_in : GoodIn wsX1_of (va_wsS RX1 62 yX1_in wsX1_in) := goodIn_app (goodIn_of _ (by decide +kernel)) ggX1_of_X1_in
set_option maxRecDepth 20000 in
theorem ggX1_of_X1_value : GoodIn wsX1_of wsX1_value := goodIn_r _ [18, 11, 19, 3, 20, 21, 22, 9, 23, 2, 24, 25, 26, 27, 28, 29, 30, 36, 37, 38, 39, 40, 41, 42, 43, 44, 45, 46, 47, 48, 49, 50, 51, 52, 53, 54, 55, 56, 57] (by decide +kernel) (by decide +kernel)
set_option maxRecDepth 20000 in
theorem gX1_of_X1_value : GoodIn wsX1_of (wsV RX1 109 RX1 yX1_value wsX1_value) := goodIn_app (goodIn_of _ (by decide +kernel)) ggX1_of_X1_value
set_option maxRecDepth 20000 in
theorem ggX1_of_X1_main : GoodIn wsX1_of wsX1_main := goodIn_r _ [23, 2, 24, 25, 26, 27, 28, 29, 9, 30, 36, 37, 38, 39, 40, 41, 42, 43, 44, 45, 46, 47, 48, 49, 50, 51, 52, 53, 54, 55, 56, 57] (by decide +kernel) (by decide +kernel)
set_option maxRecDepth 20000 in
theorem gX1_of_X1_main : GoodIn wsX1_of (wsV RX1 103 RX1 yX1_main wsX1_main) := goodIn_app (goodIn_of _ (by decide +kernel)) ggX1_of_X1_main
set_option maxRecDepth 20000 in
theorem ggX1_of_X1_look : GoodIn wsX1_of wsX1_look := goodIn_r _ [34, 2, 25, 27, 35, 26, 28, 29, 9, 30, 36, 37, 38, 39, 40, 41, 42, 43, 44, 45, 46, 47, 48, 49, 50, 51, 52, 53, 54, 55, 56, 57] (by decide +kernel) (by decide +kernel)
set_option maxRecDepth 20000 in
theorem gX1_of_X1_look : GoodIn wsX1_of (wsV RX1 119 RX1 yX1_look wsX1_look) := goodIn_app (goodIn_of _ (by decide +kernel)) ggX1_of_X1_look
set_option maxRecDepth 20000 in
theorem ggX1_layer_X1_isPicture : GoodIn wsX1_layer wsX1_isPicture := goodIn_r _ [8, 9, 10, 11, 7, 12, 21, 22, 23, 24, 25, 26, 27, 28, 29, 30, 31, 32, 33, 34, 35, 36, 37, 38, 39, 40, 41, 42] (by decide +kernel) (by decide +kernel)
set_option maxRecDepth 20000 in
theorem gX1_layer_X1_isPicture : GoodIn wsX1_layer (wsV RX1 96 RX1 yX1_isPicture wsX1_isPicture) := goodIn_app (goodIn_of _ (by decide +kernel)) ggX1_layer_X1_isPicture
set_option maxRecDepth 20000 in
theorem ggX1_layer_X1_in : GoodIn wsX1_layer wsX1_in := goodIn_r _ [12] (by decide +kernel) (by decide +kernel)
set_option maxRecDepth 20000 in
theorem gX1_layer_X1_in : GoodIn wsX1_layer (va_wsS RX1 62 yX1_in wsX1_in) := goodIn_app (goodIn_of _ (by decide +kernel)) ggX1_layer_X1_in
set_option maxRecDepth 20000 in
theorem ggX1_layer_X1_isTube : GoodIn wsX1_layer wsX1_isTube := goodIn_r _ [16, 17, 10, 11, 7, 12, 21, 22, 23, 24, 25, 26, 27, 28, 29, 30, 31, 32, 33, 34, 35, 36, 37, 38, 39, 40, 41, 42] (by decide +kernel) (by decide +kernel)
set_option maxRecDepth 20000 in
theorem gX1_layer_X1_isTube : GoodIn wsX1_layer (wsV RX1 85 RX1 yX1_isTube wsX1_isTube) := goodIn_app (goodIn_of _ (by decide +kernel)) ggX1_layer_X1_isTube
set_option maxRecDepth 20000 in
theorem ggX1_layer_X1_layerAt : GoodIn wsX1_layer wsX1_layerAt := goodIn_r _ [20] (by decide +kernel) (by decide +kernel)
set_option maxRecDepth 20000 in
theorem gX1_layer_X1_layerAt : GoodIn wsX1_layer (va_wsS RX1 99 yX1_layerAt wsX1_layerAt) := goodIn_app (goodIn_of _ (by decide +kernel)) ggX1_layer_X1_layerAt
set_option maxRecDepth 20000 in
theorem ggX1_where_X1_isTube : GoodIn wsX1_where wsX1_isTube := goodIn_r _ [8, 9, 10, 11, 7, 12, 24, 25, 26, 27, 28, 29, 30, 31, 32, 33, 34, 35, 36, 37, 38, 39, 40, 41, 42, 43, 44, 45] (by decide +kernel) (by decide +kernel)
set_option maxRecDepth 20000 in
theorem gX1_where_X1_isTube : GoodIn wsX1_where (wsV RX1 85 RX1 yX1_isTube wsX1_isTube) := goodIn_app (goodIn_of _ (by decide +kernel)) ggX1_where_X1_isTube
set_option maxRecDepth 20000 in
theorem ggX1_where_X1_in : GoodIn wsX1_where wsX1_in := goodIn_r _ [12] (by decide +kernel) (by decide +kernel)
set_option maxRecDepth 20000 in
theorem gX1_where_X1_in : GoodIn wsX1_where (va_wsS RX1 62 yX1_in wsX1_in) := goodIn_app (goodIn_of _ (by decide +kernel)) ggX1_where_X1_in
set_option maxRecDepth 20000 in
theorem ggX1_where_X1_inPots : GoodIn wsX1_where wsX1_inPots := goodIn_r _ [16, 17, 18, 24, 25, 26, 27, 28, 29, 30, 31, 32, 33, 34, 35, 36, 37, 38, 39, 40, 41, 42, 43, 44, 45] (by decide +kernel) (by decide +kernel)
set_option maxRecDepth 20000 in
theorem gX1_where_X1_inPots : GoodIn wsX1_where (wsV RX1 122 RX1 yX1_inPots wsX1_inPots) := goodIn_app (goodIn_of _ (by decide +kernel)) ggX1_where_X1_inPots
set_option maxRecDepth 20000 in
theorem ggX1_where_X1_onPictures : GoodIn wsX1_where wsX1_onPictures := goodIn_r _ [22, 23, 24, 25, 26, 27, 28, 29, 30, 31, 32, 33, 34, 35, 36, 37, 38, 39, 40, 41, 42, 43, 44, 45] (by decide +kernel) (by decide +kernel)
set_option maxRecDepth 20000 in
theorem gX1_where_X1_onPictures : GoodIn wsX1_where (wsV RX1 125 RX1 yX1_onPictures wsX1_onPictures) := goodIn_app (goodIn_of _ (by decide +kernel)) ggX1_where_X1_onPictures
set_option maxRecDepth 20000 in
theorem ggX1_recipe_X1_areShades : GoodIn wsX1_recipe wsX1_areShades := goodIn_r _ [7, 8, 9, 6, 10] (by decide +kernel) (by decide +kernel)
set_option maxRecDepth 20000 in
theorem gX1_recipe_X1_areShades : GoodIn wsX1_recipe (va_wsS RX1 75 yX1_areShades wsX1_areShades) := goodIn_app (goodIn_of _ (by decide +kernel)) ggX1_recipe_X1_areShades
set_option maxRecDepth 20000 in
theorem ggX1_recipe_X1_far : GoodIn wsX1_recipe wsX1_far := goodIn_r _ [14, 15, 16, 17, 18, 19, 20, 21, 22, 23, 24, 25, 26, 27, 28, 29, 30, 31, 32, 33, 34, 35, 36, 37, 38] (by decide +kernel) (by decide +kernel)
set_option maxRecDepth 20000 in
theorem gX1_recipe_X1_far : GoodIn wsX1_recipe (wsV RX1 128 RX1 yX1_far wsX1_far) := goodIn_app (goodIn_of _ (by decide +kernel)) ggX1_recipe_X1_far
set_option maxRecDepth 20000 in
theorem ggX1_paid_X1_isHouse : GoodIn wsX1_paid wsX1_isHouse := goodIn_r _ [6, 7, 8, 5, 9] (by decide +kernel) (by decide +kernel)
set_option maxRecDepth 20000 in
theorem gX1_paid_X1_isHouse : GoodIn wsX1_paid (va_wsS RX1 106 yX1_isHouse wsX1_isHouse) := goodIn_app (goodIn_of _ (by decide +kernel)) ggX1_paid_X1_isHouse
set_option maxRecDepth 20000 in
theorem ggL_pigment_X0_pigment : GoodIn wsL_pigment wsX0_pigment := goodIn_ca (goodIn_ca (goodIn_r _ [7, 8, 9, 10, 11, 12, 13, 6, 14, 15, 16, 17, 18, 19, 20, 21, 22, 23, 24, 25, 26, 27, 28, 29, 30, 31, 32, 33, 34, 35, 36] (by decide +kernel) (by decide +kernel)) (goodIn_sub (fun _ h => List.mem_cons_of_mem _ (List.mem_append_left _ (List.mem_append_right _ h))) (by decide +kernel))) (goodIn_sub (fun _ h => List.mem_cons_of_mem _ (List.mem_append_right _ h)) (by decide +kernel))
set_option maxRecDepth 20000 in
theorem gL_pigment_X0_pigment : GoodIn wsL_pigment (wsV RL 7 RX0 yX0_pigment wsX0_pigment) := goodIn_app (goodIn_of _ (by decide +kernel)) ggL_pigment_X0_pigment
set_option maxRecDepth 20000 in
theorem ggL_tube_X0_tube : GoodIn wsL_tube wsX0_tube := goodIn_ca (goodIn_ca (goodIn_ca (goodIn_r _ [8, 9, 10, 11, 12, 13, 14, 15, 16, 7, 17, 18, 19, 20, 21, 22, 23, 24, 25, 26, 27, 28, 29, 30, 31, 32, 33, 34, 35, 36, 37, 38, 39, 40, 41] (by decide +kernel) (by decide +kernel)) (goodIn_sub (fun _ h => List.mem_cons_of_mem _ (List.mem_append_left _ (List.mem_append_left _ (List.mem_append_right _ h)))) (by decide +kernel))) (goodIn_sub (fun _ h => List.mem_cons_of_mem _ (List.mem_append_left _ (List.mem_append_right _ h))) (by decide +kernel))) (goodIn_sub (fun _ h => List.mem_cons_of_mem _ (List.mem_append_right _ h)) (by decide +kernel))
set_option maxRecDepth 20000 in
theorem gL_tube_X0_tube : GoodIn wsL_tube (wsV RL 17 RX0 yX0_tube wsX0_tube) := goodIn_app (goodIn_of _ (by decide +kernel)) ggL_tube_X0_tube
set_option maxRecDepth 20000 in
theorem ggL_pot_X0_pot : GoodIn wsL_pot wsX0_pot := goodIn_ca (goodIn_r _ [6, 7, 8, 9, 10, 11, 12, 13, 14, 15, 16, 17, 18, 19, 20, 21, 22, 23, 24, 25, 26] (by decide +kernel) (by decide +kernel)) (goodIn_sub (fun _ h => List.mem_cons_of_mem _ (List.mem_append_right _ h)) (by decide +kernel))
set_option maxRecDepth 20000 in
theorem gL_pot_X0_pot : GoodIn wsL_pot (wsV RL 23 RX0 yX0_pot wsX0_pot) := goodIn_app (goodIn_of _ (by decide +kernel)) ggL_pot_X0_pot
set_option maxRecDepth 20000 in
theorem ggL_squeeze_X0_squeeze : GoodIn wsL_squeeze wsX0_squeeze := goodIn_ca (goodIn_ca (goodIn_ca (goodIn_r _ [8, 9, 10, 11, 12, 13, 14, 15, 16, 7, 17, 18, 19, 20, 21, 22, 23, 24, 25, 26, 27, 28, 29, 30, 31, 32, 33, 34, 35, 36, 37, 38, 39, 40, 41, 42, 43, 44, 45, 46, 47] (by decide +kernel) (by decide +kernel)) (goodIn_sub (fun _ h => List.mem_cons_of_mem _ (List.mem_append_left _ (List.mem_append_left _ (List.mem_append_right _ h)))) (by decide +kernel))) (goodIn_sub (fun _ h => List.mem_cons_of_mem _ (List.mem_append_left _ (List.mem_append_right _ h))) (by decide +kernel))) (goodIn_sub (fun _ h => List.mem_cons_of_mem _ (List.mem_append_right _ h)) (by decide +kernel))
set_option maxRecDepth 20000 in
theorem gL_squeeze_X0_squeeze : GoodIn wsL_squeeze (wsV RL 27 RX0 yX0_squeeze wsX0_squeeze) := goodIn_app (goodIn_of _ (by decide +kernel)) ggL_squeeze_X0_squeeze
set_option maxRecDepth 20000 in
theorem ggL_pour_X0_pour : GoodIn wsL_pour wsX0_pour := goodIn_ca (goodIn_ca (goodIn_ca (goodIn_r _ [8, 9, 10, 11, 12, 13, 14, 15, 7, 16, 17, 18, 19, 20, 21, 22, 23, 24, 25, 26, 27, 28, 29, 30, 31, 32, 33, 34, 35, 36, 37, 38, 39, 40, 41, 42, 43, 44, 45, 46, 47, 48, 49, 50, 51, 52, 53, 54] (by decide +kernel) (by decide +kernel)) (goodIn_sub (fun _ h => List.mem_cons_of_mem _ (List.mem_append_left _ (List.mem_append_left _ (List.mem_append_right _ h)))) (by decide +kernel))) (goodIn_sub (fun _ h => List.mem_cons_of_mem _ (List.mem_append_left _ (List.mem_append_right _ h))) (by decide +kernel))) (goodIn_sub (fun _ h => List.mem_cons_of_mem _ (List.mem_append_right _ h)) (by decide +kernel))
set_option maxRecDepth 20000 in
theorem gL_pour_X0_pour : GoodIn wsL_pour (wsV RL 30 RX0 yX0_pour wsX0_pour) := goodIn_app (goodIn_of _ (by decide +kernel)) ggL_pour_X0_pour
set_option maxRecDepth 20000 in
theorem ggL_scrape_X0_scrape : GoodIn wsL_scrape wsX0_scrape := goodIn_ca (goodIn_r _ [6, 7, 8, 9, 5, 10, 11, 12, 13, 14, 15, 16, 17, 18, 19, 20, 21, 22, 23, 24, 25, 26, 27, 28, 29, 30, 31, 32, 33, 34, 35, 36, 37, 38, 39, 40, 41] (by decide +kernel) (by decide +kernel)) (goodIn_sub (fun _ h => List.mem_cons_of_mem _ (List.mem_append_right _ h)) (by decide +kernel))
set_option maxRecDepth 20000 in
theorem gL_scrape_X0_scrape : GoodIn wsL_scrape (wsV RL 33 RX0 yX0_scrape wsX0_scrape) := goodIn_app (goodIn_of _ (by decide +kernel)) ggL_scrape_X0_scrape
set_option maxRecDepth 20000 in
theorem ggL_picture_X0_picture : GoodIn wsL_picture wsX0_picture := goodIn_ca (goodIn_r _ [6, 7, 8, 9, 10, 11, 12, 13, 14, 15, 16, 17, 18, 19, 20, 21, 22, 23, 24, 25, 26] (by decide +kernel) (by decide +kernel)) (goodIn_sub (fun _ h => List.mem_cons_of_mem _ (List.mem_append_right _ h)) (by decide +kernel))
set_option maxRecDepth 20000 in
theorem gL_picture_X0_picture : GoodIn wsL_picture (wsV RL 37 RX0 yX0_picture wsX0_picture) := goodIn_app (goodIn_of _ (by decide +kernel)) ggL_picture_X0_picture
set_option maxRecDepth 20000 in
theorem ggL_paint_X0_paint : GoodIn wsL_paint wsX0_paint := goodIn_ca (goodIn_ca (goodIn_ca (goodIn_r _ [8, 9, 10, 11, 12, 13, 14, 15, 7, 16, 17, 18, 19, 20, 21, 22, 23, 24, 25, 26, 27, 28, 29, 30, 31, 32, 33, 34, 35, 36, 37, 38, 39, 40, 41, 42, 43, 44, 45, 46, 47, 48, 49, 50, 51, 52, 53, 54, 55, 56, 57, 58, 59, 60, 61, 62, 63, 64, 65, 66, 67, 68] (by decide +kernel) (by decide +kernel)) (goodIn_sub (fun _ h => List.mem_cons_of_mem _ (List.mem_append_left _ (List.mem_append_left _ (List.mem_append_right _ h)))) (by decide +kernel))) (goodIn_sub (fun _ h => List.mem_cons_of_mem _ (List.mem_append_left _ (List.mem_append_right _ h))) (by decide +kernel))) (goodIn_sub (fun _ h => List.mem_cons_of_mem _ (List.mem_append_right _ h)) (by decide +kernel))
set_option maxRecDepth 20000 in
theorem gL_paint_X0_paint : GoodIn wsL_paint (wsV RL 40 RX0 yX0_paint wsX0_paint) := goodIn_app (goodIn_of _ (by decide +kernel)) ggL_paint_X0_paint
set_option maxRecDepth 20000 in
theorem ggL_clean_X0_clean : GoodIn wsL_clean wsX0_clean := goodIn_ca (goodIn_ca (goodIn_ca (goodIn_r _ [8, 9, 10, 11, 12, 13, 14, 7, 15, 16, 17, 18, 19, 20, 21, 22, 23, 24, 25, 26, 27, 28, 29, 30, 31, 32, 33, 34, 35, 36, 37, 38, 39, 40, 41, 42, 43, 44, 45, 46, 47, 48, 49, 50, 51, 52, 53, 54, 55, 56, 57, 58, 59, 60] (by decide +kernel) (by decide +kernel)) (goodIn_sub (fun _ h => List.mem_cons_of_mem _ (List.mem_append_left _ (List.mem_append_left _ (List.mem_append_right _ h)))) (by decide +kernel))) (goodIn_sub (fun _ h => List.mem_cons_of_mem _ (List.mem_append_left _ (List.mem_append_right _ h))) (by decide +kernel))) (goodIn_sub (fun _ h => List.mem_cons_of_mem _ (List.mem_append_right _ h)) (by decide +kernel))
set_option maxRecDepth 20000 in
theorem gL_clean_X0_clean : GoodIn wsL_clean (wsV RL 43 RX0 yX0_clean wsX0_clean) := goodIn_app (goodIn_of _ (by decide +kernel)) ggL_clean_X0_clean
set_option maxRecDepth 20000 in
theorem ggL_damp_X0_damp : GoodIn wsL_damp wsX0_damp := goodIn_ca (goodIn_ca (goodIn_r _ [7, 8, 9, 10, 6, 11, 12, 13, 14, 15, 16, 17, 18, 19, 20, 21, 22, 23, 24, 25, 26, 27, 28, 29, 30, 31, 32, 33, 34, 35] (by decide +kernel) (by decide +kernel)) (goodIn_sub (fun _ h => List.mem_cons_of_mem _ (List.mem_append_left _ (List.mem_append_right _ h))) (by decide +kernel))) (goodIn_sub (fun _ h => List.mem_cons_of_mem _ (List.mem_append_right _ h)) (by decide +kernel))
set_option maxRecDepth 20000 in
theorem gL_damp_X0_damp : GoodIn wsL_damp (wsV RL 46 RX0 yX0_damp wsX0_damp) := goodIn_app (goodIn_of _ (by decide +kernel)) ggL_damp_X0_damp
set_option maxRecDepth 20000 in
theorem ggL_lend_X0_lend : GoodIn wsL_lend wsX0_lend := goodIn_ca (goodIn_ca (goodIn_ca (goodIn_r _ [8, 9, 10, 11, 12, 13, 14, 15, 16, 17, 7, 18, 19, 20, 21, 22, 23, 24, 25, 26, 27, 28, 29, 30, 31, 32, 33, 34, 35, 36, 37, 38, 39, 40, 41, 42, 43, 44, 45, 46, 47, 48, 49, 50, 51, 52, 53, 54, 55, 56, 57, 58, 59, 60, 61, 62, 63, 64, 65, 66, 67, 68, 69, 70, 71, 72, 73, 74, 75, 76, 77, 78, 79, 80, 81, 82, 83, 84, 85, 86] (by decide +kernel) (by decide +kernel)) (goodIn_sub (fun _ h => List.mem_cons_of_mem _ (List.mem_append_left _ (List.mem_append_left _ (List.mem_append_right _ h)))) (by decide +kernel))) (goodIn_sub (fun _ h => List.mem_cons_of_mem _ (List.mem_append_left _ (List.mem_append_right _ h))) (by decide +kernel))) (goodIn_sub (fun _ h => List.mem_cons_of_mem _ (List.mem_append_right _ h)) (by decide +kernel))
set_option maxRecDepth 20000 in
theorem gL_lend_X0_lend : GoodIn wsL_lend (wsV RL 49 RX0 yX0_lend wsX0_lend) := goodIn_app (goodIn_of _ (by decide +kernel)) ggL_lend_X0_lend
set_option maxRecDepth 20000 in
theorem ggL_sell_X0_sell : GoodIn wsL_sell wsX0_sell := goodIn_ca (goodIn_ca (goodIn_ca (goodIn_r _ [8, 9, 10, 11, 12, 13, 14, 15, 16, 7, 17, 18, 19, 20, 21, 22, 23, 24, 25, 26, 27, 28, 29, 30, 31, 32, 33, 34, 35, 36, 37, 38, 39, 40, 41, 42, 43, 44, 45, 46, 47, 48, 49, 50, 51, 52, 53, 54, 55, 56, 57, 58, 59, 60, 61, 62, 63, 64, 65, 66, 67, 68, 69, 70, 71, 72, 73, 74, 75, 76, 77, 78, 79, 80, 81, 82, 83, 84, 85] (by decide +kernel) (by decide +kernel)) (goodIn_sub (fun _ h => List.mem_cons_of_mem _ (List.mem_append_left _ (List.mem_append_left _ (List.mem_append_right _ h)))) (by decide +kernel))) (goodIn_sub (fun _ h => List.mem_cons_of_mem _ (List.mem_append_left _ (List.mem_append_right _ h))) (by decide +kernel))) (goodIn_sub (fun _ h => List.mem_cons_of_mem _ (List.mem_append_right _ h)) (by decide +kernel))
set_option maxRecDepth 20000 in
theorem gL_sell_X0_sell : GoodIn wsL_sell (wsV RL 52 RX0 yX0_sell wsX0_sell) := goodIn_app (goodIn_of _ (by decide +kernel)) ggL_sell_X0_sell
set_option maxRecDepth 20000 in
theorem ggL_pass_X0_pass : GoodIn wsL_pass wsX0_pass := goodIn_ca (goodIn_ca (goodIn_r _ [7, 8, 9, 10, 11, 12, 13, 6, 14, 15, 16, 17, 18, 19, 20, 21, 22, 23, 24, 25, 26, 27, 28, 29, 30, 31, 32, 33, 34, 35, 36, 37, 38, 39, 40, 41, 42, 43, 44, 45, 46, 47, 48, 49, 50] (by decide +kernel) (by decide +kernel)) (goodIn_sub (fun _ h => List.mem_cons_of_mem _ (List.mem_append_left _ (List.mem_append_right _ h))) (by decide +kernel))) (goodIn_sub (fun _ h => List.mem_cons_of_mem _ (List.mem_append_right _ h)) (by decide +kernel))
set_option maxRecDepth 20000 in
theorem gL_pass_X0_pass : GoodIn wsL_pass (wsV RL 55 RX0 yX0_pass wsX0_pass) := goodIn_app (goodIn_of _ (by decide +kernel)) ggL_pass_X0_pass
set_option maxRecDepth 20000 in
theorem ggL_left_X0_left : GoodIn wsL_left wsX0_left := goodIn_ca (goodIn_r _ [6, 7, 8, 9, 10, 5, 11, 12, 13, 14, 15, 16, 17, 18, 19, 20, 21, 22, 23, 24, 25, 26, 27, 28, 29, 30] (by decide +kernel) (by decide +kernel)) (goodIn_sub (fun _ h => List.mem_cons_of_mem _ (List.mem_append_right _ h)) (by decide +kernel))
set_option maxRecDepth 20000 in
theorem gL_left_X0_left : GoodIn wsL_left (wsV RL 58 RX0 yX0_left wsX0_left) := goodIn_app (goodIn_of _ (by decide +kernel)) ggL_left_X0_left
set_option maxRecDepth 20000 in
theorem ggL_has_X0_has : GoodIn wsL_has wsX0_has := goodIn_ca (goodIn_r _ [6, 7, 8, 9, 10, 11, 5, 12, 13, 14, 15, 16, 17, 18, 19, 20, 21, 22, 23, 24, 25, 26, 27, 28, 29, 30, 31, 32, 33, 34, 35, 36, 37, 38, 39, 40, 41] (by decide +kernel) (by decide +kernel)) (goodIn_sub (fun _ h => List.mem_cons_of_mem _ (List.mem_append_right _ h)) (by decide +kernel))
set_option maxRecDepth 20000 in
theorem gL_has_X0_has : GoodIn wsL_has (wsV RL 61 RX0 yX0_has wsX0_has) := goodIn_app (goodIn_of _ (by decide +kernel)) ggL_has_X0_has
set_option maxRecDepth 20000 in
theorem ggL_colour_X0_colour : GoodIn wsL_colour wsX0_colour := goodIn_ca (goodIn_ca (goodIn_r _ [7, 8, 9, 10, 6, 11, 12, 13, 14, 15, 16, 17, 18, 19, 20, 21, 22, 23, 24, 25, 26, 27, 28, 29, 30, 31, 32, 33, 34, 35, 36, 37, 38, 39, 40, 41, 42, 43, 44, 45, 46, 47, 48, 49, 50, 51, 52, 53] (by decide +kernel) (by decide +kernel)) (goodIn_sub (fun _ h => List.mem_cons_of_mem _ (List.mem_append_left _ (List.mem_append_right _ h))) (by decide +kernel))) (goodIn_sub (fun _ h => List.mem_cons_of_mem _ (List.mem_append_right _ h)) (by decide +kernel))
set_option maxRecDepth 20000 in
theorem gL_colour_X0_colour : GoodIn wsL_colour (wsV RL 64 RX0 yX0_colour wsX0_colour) := goodIn_app (goodIn_of _ (by decide +kernel)) ggL_colour_X0_colour
set_option maxRecDepth 20000 in
theorem ggL_of_X0_of : GoodIn wsL_of wsX0_of := goodIn_ca (goodIn_ca (goodIn_r _ [7, 8, 9, 10, 11, 12, 13, 14, 6, 15, 16, 17, 18, 19, 20, 21, 22, 23, 24, 25, 26, 27, 28, 29, 30, 31, 32, 33, 34, 35, 36, 37, 38, 39, 40, 41, 42, 43, 44, 45, 46, 47, 48, 49, 50, 51, 52, 53, 54, 55, 56, 57, 58, 59, 60, 61, 62, 63, 64, 65, 66, 67, 68, 69, 70, 71, 72, 73, 74, 75, 76, 77, 78, 79, 80, 81, 82, 83, 84, 85, 86, 87, 88, 89, 90, 91] (by decide +kernel) (by decide +kernel)) (goodIn_sub (fun _ h => List.mem_cons_of_mem _ (List.mem_append_left _ (List.mem_append_right _ h))) (by decide +kernel))) (goodIn_sub (fun _ h => List.mem_cons_of_mem _ (List.mem_append_right _ h)) (by decide +kernel))
set_option maxRecDepth 20000 in
theorem gL_of_X0_of : GoodIn wsL_of (wsV RL 67 RX0 yX0_of wsX0_of) := goodIn_app (goodIn_of _ (by decide +kernel)) ggL_of_X0_of
set_option maxRecDepth 20000 in
theorem ggL_layer_X0_layer : GoodIn wsL_layer wsX0_layer := goodIn_ca (goodIn_r _ [6, 7, 8, 9, 10, 11, 12, 5, 13, 14, 15, 16, 17, 18, 19, 20, 21, 22, 23, 24, 25, 26, 27, 28, 29, 30, 31, 32, 33, 34, 35, 36, 37, 38] (by decide +kernel) (by decide +kernel)) (goodIn_sub (fun _ h => List.mem_cons_of_mem _ (List.mem_append_right _ h)) (by decide +kernel))
set_option maxRecDepth 20000 in
theorem gL_layer_X0_layer : GoodIn wsL_layer (wsV RL 70 RX0 yX0_layer wsX0_layer) := goodIn_app (goodIn_of _ (by decide +kernel)) ggL_layer_X0_layer
set_option maxRecDepth 20000 in
theorem ggL_where_X0_where : GoodIn wsL_where wsX0_where := goodIn_ca (goodIn_ca (goodIn_r _ [7, 8, 9, 10, 11, 6, 12, 13, 14, 15, 16, 17, 18, 19, 20, 21, 22, 23, 24, 25, 26, 27, 28, 29, 30, 31, 32, 33, 34, 35, 36, 37, 38, 39, 40, 41, 42, 43, 44] (by decide +kernel) (by decide +kernel)) (goodIn_sub (fun _ h => List.mem_cons_of_mem _ (List.mem_append_left _ (List.mem_append_right _ h))) (by decide +kernel))) (goodIn_sub (fun _ h => List.mem_cons_of_mem _ (List.mem_append_right _ h)) (by decide +kernel))
set_option maxRecDepth 20000 in
theorem gL_where_X0_where : GoodIn wsL_where (wsV RL 73 RX0 yX0_where wsX0_where) := goodIn_app (goodIn_of _ (by decide +kernel)) ggL_where_X0_where
set_option maxRecDepth 20000 in
theorem ggL_recipe_X0_recipe : GoodIn wsL_recipe wsX0_recipe := goodIn_ca (goodIn_r _ [6, 7, 8, 9, 10, 5, 11, 12, 13, 14, 15, 16, 17, 18, 19, 20, 21, 22, 23, 24, 25, 26, 27, 28, 29, 30, 31, 32, 33, 34, 35, 36, 37, 38, 39, 40, 41, 42, 43, 44, 45, 46] (by decide +kernel) (by decide +kernel)) (goodIn_sub (fun _ h => List.mem_cons_of_mem _ (List.mem_append_right _ h)) (by decide +kernel))
set_option maxRecDepth 20000 in
theorem gL_recipe_X0_recipe : GoodIn wsL_recipe (wsV RL 76 RX0 yX0_recipe wsX0_recipe) := goodIn_app (goodIn_of _ (by decide +kernel)) ggL_recipe_X0_recipe
set_option maxRecDepth 20000 in
theorem ggL_paid_X0_paid : GoodIn wsL_paid wsX0_paid := goodIn_ca (goodIn_r _ [6, 7, 8, 9, 5, 10, 11, 12, 13, 14, 15, 16, 17, 18, 19, 20, 21, 22, 23, 24, 25, 26, 27, 28, 29] (by decide +kernel) (by decide +kernel)) (goodIn_sub (fun _ h => List.mem_cons_of_mem _ (List.mem_append_right _ h)) (by decide +kernel))
set_option maxRecDepth 20000 in
theorem gL_paid_X0_paid : GoodIn wsL_paid (wsV RL 79 RX0 yX0_paid wsX0_paid) := goodIn_app (goodIn_of _ (by decide +kernel)) ggL_paid_X0_paid
abbrev vwCl : List vw_C := [(RX0, TX0, 17), (RX1, TX1, 22)]
end
section
/-- the texts of the class's exceptions, by their places in its table -/
def xeStr : List (Nat × String) := [(56, "no more pigments"), (71, "no more tubes"), (76, "no more pots"), (78, "the tube has not so much"), (90, "the pots are the same"), (97, "the pot has not so much"), (108, "no more pictures"), (114, "no more layers"), (119, "the picture has not so many layers"), (121, "the picture has too many cracks"), (127, "the picture has no layer"), (132, "the book ends before that day"), (163, "there is no such number"), (166, "out of range"), (168, "the picture is lent")]
/-! The walk's own judgement over the kit's W: worlds, locals and stack as data; one kind of contract (returns or throws) for all methods. -/
def iM (n : String) : MethodName := Bundle.initS n
abbrev xeN : List String := ["java/lang/RuntimeException", "java/lang/Exception"]
abbrev eISE : String := "java/lang/IllegalStateException"
abbrev eIAE : String := "java/lang/IllegalArgumentException"
abbrev eIOB : String := "java/lang/IndexOutOfBoundsException"
def xeB : List Cond := [.declares (iM "java/lang/RuntimeException"), .declares (iM "java/lang/Exception"), .declares (iM Bundle.tN), .castable eISE eISE, .castable eIAE eIAE, .castable eIOB eIOB]
theorem xeB_tab : ∀ w ∈ xeB, w.onTables = true := by decide +kernel
theorem xeB_warm {s U : State} (hW : s.WarmedH U.vm) : ∀ w ∈ xeB, va_Nw w s → va_Nw w U := by
  intro w hw h
  simp only [xeB, List.mem_cons, List.not_mem_nil, or_false] at hw
  rcases hw with rfl | rfl | rfl | rfl | rfl | rfl
  · exact va_Nw.warmD hW h
  · exact va_Nw.warmD hW h
  · exact va_Nw.warmD hW h
  · exact va_Nw.warmC hW h
  · exact va_Nw.warmC hW h
  · exact va_Nw.warmC hW h
/-- what a throw and a catch need beside the method's words -/
def XE (A : Nat → Prop) (U : State) : Prop :=
  vx_Zq Bundle.tN "UNASSIGNED_STACK" Bundle.steD A U U.heap ∧ vx_Zq Bundle.tN "SUPPRESSED_SENTINEL" Bundle.listD A U U.heap ∧ (∀ q ∈ xeStr, ∃ a, vk_R RX0 q.1 q.2 a U) ∧ (∀ w ∈ xeB, va_Nw w U) ∧ va_Nc eIAE eIOB U ∧ va_Nc eISE eIOB U ∧ va_Nc eISE eIAE U
theorem XE.to {A B : Nat → Prop} {s U : State} {H : Heap} {locs : List Loc} (hX : XE A s) (hS : va_S A s.heap H locs) (hU : U.heap = H) (hW : s.WarmedH U.vm) (hAB : ∀ q, B q → A q) : XE B U := by
  obtain ⟨h1, h2, h3, h4, h5, h6, h7⟩ := hX
  refine ⟨?_, ?_, fun q hq => ?_, fun w hw => xeB_warm hW w hw (h4 w hw), h5.moved hW.alike, h6.moved hW.alike, h7.moved hW.alike⟩
  · rw [hU]; exact vx_Zq.moved hW.alike ((h1.kept hS.2.1).narrow hAB)
  · rw [hU]; exact vx_Zq.moved hW.alike ((h2.kept hS.2.1).narrow hAB)
  · obtain ⟨a, ha⟩ := h3 q hq
    exact ⟨a, vk_R.warm hW ha⟩
theorem XE.same {A : Nat → Prop} {u U : State} (hX : XE A u) (hv : U.vm = u.vm) (hh : U.heap = u.heap) : XE A U := by
  obtain ⟨h1, h2, h3, h4, h5, h6, h7⟩ := hX
  have hal : u.vm.Alike U.vm := by rw [hv]; exact Vm.Alike.refl _
  refine ⟨?_, ?_, fun q hq => ?_, fun w hw => va_Nw.same (xeB_tab w hw) hv.symm (h4 w hw), h5.moved hal, h6.moved hal, h7.moved hal⟩
  · rw [hh]; exact vx_Zq.moved hal h1
  · rw [hh]; exact vx_Zq.moved hal h2
  · obtain ⟨a, ha⟩ := h3 q hq
    exact ⟨a, vk_R.same hv ha⟩
-- contracts
def mP (D : va_G) (TY : List (ClassId × FieldType)) (w : va_W) (av : List Value) (sz : Nat) : Array Value → State → Prop := fun a U => a = av.toArray ∧ U.heap.size = sz ∧ va_P D vwCl w U.heap ∧ va_K D vwCl TY U ∧ va_D (fun _ => True) w ∧ XE (va_A w sz) U
def mQ (D : va_G) (w w' : va_W) (ex : Option String) (rv : Option Value) (sz : Nat) : Array Value → State → Outcome → State → Prop := fun _ st o t => (o = .returned rv ∧ ex = none ∧ va_P D vwCl w' t.heap) ∧ va_F (va_A w sz) st t
def mX (D : va_G) (w : va_W) (ex : Option String) (sz : Nat) : String → State → State → Prop := fun E st t => (ex = some E ∧ va_P D vwCl w t.heap) ∧ va_F (va_A w sz) st t
/-- method y, called with av in the world w, returns rv with the world w' (ex none), or throws ex with the world w; n cells of 6 slots are new at most -/
def MC (l : Launch) (y : MethodName) (ws : List Cond) (fr lo : Nat) (D : va_G) (TY : List (ClassId × FieldType)) (av : List Value) (w w' : va_W) (ex : Option String) (rv : Option Value) (n : Nat) : Prop :=
  ∀ sz : Nat, vx_Met l y ws { frames := fr, cells := n, slots := 6 * n, locals := lo } (mP D TY w av sz) (mQ D w w' ex rv sz) (mX D w ex sz) n (6 * n) (va_A w sz)
theorem mP_blind {D : va_G} {TY : List (ClassId × FieldType)} {w : va_W} {av : List Value} {sz : Nat} : FrameBlind (mP D TY w av sz) := by
  intro a U g mk h
  obtain ⟨h1, h2, h3, h4, h5, h6⟩ := h
  exact ⟨h1, h2, h3, va_K.moved (u := U) (U := U.calling g mk a) (Vm.Alike.refl U.vm) h4, h5, XE.same (u := U) h6 rfl rfl⟩
section GJ
variable {p : Program} {l : Launch} {e : Env} {R : Room} {s : State} {m : MethodId} {args : Array Value} {below : List Frame} {meth : Method} {c : Code}
variable {cc : ByteArray} {nL : Nat} {own : String} {Ts : List Cond} {D : va_G} {TY : List (ClassId × FieldType)} {A : Nat → Prop}
variable {k j : Nat} {Q : State → Prop} {w : va_W} {lv : List (Nat × Value)} {pc : Nat} {st rest : List Value}
/-- what stays the same in a method's walk -/
def gC (p : Program) (s : State) (m : MethodId) (args : Array Value) (meth : Method) (c : Code) (cc : ByteArray) (nL : Nat) (own : String) (Ts : List Cond) (D : va_G) (TY : List (ClassId × FieldType)) (A : Nat → Prop) : Prop :=
  p.tables.exec = Jvm.exec ∧ c.code = cc ∧ c.maxLocals = nL ∧ s.vm.findClass own = some m.cls ∧ (∀ w ∈ Ts, w.before args s = true) ∧ va_K D vwCl TY s ∧ (∀ q : Nat, s.heap.size ≤ q → A q) ∧ meth.locks = false ∧ XE A s
/-- the machine, at pc, in the world w with the locals lv and the stack st, comes to Q -/
def G (p : Program) (l : Launch) (e : Env) (R : Room) (s : State) (m : MethodId) (args : Array Value) (below : List Frame) (meth : Method) (c : Code) (D : va_G) (A : Nat → Prop) (nL k j : Nat) (Q : State → Prop) (w : va_W) (lv : List (Nat × Value)) (pc : Nat) (st : List Value) : Prop :=
  ∀ (H : Heap) (locs : List Loc) (ls : Array Slot), va_P D vwCl w H → va_D A w → va_S A s.heap H locs → lv_has ls nL lv → W p l e R s m args below meth c H locs k j Q (F0 m pc ls st)
theorem g_iconst {n : Int} (v : Int32) (C : gC p s m args meth c cc nL own Ts D TY A) (hd : decode cc pc = .ok (.iconst n, 1)) (hv : Int32.ofInt n = v) (K : G p l e R s m args below meth c D A nL k j Q w lv (pc + 1) (.int v :: st)) : G p l e R s m args below meth c D A nL k j Q w lv pc st :=
  fun H locs ls hP hD hS hl => lv_iconst C.1 C.2.1 hd hv (K H locs ls hP hD hS hl)
theorem g_bipush {n : Int} (v : Int32) (C : gC p s m args meth c cc nL own Ts D TY A) (hd : decode cc pc = .ok (.bipush n, 2)) (hv : (Int8.ofInt n).toInt32 = v) (K : G p l e R s m args below meth c D A nL k j Q w lv (pc + 2) (.int v :: st)) : G p l e R s m args below meth c D A nL k j Q w lv pc st :=
  fun H locs ls hP hD hS hl => lv_bipush C.1 C.2.1 hd hv (K H locs ls hP hD hS hl)
theorem g_sipush {n : Int} (v : Int32) (C : gC p s m args meth c cc nL own Ts D TY A) (hd : decode cc pc = .ok (.sipush n, 3)) (hv : (Int16.ofInt n).toInt32 = v) (K : G p l e R s m args below meth c D A nL k j Q w lv (pc + 3) (.int v :: st)) : G p l e R s m args below meth c D A nL k j Q w lv pc st :=
  fun H locs ls hP hD hS hl => lv_sipush C.1 C.2.1 hd hv (K H locs ls hP hD hS hl)
theorem g_ldc {ix : Nat} (v : Int32) (C : gC p s m args meth c cc nL own Ts D TY A) (hc : Cond.constant own ix v ∈ Ts) (hd : decode cc pc = .ok (.ldc ix, 2)) (K : G p l e R s m args below meth c D A nL k j Q w lv (pc + 2) (.int v :: st)) : G p l e R s m args below meth c D A nL k j Q w lv pc st :=
  fun H locs ls hP hD hS hl => lv_ldc C.1 C.2.1 C.2.2.2.1 (C.2.2.2.2.1 _ hc) hd (K H locs ls hP hD hS hl)
theorem g_iload_n {f : Fin 4} {i : Nat} {x : Int32} (q : Nat) (C : gC p s m args meth c cc nL own Ts D TY A) (hj : lv[q]? = some (i, .int x)) (hd : decode cc pc = .ok (.iload_n f, 1)) (hi : (f : Nat) = i) (K : G p l e R s m args below meth c D A nL k j Q w lv (pc + 1) (.int x :: st)) : G p l e R s m args below meth c D A nL k j Q w lv pc st :=
  fun H locs ls hP hD hS hl => lv_iload_n C.1 C.2.1 hd hi (lv_at hl q hj) (K H locs ls hP hD hS hl)
theorem g_iload {i : Nat} {x : Int32} (q : Nat) (C : gC p s m args meth c cc nL own Ts D TY A) (hj : lv[q]? = some (i, .int x)) (hd : decode cc pc = .ok (.iload i, 2)) (K : G p l e R s m args below meth c D A nL k j Q w lv (pc + 2) (.int x :: st)) : G p l e R s m args below meth c D A nL k j Q w lv pc st :=
  fun H locs ls hP hD hS hl => lv_iload C.1 C.2.1 hd (lv_at hl q hj) (K H locs ls hP hD hS hl)
theorem g_aload_n {f : Fin 4} {i x : Nat} (q : Nat) (C : gC p s m args meth c cc nL own Ts D TY A) (hj : lv[q]? = some (i, .ref x)) (hd : decode cc pc = .ok (.aload_n f, 1)) (hi : (f : Nat) = i) (K : G p l e R s m args below meth c D A nL k j Q w lv (pc + 1) (.ref x :: st)) : G p l e R s m args below meth c D A nL k j Q w lv pc st :=
  fun H locs ls hP hD hS hl => lv_aload_n C.1 C.2.1 hd hi (lv_at hl q hj) (K H locs ls hP hD hS hl)
theorem g_aload {i x : Nat} (q : Nat) (C : gC p s m args meth c cc nL own Ts D TY A) (hj : lv[q]? = some (i, .ref x)) (hd : decode cc pc = .ok (.aload i, 2)) (K : G p l e R s m args below meth c D A nL k j Q w lv (pc + 2) (.ref x :: st)) : G p l e R s m args below meth c D A nL k j Q w lv pc st :=
  fun H locs ls hP hD hS hl => lv_aload C.1 C.2.1 hd (lv_at hl q hj) (K H locs ls hP hD hS hl)
theorem g_istore_n {f : Fin 4} {i : Nat} {x : Int32} (lv' : List (Nat × Value)) (C : gC p s m args meth c cc nL own Ts D TY A) (hd : decode cc pc = .ok (.istore_n f, 1)) (hi : (f : Nat) = i) (hn : i < nL) (hl : (i, Value.int x) :: lv.filter (fun q => !(q.1 == i) && !(q.1 + 1 == i && q.2.category == 2)) = lv') (K : G p l e R s m args below meth c D A nL k j Q w lv' (pc + 1) st) : G p l e R s m args below meth c D A nL k j Q w lv pc (.int x :: st) :=
  fun H locs _ hP hD hS hv => lv_istore_n C.1 C.2.1 hd hi hv hn hl (fun ls' hl' => K H locs ls' hP hD hS hl')
theorem g_istore {i : Nat} {x : Int32} (lv' : List (Nat × Value)) (C : gC p s m args meth c cc nL own Ts D TY A) (hd : decode cc pc = .ok (.istore i, 2)) (hn : i < nL) (hl : (i, Value.int x) :: lv.filter (fun q => !(q.1 == i) && !(q.1 + 1 == i && q.2.category == 2)) = lv') (K : G p l e R s m args below meth c D A nL k j Q w lv' (pc + 2) st) : G p l e R s m args below meth c D A nL k j Q w lv pc (.int x :: st) :=
  fun H locs _ hP hD hS hv => lv_istore C.1 C.2.1 hd hv hn hl (fun ls' hl' => K H locs ls' hP hD hS hl')
theorem g_astore_n {f : Fin 4} {i x : Nat} (lv' : List (Nat × Value)) (C : gC p s m args meth c cc nL own Ts D TY A) (hd : decode cc pc = .ok (.astore_n f, 1)) (hi : (f : Nat) = i) (hn : i < nL) (hl : (i, Value.ref x) :: lv.filter (fun q => !(q.1 == i) && !(q.1 + 1 == i && q.2.category == 2)) = lv') (K : G p l e R s m args below meth c D A nL k j Q w lv' (pc + 1) st) : G p l e R s m args below meth c D A nL k j Q w lv pc (.ref x :: st) :=
  fun H locs _ hP hD hS hv => lv_astore_n C.1 C.2.1 hd hi hv hn hl (fun ls' hl' => K H locs ls' hP hD hS hl')
theorem g_astore {i x : Nat} (lv' : List (Nat × Value)) (C : gC p s m args meth c cc nL own Ts D TY A) (hd : decode cc pc = .ok (.astore i, 2)) (hn : i < nL) (hl : (i, Value.ref x) :: lv.filter (fun q => !(q.1 == i) && !(q.1 + 1 == i && q.2.category == 2)) = lv') (K : G p l e R s m args below meth c D A nL k j Q w lv' (pc + 2) st) : G p l e R s m args below meth c D A nL k j Q w lv pc (.ref x :: st) :=
  fun H locs _ hP hD hS hv => lv_astore C.1 C.2.1 hd hv hn hl (fun ls' hl' => K H locs ls' hP hD hS hl')
theorem g_iinc {i : Nat} {n : Int} {x : Int32} (q : Nat) (v : Int32) (lv' : List (Nat × Value)) (C : gC p s m args meth c cc nL own Ts D TY A) (hd : decode cc pc = .ok (.iinc i n, 3)) (hj : lv[q]? = some (i, .int x)) (hv : x + Int32.ofInt n = v) (hn : i < nL) (hl : (i, Value.int v) :: lv.filter (fun q => !(q.1 == i) && !(q.1 + 1 == i && q.2.category == 2)) = lv') (K : G p l e R s m args below meth c D A nL k j Q w lv' (pc + 3) st) : G p l e R s m args below meth c D A nL k j Q w lv pc st :=
  fun H locs _ hP hD hS hh => lv_iinc (v := v) (lv' := lv') C.1 C.2.1 hd hh hj hv hn hl (fun ls' hl' => K H locs ls' hP hD hS hl')
theorem g_iadd {x y : Int32} (C : gC p s m args meth c cc nL own Ts D TY A) (hd : decode cc pc = .ok (.iadd, 1)) (K : G p l e R s m args below meth c D A nL k j Q w lv (pc + 1) (.int (x + y) :: st)) : G p l e R s m args below meth c D A nL k j Q w lv pc (.int y :: .int x :: st) :=
  fun H locs ls hP hD hS hl => lv_iadd C.1 C.2.1 hd (K H locs ls hP hD hS hl)
theorem g_isub {x y : Int32} (C : gC p s m args meth c cc nL own Ts D TY A) (hd : decode cc pc = .ok (.isub, 1)) (K : G p l e R s m args below meth c D A nL k j Q w lv (pc + 1) (.int (x - y) :: st)) : G p l e R s m args below meth c D A nL k j Q w lv pc (.int y :: .int x :: st) :=
  fun H locs ls hP hD hS hl => lv_isub C.1 C.2.1 hd (K H locs ls hP hD hS hl)
theorem g_imul {x y : Int32} (C : gC p s m args meth c cc nL own Ts D TY A) (hd : decode cc pc = .ok (.imul, 1)) (K : G p l e R s m args below meth c D A nL k j Q w lv (pc + 1) (.int (x * y) :: st)) : G p l e R s m args below meth c D A nL k j Q w lv pc (.int y :: .int x :: st) :=
  fun H locs ls hP hD hS hl => lv_imul C.1 C.2.1 hd (K H locs ls hP hD hS hl)
theorem g_iand {x y : Int32} (C : gC p s m args meth c cc nL own Ts D TY A) (hd : decode cc pc = .ok (.iand, 1)) (K : G p l e R s m args below meth c D A nL k j Q w lv (pc + 1) (.int (x &&& y) :: st)) : G p l e R s m args below meth c D A nL k j Q w lv pc (.int y :: .int x :: st) :=
  fun H locs ls hP hD hS hl => lv_iand C.1 C.2.1 hd (K H locs ls hP hD hS hl)
theorem g_idiv {x y : Int32} (C : gC p s m args meth c cc nL own Ts D TY A) (hne : ¬ y = 0) (hd : decode cc pc = .ok (.idiv, 1)) (K : G p l e R s m args below meth c D A nL k j Q w lv (pc + 1) (.int (x / y) :: st)) : G p l e R s m args below meth c D A nL k j Q w lv pc (.int y :: .int x :: st) :=
  fun H locs ls hP hD hS hl => lv_idiv C.1 C.2.1 hd hne (K H locs ls hP hD hS hl)
theorem g_ineg {x : Int32} (C : gC p s m args meth c cc nL own Ts D TY A) (hd : decode cc pc = .ok (.ineg, 1)) (K : G p l e R s m args below meth c D A nL k j Q w lv (pc + 1) (.int (-x) :: st)) : G p l e R s m args below meth c D A nL k j Q w lv pc (.int x :: st) :=
  fun H locs ls hP hD hS hl => lv_ineg C.1 C.2.1 hd (K H locs ls hP hD hS hl)
theorem g_i2l {x : Int32} (C : gC p s m args meth c cc nL own Ts D TY A) (hd : decode cc pc = .ok (.i2l, 1)) (K : G p l e R s m args below meth c D A nL k j Q w lv (pc + 1) (.long x.toInt64 :: st)) : G p l e R s m args below meth c D A nL k j Q w lv pc (.int x :: st) :=
  fun H locs ls hP hD hS hl => lv_i2l C.1 C.2.1 hd rfl (K H locs ls hP hD hS hl)
theorem g_lcmp {x y : Int64} (C : gC p s m args meth c cc nL own Ts D TY A) (hd : decode cc pc = .ok (.lcmp, 1)) (K : G p l e R s m args below meth c D A nL k j Q w lv (pc + 1) (.int (lg_cmp x y) :: st)) : G p l e R s m args below meth c D A nL k j Q w lv pc (.long y :: .long x :: st) :=
  fun H locs ls hP hD hS hl => W.lcmp C.1 C.2.1 hd (K H locs ls hP hD hS hl)
theorem g_dup {v : Value} (C : gC p s m args meth c cc nL own Ts D TY A) (hd : decode cc pc = .ok (.dup, 1)) (hv : v.category = 1) (K : G p l e R s m args below meth c D A nL k j Q w lv (pc + 1) (v :: v :: st)) : G p l e R s m args below meth c D A nL k j Q w lv pc (v :: st) :=
  fun H locs ls hP hD hS hl => lv_dup C.1 C.2.1 hd hv (K H locs ls hP hD hS hl)
theorem g_dup2 {v u : Value} (C : gC p s m args meth c cc nL own Ts D TY A) (hd : decode cc pc = .ok (.dup2, 1)) (hv : v.category = 1) (hu : u.category = 1) (K : G p l e R s m args below meth c D A nL k j Q w lv (pc + 1) (v :: u :: v :: u :: st)) : G p l e R s m args below meth c D A nL k j Q w lv pc (v :: u :: st) :=
  fun H locs ls hP hD hS hl => lv_dup2_11 C.1 C.2.1 hd hv hu (K H locs ls hP hD hS hl)
theorem g_goto {off : Int} (tgt : Nat) (C : gC p s m args meth c cc nL own Ts D TY A) (hd : decode cc pc = .ok (.goto off, 3)) (ht : (pc : Int) + off = (tgt : Int)) (K : G p l e R s m args below meth c D A nL k j Q w lv tgt st) : G p l e R s m args below meth c D A nL k j Q w lv pc st :=
  fun H locs ls hP hD hS hl => lv_goto C.1 C.2.1 hd ht (K H locs ls hP hD hS hl)
theorem g_if_eq {x : Int32} {off : Int} (tgt : Nat) (C : gC p s m args meth c cc nL own Ts D TY A) (hd : decode cc pc = .ok (.ifCond .eq off, 3)) (ht : (pc : Int) + off = (tgt : Int)) (K1 : x = 0 → G p l e R s m args below meth c D A nL k j Q w lv tgt st) (K2 : ¬ x = 0 → G p l e R s m args below meth c D A nL k j Q w lv (pc + 3) st) : G p l e R s m args below meth c D A nL k j Q w lv pc (.int x :: st) :=
  fun H locs ls hP hD hS hl => lv_if_eq C.1 C.2.1 hd ht (fun q => K1 q H locs ls hP hD hS hl) (fun q => K2 q H locs ls hP hD hS hl)
theorem g_if_ne {x : Int32} {off : Int} (tgt : Nat) (C : gC p s m args meth c cc nL own Ts D TY A) (hd : decode cc pc = .ok (.ifCond .ne off, 3)) (ht : (pc : Int) + off = (tgt : Int)) (K1 : ¬ x = 0 → G p l e R s m args below meth c D A nL k j Q w lv tgt st) (K2 : x = 0 → G p l e R s m args below meth c D A nL k j Q w lv (pc + 3) st) : G p l e R s m args below meth c D A nL k j Q w lv pc (.int x :: st) :=
  fun H locs ls hP hD hS hl => lv_if_ne C.1 C.2.1 hd ht (fun q => K1 q H locs ls hP hD hS hl) (fun q => K2 q H locs ls hP hD hS hl)
theorem g_if_le {x : Int32} {off : Int} (tgt : Nat) (C : gC p s m args meth c cc nL own Ts D TY A) (hd : decode cc pc = .ok (.ifCond .le off, 3)) (ht : (pc : Int) + off = (tgt : Int)) (K1 : x ≤ 0 → G p l e R s m args below meth c D A nL k j Q w lv tgt st) (K2 : ¬ x ≤ 0 → G p l e R s m args below meth c D A nL k j Q w lv (pc + 3) st) : G p l e R s m args below meth c D A nL k j Q w lv pc (.int x :: st) :=
  fun H locs ls hP hD hS hl => lv_if_le C.1 C.2.1 hd ht (fun q => K1 q H locs ls hP hD hS hl) (fun q => K2 q H locs ls hP hD hS hl)
theorem g_if_lt {x : Int32} {off : Int} (tgt : Nat) (C : gC p s m args meth c cc nL own Ts D TY A) (hd : decode cc pc = .ok (.ifCond .lt off, 3)) (ht : (pc : Int) + off = (tgt : Int)) (K1 : x < 0 → G p l e R s m args below meth c D A nL k j Q w lv tgt st) (K2 : ¬ x < 0 → G p l e R s m args below meth c D A nL k j Q w lv (pc + 3) st) : G p l e R s m args below meth c D A nL k j Q w lv pc (.int x :: st) :=
  fun H locs ls hP hD hS hl => lv_if_lt C.1 C.2.1 hd ht (fun q => K1 q H locs ls hP hD hS hl) (fun q => K2 q H locs ls hP hD hS hl)
theorem g_if_ge {x : Int32} {off : Int} (tgt : Nat) (C : gC p s m args meth c cc nL own Ts D TY A) (hd : decode cc pc = .ok (.ifCond .ge off, 3)) (ht : (pc : Int) + off = (tgt : Int)) (K1 : 0 ≤ x → G p l e R s m args below meth c D A nL k j Q w lv tgt st) (K2 : ¬ 0 ≤ x → G p l e R s m args below meth c D A nL k j Q w lv (pc + 3) st) : G p l e R s m args below meth c D A nL k j Q w lv pc (.int x :: st) :=
  fun H locs ls hP hD hS hl => lv_if_ge C.1 C.2.1 hd ht (fun q => K1 q H locs ls hP hD hS hl) (fun q => K2 q H locs ls hP hD hS hl)
theorem g_icmp_eq {x y : Int32} {off : Int} (tgt : Nat) (C : gC p s m args meth c cc nL own Ts D TY A) (hd : decode cc pc = .ok (.if_icmp .eq off, 3)) (ht : (pc : Int) + off = (tgt : Int)) (K1 : x = y → G p l e R s m args below meth c D A nL k j Q w lv tgt st) (K2 : ¬ x = y → G p l e R s m args below meth c D A nL k j Q w lv (pc + 3) st) : G p l e R s m args below meth c D A nL k j Q w lv pc (.int y :: .int x :: st) :=
  fun H locs ls hP hD hS hl => lv_icmp_eq C.1 C.2.1 hd ht (fun q => K1 q H locs ls hP hD hS hl) (fun q => K2 q H locs ls hP hD hS hl)
theorem g_icmp_ne {x y : Int32} {off : Int} (tgt : Nat) (C : gC p s m args meth c cc nL own Ts D TY A) (hd : decode cc pc = .ok (.if_icmp .ne off, 3)) (ht : (pc : Int) + off = (tgt : Int)) (K1 : ¬ x = y → G p l e R s m args below meth c D A nL k j Q w lv tgt st) (K2 : x = y → G p l e R s m args below meth c D A nL k j Q w lv (pc + 3) st) : G p l e R s m args below meth c D A nL k j Q w lv pc (.int y :: .int x :: st) :=
  fun H locs ls hP hD hS hl => lv_icmp_ne C.1 C.2.1 hd ht (fun q => K1 q H locs ls hP hD hS hl) (fun q => K2 q H locs ls hP hD hS hl)
theorem g_icmp_lt {x y : Int32} {off : Int} (tgt : Nat) (C : gC p s m args meth c cc nL own Ts D TY A) (hd : decode cc pc = .ok (.if_icmp .lt off, 3)) (ht : (pc : Int) + off = (tgt : Int)) (K1 : x < y → G p l e R s m args below meth c D A nL k j Q w lv tgt st) (K2 : ¬ x < y → G p l e R s m args below meth c D A nL k j Q w lv (pc + 3) st) : G p l e R s m args below meth c D A nL k j Q w lv pc (.int y :: .int x :: st) :=
  fun H locs ls hP hD hS hl => lv_icmp_lt C.1 C.2.1 hd ht (fun q => K1 q H locs ls hP hD hS hl) (fun q => K2 q H locs ls hP hD hS hl)
theorem g_icmp_ge {x y : Int32} {off : Int} (tgt : Nat) (C : gC p s m args meth c cc nL own Ts D TY A) (hd : decode cc pc = .ok (.if_icmp .ge off, 3)) (ht : (pc : Int) + off = (tgt : Int)) (K1 : y ≤ x → G p l e R s m args below meth c D A nL k j Q w lv tgt st) (K2 : ¬ y ≤ x → G p l e R s m args below meth c D A nL k j Q w lv (pc + 3) st) : G p l e R s m args below meth c D A nL k j Q w lv pc (.int y :: .int x :: st) :=
  fun H locs ls hP hD hS hl => lv_icmp_ge C.1 C.2.1 hd ht (fun q => K1 q H locs ls hP hD hS hl) (fun q => K2 q H locs ls hP hD hS hl)
theorem g_icmp_gt {x y : Int32} {off : Int} (tgt : Nat) (C : gC p s m args meth c cc nL own Ts D TY A) (hd : decode cc pc = .ok (.if_icmp .gt off, 3)) (ht : (pc : Int) + off = (tgt : Int)) (K1 : y < x → G p l e R s m args below meth c D A nL k j Q w lv tgt st) (K2 : ¬ y < x → G p l e R s m args below meth c D A nL k j Q w lv (pc + 3) st) : G p l e R s m args below meth c D A nL k j Q w lv pc (.int y :: .int x :: st) :=
  fun H locs ls hP hD hS hl => lv_icmp_gt C.1 C.2.1 hd ht (fun q => K1 q H locs ls hP hD hS hl) (fun q => K2 q H locs ls hP hD hS hl)
theorem g_icmp_le {x y : Int32} {off : Int} (tgt : Nat) (C : gC p s m args meth c cc nL own Ts D TY A) (hd : decode cc pc = .ok (.if_icmp .le off, 3)) (ht : (pc : Int) + off = (tgt : Int)) (K1 : x ≤ y → G p l e R s m args below meth c D A nL k j Q w lv tgt st) (K2 : ¬ x ≤ y → G p l e R s m args below meth c D A nL k j Q w lv (pc + 3) st) : G p l e R s m args below meth c D A nL k j Q w lv pc (.int y :: .int x :: st) :=
  fun H locs ls hP hD hS hl => lv_icmp_le C.1 C.2.1 hd ht (fun q => K1 q H locs ls hP hD hS hl) (fun q => K2 q H locs ls hP hD hS hl)
theorem g_tableIn {dflt lo hi off : Int} {offs : Array Int} {len : Nat} {x : Int32} (tgt : Nat) (C : gC p s m args meth c cc nL own Ts D TY A) (hd : decode cc pc = .ok (.tableswitch dflt lo hi offs, len)) (h1 : ¬ x.toInt < lo) (h2 : ¬ hi < x.toInt) (ho : offs[(x.toInt - lo).toNat]? = some off) (ht : (pc : Int) + off = (tgt : Int)) (K : G p l e R s m args below meth c D A nL k j Q w lv tgt st) : G p l e R s m args below meth c D A nL k j Q w lv pc (.int x :: st) :=
  fun H locs ls hP hD hS hl => lv_tableIn C.1 C.2.1 hd h1 h2 ho ht (K H locs ls hP hD hS hl)
theorem g_tableOut {dflt lo hi : Int} {offs : Array Int} {len : Nat} {x : Int32} (tgt : Nat) (C : gC p s m args meth c cc nL own Ts D TY A) (hd : decode cc pc = .ok (.tableswitch dflt lo hi offs, len)) (h : x.toInt < lo ∨ hi < x.toInt) (ht : (pc : Int) + dflt = (tgt : Int)) (K : G p l e R s m args below meth c D A nL k j Q w lv tgt st) : G p l e R s m args below meth c D A nL k j Q w lv pc (.int x :: st) :=
  fun H locs ls hP hD hS hl => lv_tableOut C.1 C.2.1 hd h ht (K H locs ls hP hD hS hl)
-- the world
theorem g_get {C0 : String} {T : u_T} {N ix : Nat} {fs : List Value} {a : Nat} (q0 ci f : Nat) (v : Value) (C : gC p s m args meth c cc nL own Ts D TY A) (hin : ∀ w ∈ u_ws C0 T N, w ∈ Ts) (he : w[q0]? = some (a, .inr (ci, fs))) (hc : vwCl[ci]? = some (C0, T, N)) (hf : f < N) (hlink : Cond.fieldLink own ix (T f).1 (T f).2.1 (T f).2.2.1 ∈ Ts) (hv : fs[f]? = some v) (hd : decode cc pc = .ok (.getfield ix, 3)) (K : G p l e R s m args below meth c D A nL k j Q w lv (pc + 3) (v :: st)) : G p l e R s m args below meth c D A nL k j Q w lv pc (.ref a :: st) :=
  fun H locs ls hP hD hS hl => va_get (D := D) (ci := ci) (v := v) (C := C0) (T := T) (N := N) C.1 C.2.1 C.2.2.2.2.1 hin C.2.2.2.1 C.2.2.2.2.2.1 hP q0 he hc f hf (C.2.2.2.2.1 _ hlink) (fun _ h9 => h9) hv hd (K H locs ls hP hD hS hl)
theorem g_put {C0 : String} {T : u_T} {N ix : Nat} {fs : List Value} {a : Nat} (q0 ci f : Nat) (w' : va_W) {ty0 : Nat → FieldType} {x : Int32} (C : gC p s m args meth c cc nL own Ts D TY A) (hin : ∀ w ∈ u_ws C0 T N, w ∈ Ts) (hty : ∀ k, k < N → parseFieldDescriptor (T k).2.2.1 = some (ty0 k)) (hnm : ∀ a, a < N → ∀ b, b < N → a ≠ b → (T a).2.1 ≠ (T b).2.1) (he : w[q0]? = some (a, .inr (ci, fs))) (hc : vwCl[ci]? = some (C0, T, N)) (hf : f < N) (hlink : Cond.fieldLink own ix (T f).1 (T f).2.1 (T f).2.2.1 ∈ Ts) (hfin : (T f).2.2.2 = false) (hdsc : parseFieldDescriptor (T f).2.2.1 = some .int) (hl : f < fs.length) (hw' : w.set q0 (a, .inr (ci, fs.set f (.int x))) = w') (hd : decode cc pc = .ok (.putfield ix, 3)) (K : G p l e R s m args below meth c D A nL k j Q w' lv (pc + 3) st) : G p l e R s m args below meth c D A nL k j Q w lv pc (.int x :: .ref a :: st) :=
  fun H locs ls hP hD hS hv => va_put (D := D) (ci := ci) (v := .int x) (ty := .int) (C := C0) (T := T) (N := N) C.1 C.2.1 C.2.2.2.2.1 hin ty0 hty hnm C.2.2.2.1 C.2.2.2.2.2.1 hP hD hS q0 he hc f hf (C.2.2.2.2.1 _ hlink) (fun _ h9 => h9) hfin hdsc rfl rfl hl hd (fun H1 locs1 hP1 hD1 hS1 => K H1 locs1 ls (hw' ▸ hP1) (hw' ▸ hD1) hS1 hv)
theorem g_iald {cA : ClassId} {n a : Nat} {f : Nat → Int32} {i : Int32} (q0 t0 : Nat) (C : gC p s m args meth c cc nL own Ts D TY A) (ha : w[q0]? = some (a, .inl (cA, n, .inl f))) (ht : TY[t0]? = some (cA, .int)) (hin : vp_in i n) (hd : decode cc pc = .ok (.iaload, 1)) (K : G p l e R s m args below meth c D A nL k j Q w lv (pc + 1) (.int (f i.toNatClampNeg) :: st)) : G p l e R s m args below meth c D A nL k j Q w lv pc (.int i :: .ref a :: st) :=
  fun H locs ls hP hD hS hl => va_iald C.1 C.2.1 C.2.2.2.2.2.1 hP q0 t0 ha ht hin hd (K H locs ls hP hD hS hl)
theorem g_lald {cA : ClassId} {n a : Nat} {f : Nat → Int64} {i : Int32} (q0 t0 : Nat) (C : gC p s m args meth c cc nL own Ts D TY A) (ha : w[q0]? = some (a, .inl (cA, n, .inr (.inl f)))) (ht : TY[t0]? = some (cA, .long)) (hin : vp_in i n) (hd : decode cc pc = .ok (.laload, 1)) (K : G p l e R s m args below meth c D A nL k j Q w lv (pc + 1) (.long (f i.toNatClampNeg) :: st)) : G p l e R s m args below meth c D A nL k j Q w lv pc (.int i :: .ref a :: st) :=
  fun H locs ls hP hD hS hl => va_lald C.1 C.2.1 C.2.2.2.2.2.1 hP q0 t0 ha ht hin hd (K H locs ls hP hD hS hl)
theorem g_iast {cA : ClassId} {n a : Nat} {f : Nat → Int32} {i x : Int32} (q0 t0 : Nat) (w' : va_W) (C : gC p s m args meth c cc nL own Ts D TY A) (ha : w[q0]? = some (a, .inl (cA, n, .inl f))) (ht : TY[t0]? = some (cA, .int)) (hin : vp_in i n) (hw' : w.set q0 (a, .inl (cA, n, .inl (upd f i.toNatClampNeg x))) = w') (hd : decode cc pc = .ok (.iastore, 1)) (K : G p l e R s m args below meth c D A nL k j Q w' lv (pc + 1) st) : G p l e R s m args below meth c D A nL k j Q w lv pc (.int x :: .int i :: .ref a :: st) :=
  fun H locs ls hP hD hS hv => va_iast C.1 C.2.1 C.2.2.2.2.2.1 hP hD hS q0 t0 ha ht hin hd (fun H1 locs1 hP1 hD1 hS1 => K H1 locs1 ls (hw' ▸ hP1) (hw' ▸ hD1) hS1 hv)
theorem g_last {cA : ClassId} {n a : Nat} {f : Nat → Int64} {i : Int32} {x : Int64} (q0 t0 : Nat) (w' : va_W) (C : gC p s m args meth c cc nL own Ts D TY A) (ha : w[q0]? = some (a, .inl (cA, n, .inr (.inl f)))) (ht : TY[t0]? = some (cA, .long)) (hin : vp_in i n) (hw' : w.set q0 (a, .inl (cA, n, .inr (.inl (vp_updL f i.toNatClampNeg x)))) = w') (hd : decode cc pc = .ok (.lastore, 1)) (K : G p l e R s m args below meth c D A nL k j Q w' lv (pc + 1) st) : G p l e R s m args below meth c D A nL k j Q w lv pc (.long x :: .int i :: .ref a :: st) :=
  fun H locs ls hP hD hS hv => va_last C.1 C.2.1 C.2.2.2.2.2.1 hP hD hS q0 t0 ha ht hin hd (fun H1 locs1 hP1 hD1 hS1 => K H1 locs1 ls (hw' ▸ hP1) (hw' ▸ hD1) hS1 hv)
/-- a computed number gets a name -/
theorem g_nm {x : Int32} (K : ∀ y : Int32, y = x → G p l e R s m args below meth c D A nL k j Q w lv pc (.int y :: st)) : G p l e R s m args below meth c D A nL k j Q w lv pc (.int x :: st) := K x rfl
/-- .. or is another way of saying it -/
theorem g_is {x : Int32} (y : Int32) (h : x = y) (K : G p l e R s m args below meth c D A nL k j Q w lv pc (.int y :: st)) : G p l e R s m args below meth c D A nL k j Q w lv pc (.int x :: st) := by rw [h]; exact K
theorem g_w (w' : va_W) (h : w = w') (K : G p l e R s m args below meth c D A nL k j Q w' lv pc st) : G p l e R s m args below meth c D A nL k j Q w lv pc st := by rw [h]; exact K
/-- the locals picked out and put in order -/
theorem g_lv (ks : List Nat) (lv' : List (Nat × Value)) (h : lv_pick lv ks = lv') (K : G p l e R s m args below meth c D A nL k j Q w lv' pc st) : G p l e R s m args below meth c D A nL k j Q w lv pc st :=
  fun H locs ls hP hD hS hl => K H locs ls hP hD hS (lv_sub hl ks h)
theorem g_widen {k' j' : Nat} (h1 : k ≤ k') (h2 : j ≤ j') (K : G p l e R s m args below meth c D A nL k' j' Q w lv pc st) : G p l e R s m args below meth c D A nL k j Q w lv pc st :=
  fun H locs ls hP hD hS hl => W.widen h1 h2 (K H locs ls hP hD hS hl)
end GJ
end
section
theorem zz_end : True := trivial
end
