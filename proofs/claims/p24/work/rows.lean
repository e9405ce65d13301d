section
-- ===== PART A: goes FIRST, ahead of the names: the tables' words, and 'selects' of the private methods out of them =====
/-- a private method of a class that the tables say can be made, by its rows of tables_1 -/
def lw_okq (q : MethodName × Nat) : Prop := (q.1.cls ≠ "java/lang/invoke/MethodHandle" ∧ q.1.cls ≠ "java/lang/invoke/VarHandle") ∧ Cond.instantiable q.1.cls q.2 ∈ tables_1 ∧ Cond.privateMethod q.1 ∈ tables_1 ∧ Cond.instanceMethod q.1 ∈ tables_1
theorem lw_p0 : lw_okq (⟨"java/lang/Throwable", "fillInStackTrace", "(I)Ljava/lang/Throwable;"⟩, 6) := ⟨⟨by decide +kernel, by decide +kernel⟩, List.mem_of_getElem? (i := 119) (by decide +kernel), List.mem_of_getElem? (i := 117) (by decide +kernel), List.mem_of_getElem? (i := 118) (by decide +kernel)⟩
theorem lw_p1 : lw_okq (⟨"AtelierBook", "passForLoan", "(II)V"⟩, 17) := ⟨⟨by decide +kernel, by decide +kernel⟩, List.mem_of_getElem? (i := 10) (by decide +kernel), List.mem_of_getElem? (i := 204) (by decide +kernel), List.mem_of_getElem? (i := 205) (by decide +kernel)⟩
theorem lw_p2 : lw_okq (⟨"AtelierBook", "move", "(III)Z"⟩, 17) := ⟨⟨by decide +kernel, by decide +kernel⟩, List.mem_of_getElem? (i := 10) (by decide +kernel), List.mem_of_getElem? (i := 246) (by decide +kernel), List.mem_of_getElem? (i := 247) (by decide +kernel)⟩
theorem lw_p3 : lw_okq (⟨"AtelierBook", "sumOfRow", "(I)I"⟩, 17) := ⟨⟨by decide +kernel, by decide +kernel⟩, List.mem_of_getElem? (i := 10) (by decide +kernel), List.mem_of_getElem? (i := 250) (by decide +kernel), List.mem_of_getElem? (i := 251) (by decide +kernel)⟩
theorem lw_p4 : lw_okq (⟨"AtelierBook", "checkAtHome", "(I)V"⟩, 17) := ⟨⟨by decide +kernel, by decide +kernel⟩, List.mem_of_getElem? (i := 10) (by decide +kernel), List.mem_of_getElem? (i := 259) (by decide +kernel), List.mem_of_getElem? (i := 260) (by decide +kernel)⟩
theorem lw_p5 : lw_okq (⟨"AtelierBook", "isLent", "(I)Z"⟩, 17) := ⟨⟨by decide +kernel, by decide +kernel⟩, List.mem_of_getElem? (i := 10) (by decide +kernel), List.mem_of_getElem? (i := 263) (by decide +kernel), List.mem_of_getElem? (i := 264) (by decide +kernel)⟩
theorem lw_p6 : lw_okq (⟨"AtelierBook", "waste", "(I)I"⟩, 17) := ⟨⟨by decide +kernel, by decide +kernel⟩, List.mem_of_getElem? (i := 10) (by decide +kernel), List.mem_of_getElem? (i := 277) (by decide +kernel), List.mem_of_getElem? (i := 278) (by decide +kernel)⟩
theorem lw_p7 : lw_okq (⟨"AtelierBook", "valueOf", "(I)I"⟩, 17) := ⟨⟨by decide +kernel, by decide +kernel⟩, List.mem_of_getElem? (i := 10) (by decide +kernel), List.mem_of_getElem? (i := 286) (by decide +kernel), List.mem_of_getElem? (i := 287) (by decide +kernel)⟩
theorem lw_p8 : lw_okq (⟨"AtelierBook", "averagePriceOfAlike", "(I)I"⟩, 17) := ⟨⟨by decide +kernel, by decide +kernel⟩, List.mem_of_getElem? (i := 10) (by decide +kernel), List.mem_of_getElem? (i := 290) (by decide +kernel), List.mem_of_getElem? (i := 291) (by decide +kernel)⟩
theorem lw_p9 : lw_okq (⟨"AtelierBook", "mainPigmentOf", "(I)I"⟩, 17) := ⟨⟨by decide +kernel, by decide +kernel⟩, List.mem_of_getElem? (i := 10) (by decide +kernel), List.mem_of_getElem? (i := 294) (by decide +kernel), List.mem_of_getElem? (i := 295) (by decide +kernel)⟩
theorem lw_p10 : lw_okq (⟨"AtelierBook", "mainPigmentOfRow", "(I)I"⟩, 17) := ⟨⟨by decide +kernel, by decide +kernel⟩, List.mem_of_getElem? (i := 10) (by decide +kernel), List.mem_of_getElem? (i := 298) (by decide +kernel), List.mem_of_getElem? (i := 299) (by decide +kernel)⟩
theorem lw_p11 : lw_okq (⟨"AtelierBook", "gramsOfPigment", "(II)I"⟩, 17) := ⟨⟨by decide +kernel, by decide +kernel⟩, List.mem_of_getElem? (i := 10) (by decide +kernel), List.mem_of_getElem? (i := 302) (by decide +kernel), List.mem_of_getElem? (i := 303) (by decide +kernel)⟩
theorem lw_p12 : lw_okq (⟨"AtelierBook", "colourOfRow", "(II)I"⟩, 17) := ⟨⟨by decide +kernel, by decide +kernel⟩, List.mem_of_getElem? (i := 10) (by decide +kernel), List.mem_of_getElem? (i := 363) (by decide +kernel), List.mem_of_getElem? (i := 364) (by decide +kernel)⟩
theorem lw_p13 : lw_okq (⟨"AtelierBook", "colourOfTube", "(II)I"⟩, 17) := ⟨⟨by decide +kernel, by decide +kernel⟩, List.mem_of_getElem? (i := 10) (by decide +kernel), List.mem_of_getElem? (i := 367) (by decide +kernel), List.mem_of_getElem? (i := 368) (by decide +kernel)⟩
theorem lw_p14 : lw_okq (⟨"AtelierBook", "lookOf", "(II)I"⟩, 17) := ⟨⟨by decide +kernel, by decide +kernel⟩, List.mem_of_getElem? (i := 10) (by decide +kernel), List.mem_of_getElem? (i := 378) (by decide +kernel), List.mem_of_getElem? (i := 379) (by decide +kernel)⟩
theorem lw_p15 : lw_okq (⟨"AtelierBook", "sumOfTube", "(III)I"⟩, 17) := ⟨⟨by decide +kernel, by decide +kernel⟩, List.mem_of_getElem? (i := 10) (by decide +kernel), List.mem_of_getElem? (i := 394) (by decide +kernel), List.mem_of_getElem? (i := 395) (by decide +kernel)⟩
def lw_privs_1 : List (MethodName × Nat) := [(⟨"java/lang/Throwable", "fillInStackTrace", "(I)Ljava/lang/Throwable;"⟩, 6), (⟨"AtelierBook", "passForLoan", "(II)V"⟩, 17), (⟨"AtelierBook", "move", "(III)Z"⟩, 17), (⟨"AtelierBook", "sumOfRow", "(I)I"⟩, 17), (⟨"AtelierBook", "checkAtHome", "(I)V"⟩, 17), (⟨"AtelierBook", "isLent", "(I)Z"⟩, 17), (⟨"AtelierBook", "waste", "(I)I"⟩, 17), (⟨"AtelierBook", "valueOf", "(I)I"⟩, 17), (⟨"AtelierBook", "averagePriceOfAlike", "(I)I"⟩, 17), (⟨"AtelierBook", "mainPigmentOf", "(I)I"⟩, 17), (⟨"AtelierBook", "mainPigmentOfRow", "(I)I"⟩, 17), (⟨"AtelierBook", "gramsOfPigment", "(II)I"⟩, 17), (⟨"AtelierBook", "colourOfRow", "(II)I"⟩, 17), (⟨"AtelierBook", "colourOfTube", "(II)I"⟩, 17), (⟨"AtelierBook", "lookOf", "(II)I"⟩, 17), (⟨"AtelierBook", "sumOfTube", "(III)I"⟩, 17)]
theorem lw_r1 : ∀ q ∈ lw_privs_1, lw_okq q := List.forall_mem_cons.mpr ⟨lw_p0, List.forall_mem_cons.mpr ⟨lw_p1, List.forall_mem_cons.mpr ⟨lw_p2, List.forall_mem_cons.mpr ⟨lw_p3, List.forall_mem_cons.mpr ⟨lw_p4, List.forall_mem_cons.mpr ⟨lw_p5, List.forall_mem_cons.mpr ⟨lw_p6, List.forall_mem_cons.mpr ⟨lw_p7, List.forall_mem_cons.mpr ⟨lw_p8, List.forall_mem_cons.mpr ⟨lw_p9, List.forall_mem_cons.mpr ⟨lw_p10, List.forall_mem_cons.mpr ⟨lw_p11, List.forall_mem_cons.mpr ⟨lw_p12, List.forall_mem_cons.mpr ⟨lw_p13, List.forall_mem_cons.mpr ⟨lw_p14, List.forall_mem_cons.mpr ⟨lw_p15, fun _ h => absurd h List.not_mem_nil⟩⟩⟩⟩⟩⟩⟩⟩⟩⟩⟩⟩⟩⟩⟩⟩
theorem lw_p16 : lw_okq (⟨"AtelierBook", "mixed", "(IIII)I"⟩, 17) := ⟨⟨by decide +kernel, by decide +kernel⟩, List.mem_of_getElem? (i := 10) (by decide +kernel), List.mem_of_getElem? (i := 402) (by decide +kernel), List.mem_of_getElem? (i := 403) (by decide +kernel)⟩
def lw_privs_2 : List (MethodName × Nat) := [(⟨"AtelierBook", "mixed", "(IIII)I"⟩, 17)]
theorem lw_r2 : ∀ q ∈ lw_privs_2, lw_okq q := List.forall_mem_cons.mpr ⟨lw_p16, fun _ h => absurd h List.not_mem_nil⟩
def lw_privs : List (MethodName × Nat) := lw_privs_1 ++ (lw_privs_2)
def lw_tbl : List Cond := k2_sels lw_privs ++ tables_1
theorem lw_privs_ok : ∀ q ∈ lw_privs, lw_okq q := by
  show ∀ q ∈ lw_privs_1 ++ (lw_privs_2), lw_okq q
  exact List.forall_mem_append.mpr ⟨lw_r1, lw_r2⟩
-- ===== end of PART A; then your names; then what follows =====
end
section
/-! ===== BEGIN words of one list among another's, by their places ===== -/
theorem goodIn_r {big : List Cond} (ws : List Cond) (ps : List Nat) (hp : ws = ps.filterMap (fun i => big[i]?)) (h : ws.all goodWord = true) : GoodIn big ws := by
  intro w hw
  have h1 := List.all_eq_true.mp h w hw
  rw [hp] at hw
  obtain ⟨i, -, hi⟩ := List.mem_filterMap.mp hw
  have hm : w ∈ big := by first | exact List.mem_of_getElem? hi | exact List.getElem?_mem hi
  exact ⟨hm, good_of_word h1⟩
theorem goodIn_app {big a b : List Cond} (ha : GoodIn big a) (hb : GoodIn big b) : GoodIn big (a ++ b) := fun w h => (List.mem_append.mp h).elim (ha w) (hb w)
theorem goodIn_ca {big a b : List Cond} {c : Cond} (ha : GoodIn big (c :: a)) (hb : GoodIn big b) : GoodIn big (c :: (a ++ b)) := fun w h => (List.mem_cons.mp h).elim (fun e => ha w (List.mem_cons.mpr (Or.inl e))) (fun h => (List.mem_append.mp h).elim (fun h => ha w (List.mem_cons.mpr (Or.inr h))) (hb w))
theorem goodIn_sub {big ws : List Cond} (hm : ∀ w ∈ ws, w ∈ big) (h : ws.all goodWord = true) : GoodIn big ws := fun w hw => ⟨hm w hw, good_of_word (List.all_eq_true.mp h w hw)⟩
/-! ===== END ===== -/

/-! ===== BEGIN exceptions that leave a method, and their catching by the caller (launches without stack traces) ===== -/
section VXA
/-! The laws vx_back, vx_callV, vx_callS, vx_callSW, vx_throw0, vx_throwS follow proofs of the library, with one case more: JvmDerived/Free/Laws.lean (Back.of_free), Shelf42/LK1.lean (callV, callS), Shelf/KitTraced.lean (throwNew0V, throwNewS). -/
/-- where a method has thrown q: the class by its name, the cell, what was written, the world -/
def vx_T (XC : String → State → State → Prop) (st : State) (q : Addr) (t : State) (mc ms : Nat) (free : Addr → Prop) : Prop :=
  ∃ (E : String) (ce : Cell) (L : List Loc), XC E st t ∧ t.heap[q]? = some ce ∧ ce.vm = .none ∧ st.vm.findClass E = some ce.cls ∧ st.WarmedH t.vm ∧ st.sameButNew ({ t with vm := st.vm } : State) L mc ms ∧ ∀ z ∈ L, free z.base
def vx_Q (Qc : Array Value → State → Outcome → State → Prop) (XC : String → State → State → Prop) (mc ms : Nat) (free : Addr → Prop) : Array Value → State → Outcome → State → Prop := fun a st o t =>
  (Qc a st o t ∧ ∃ L, FrameEnd st o t L mc ms ∧ ∀ q ∈ L, free q.base) ∨ ∃ q, o = .threw q ∧ vx_T XC st q t mc ms free
/-- a callee that returns or throws -/
def vx_Met (l : Launch) (y : MethodName) (ws : List Cond) (rm : Room) (Pc : Array Value → State → Prop) (Qc : Array Value → State → Outcome → State → Prop) (XC : String → State → State → Prop) (mc ms : Nat) (free : Addr → Prop) : Prop :=
  MetFree l y (headSpec ws rm) Pc (fun _ _ _ _ _ => True) (vx_Q Qc XC mc ms free)
def vx_Post (XC : String → State → State → Prop) (mc ms : Nat) (free : Addr → Prop) : Pt → Array Value → Addr → Pt → Prop := fun A a q B =>
  ∃ (g : JFrame) (mk : MethodId) (t : State) (L : List Loc) (E : String) (ce : Cell), B.U.heap = t.heap ∧ B.U.vm = t.vm ∧ XC E (A.U.calling g mk a) t ∧ t.heap[q]? = some ce ∧ ce.vm = .none ∧ A.U.vm.findClass E = some ce.cls ∧ B.locs = A.locs ++ L ∧ (∀ z ∈ L, free z.base) ∧ B.cells = A.cells + mc ∧ B.slots = A.slots + ms
def vx_Back (l : Launch) (R : Room) (p : Program) (e : Env) (below : List Frame) (s : State) (sargs : Array Value) (y : MethodName) (len W9 : Nat)
    (Pre : Pt → Array Value → Prop) (Post : Pt → Array Value → Option Value → Pt → Prop) (PostX : Pt → Array Value → Addr → Pt → Prop) : Prop :=
  ∀ (m : MethodId) (meth : Method) (c : Code) (A : Pt) (g : JFrame) (ig : Instr) (mk : MethodId) (a : Array Value),
    Stand p l e R s m sargs below meth c A.U A.locs A.cells A.slots → g.method = m → g.locals.size = c.maxLocals → decode c.code g.pc = .ok (ig, len) →
    2 * g.monitorRoom + (g.stack.map fun v => v.category).sum ≤ W9 → A.U.methodNamed? y = some mk → Pre A a →
    (∃ (v : Option Value) (B : Pt), Stand p l e R s m sargs below meth c B.U B.locs B.cells B.slots ∧ Post A a v B ∧
      Steps p.tables e below (doInvoke e (A.U.setTop g) [] mk a).1 (B.U.setTop { g with pc := g.pc + len, stack := v.toList ++ g.stack })) ∨
    (∃ (q : Addr) (B : Pt), Stand p l e R s m sargs below meth c B.U B.locs B.cells B.slots ∧ PostX A a q B ∧
      Steps p.tables e below (doInvoke e (A.U.setTop g) [] mk a).1 ((B.U.setTop g).pushFrame (.throwing q)))
section Payer
variable {l : Launch} {R : Room} {p : Program} {e : Env} {below : List Frame} {s : State} {sargs : Array Value} {y : MethodName} {len W9 : Nat}
theorem vx_back {ws : List Cond} {rm : Room} {Pc : Array Value → State → Prop} {Qc : Array Value → State → Outcome → State → Prop} {XC : String → State → State → Prop} {mc ms : Nat} {free : Addr → Prop} {bytes : ByteArray} {maxL : Nat} {ret : Option FieldType}
    (hM : vx_Met l y ws rm Pc Qc XC mc ms free) (hblind : FrameBlind Pc) (hrc : rm.cells = mc) (hrs : rm.slots = ms)
    (hframes : rm.frames + 1 ≤ R.frames) (hlocals : W9 + (maxL + 11) + rm.locals ≤ R.locals)
    (hws : ∀ w ∈ ws, ∀ a' U, s.WarmedH U.vm → w.before a' U = true) (hcode : Cond.code y bytes maxL ret ∈ ws) (hinit : ∀ a' U, s.WarmedH U.vm → (Cond.initialized y.cls).before a' U = true) :
    vx_Back l R p e below s sargs y len W9 (PreOf R mc ms Pc) (PostOf Qc mc ms free) (vx_Post XC mc ms free) := by
  intro m meth c A g ig mk a X hg hsize hdg hW hn hp
  have h1 : (headSpec ws rm).pre.before a A.U = true := atoms_intro fun w hw => hws w hw _ _ X.warmed
  have h2 : (Cond.code y bytes maxL ret).before a A.U = true := hws _ hcode _ _ X.warmed
  have h3 : (Cond.initialized y.cls).before a A.U = true := hinit _ _ X.warmed
  have h4 : A.cells + (headSpec ws rm).room.cells ≤ R.cells := by rw [show (headSpec ws rm).room.cells = mc from hrc]; exact hp.1
  have h5 : A.slots + (headSpec ws rm).room.slots ≤ R.slots := by rw [show (headSpec ws rm).room.slots = ms from hrs]; exact hp.2.1
  have hPc : Pc a (A.U.calling g mk a) := hblind _ _ _ _ hp.2.2
  obtain ⟨U, Ls, c0, s0⟩ := A
  dsimp only [Pt.U, Pt.locs, Pt.cells, Pt.slots] at h1 h2 h3 h4 h5 X hn hPc ⊢
  obtain ⟨methY, cY, hmY, hcY, -, hlY, -, -, -, -⟩ := Cond.code_spec hn h2
  obtain ⟨kY, hkY, -⟩ := className_of_methodNamed hn
  have hinitY : kY.init = .initialized := Cond.initialized_spec (findClass_of_methodNamed hn) hkY h3
  have h : At U g.method c below := by rw [hg]; exact X.here
  have hlocals9 : W9 + (maxL + 11) + (headSpec ws rm).room.locals ≤ R.locals := hlocals
  have happ : (headSpec ws rm).appliesLoose y e.platform (U.calling g mk a) = true :=
    Spec.appliesLoose_calling (g := g) h hdg hn hkY hinitY
      (X.room_calling (g := g) (R' := (headSpec ws rm).room) hsize hmY hcY hframes (by rw [hlY]; omega) h4 h5) h1
  obtain ⟨mid, hmid⟩ := h.above
  have hfr : (U.setTop g).frames = (.java g :: mid) ++ below := by rw [State.frames_setTop' g h.top, hmid]; rfl
  obtain ⟨o, s₂, hsteps, -, hend, hq⟩ := Steps.callFree hM p X.admits X.cas X.clock (acts := []) hfr happ hPc trivial
  have hq' : vx_Q Qc XC mc ms free a (U.calling g mk a) o s₂ := hq
  rw [State.frames_setTop' g h.top] at hend
  obtain ⟨g₀, hg0⟩ := Option.isSome_iff_exists.mp h.top
  obtain ⟨r, hr⟩ := State.topJava?_eq_some.mp hg0
  have hr' : (({ U with heap := s₂.heap, slotsUsed := s₂.slotsUsed } : State).setVm s₂.vm).frames = .java g₀ :: r := hr
  rcases hq' with ⟨hqc, L, hfe, hL⟩ | ⟨q, rfl, E, ce, L, hx, hce, hcv, hcl, hW₂, hsm, hL⟩
  · obtain ⟨⟨v, rfl⟩, hW₂, e2, q2, q3, q4, q5, q6⟩ := id hfe
    have e3 : s₂ = ({ (U.calling g mk a).setFrames s₂.frames with heap := s₂.heap, slotsUsed := s₂.slotsUsed } : State).setVm s₂.vm := by
      have : s₂ = ({ s₂ with vm := (U.calling g mk a).vm } : State).setVm s₂.vm := rfl
      rw [e2] at this
      exact this
    obtain ⟨c₂, i₂, len₂, hc₂, hd₂, hf₂⟩ := hend
    have hW' : U.WarmedH s₂.vm := hW₂
    have hcc : c₂ = c := by
      have h1 : s₂.code? g.method = U.code? g.method := by
        rw [State.code?_eq, State.code?_eq, hW'.alike.method?]
      exact Option.some.inj (hc₂.symm.trans (h1.trans h.code))
    subst hcc
    have hlen : len₂ = len := by rw [hdg] at hd₂; cases hd₂; rfl
    subst hlen
    have hs₂ : s₂ = (({ U with heap := s₂.heap, slotsUsed := s₂.slotsUsed } : State).setVm s₂.vm).setTop { g with pc := g.pc + len₂, stack := v.toList ++ g.stack } := by
      refine e3.trans ?_
      rw [hf₂, State.calling_eq h.top, State.setFrames_setFrames, State.setTop_of_frames _ hr', hr]
      rfl
    have hsame : U.sameButNew ({ U with heap := s₂.heap, slotsUsed := s₂.slotsUsed } : State) L mc ms := by
      refine ⟨?_, q2, q3, q4, q5, q6⟩
      obtain ⟨t, ht, -⟩ := State.frames_cons hr
      show ({ U with heap := s₂.heap, slotsUsed := s₂.slotsUsed } : State) = { U.setFrames U.frames with heap := s₂.heap, slotsUsed := s₂.slotsUsed }
      rw [State.setFrames_self ht]
    subst hg
    refine Or.inl ⟨v, ⟨(({ U with heap := s₂.heap, slotsUsed := s₂.slotsUsed } : State).setVm s₂.vm), Ls ++ L, c0 + mc, s0 + ms⟩,
      ⟨X.admits, X.cas, X.clock, X.frames, X.room, X.hears, X.method, X.code, (X.here.setHeapUsed s₂.heap s₂.slotsUsed).setVm hW'.alike, X.tail, State.WarmedH.trans X.warmed hW', X.limits, X.bytes, X.same.trans (hsame.setVm s.vm)⟩,
      ⟨g, mk, s₂, L, rfl, rfl, hqc, rfl, hL, rfl, rfl⟩, ?_⟩
    show Steps p.tables e below _ ((({ U with heap := s₂.heap, slotsUsed := s₂.slotsUsed } : State).setVm s₂.vm).setTop { g with pc := g.pc + len₂, stack := v.toList ++ g.stack })
    rw [← hs₂]
    exact hsteps
  · obtain ⟨e2, q2, q3, q4, q5, q6⟩ := id hsm
    have e3 : s₂ = ({ (U.calling g mk a).setFrames s₂.frames with heap := s₂.heap, slotsUsed := s₂.slotsUsed } : State).setVm s₂.vm := by
      have : s₂ = ({ s₂ with vm := (U.calling g mk a).vm } : State).setVm s₂.vm := rfl
      rw [e2] at this
      exact this
    have hf₂ : s₂.frames = .throwing q :: .java g :: U.frames.tail := hend
    have hW' : U.WarmedH s₂.vm := hW₂
    have hs₂ : s₂ = ((({ U with heap := s₂.heap, slotsUsed := s₂.slotsUsed } : State).setVm s₂.vm).setTop g).pushFrame (.throwing q) := by
      refine e3.trans ?_
      rw [hf₂, State.calling_eq h.top, State.setFrames_setFrames, State.pushFrame, State.frames_setTop _ hr', State.setTop_of_frames _ hr', State.setFrames_setFrames, hr]
      rfl
    have hsame : U.sameButNew ({ U with heap := s₂.heap, slotsUsed := s₂.slotsUsed } : State) L mc ms := by
      refine ⟨?_, q2, q3, q4, q5, q6⟩
      obtain ⟨t, ht, -⟩ := State.frames_cons hr
      show ({ U with heap := s₂.heap, slotsUsed := s₂.slotsUsed } : State) = { U.setFrames U.frames with heap := s₂.heap, slotsUsed := s₂.slotsUsed }
      rw [State.setFrames_self ht]
    subst hg
    refine Or.inr ⟨q, ⟨(({ U with heap := s₂.heap, slotsUsed := s₂.slotsUsed } : State).setVm s₂.vm), Ls ++ L, c0 + mc, s0 + ms⟩,
      ⟨X.admits, X.cas, X.clock, X.frames, X.room, X.hears, X.method, X.code, (X.here.setHeapUsed s₂.heap s₂.slotsUsed).setVm hW'.alike, X.tail, State.WarmedH.trans X.warmed hW', X.limits, X.bytes, X.same.trans (hsame.setVm s.vm)⟩,
      ⟨g, mk, s₂, L, E, ce, rfl, rfl, hx, hce, hcv, hcl, rfl, hL, rfl, rfl⟩, ?_⟩
    show Steps p.tables e below _ (((({ U with heap := s₂.heap, slotsUsed := s₂.slotsUsed } : State).setVm s₂.vm).setTop g).pushFrame (.throwing q))
    rw [← hs₂]
    exact hsteps
end Payer
section Calls
variable {p : Program} {l : Launch} {e : Env} {R : Room} {s : State} {m : MethodId} {args : Array Value} {below : List Frame} {meth : Method} {c : Code} {T : State} {locs : List Loc} {cells slots : Nat}
theorem vx_callV (X : Stand p l e R s m args below meth c T locs cells slots) (hexec : p.tables.exec = Jvm.exec) {own C : String} {index : Nat} {y : MethodName} {bytes : ByteArray} {maxL : Nat} {ret : Option FieldType}
    (hown : s.vm.findClass own = some m.cls) (hlink : (Cond.methodLink own index y).before args s = true) (hinst : (Cond.instanceMethod y).before args s = true) (hsel : (Cond.selects C y y).before args s = true)
    (hcode : (Cond.code y bytes maxL ret).before args s = true) (hy : y.cls ≠ "java/lang/invoke/MethodHandle" ∧ y.cls ≠ "java/lang/invoke/VarHandle")
    {W9 : Nat} {Pre : Pt → Array Value → Prop} {Post : Pt → Array Value → Option Value → Pt → Prop} {PostX : Pt → Array Value → Addr → Pt → Prop} (hK : vx_Back l R p e below s args y 3 W9 Pre Post PostX)
    {b : Addr} {cellB : Cell} (hcell : T.heap[b]? = some cellB) (hobj : cellB.vm.isStatics = false) (hcls : s.vm.findClass C = some cellB.cls)
    {g : JFrame} (hg : g.method = m) (hsize : g.locals.size = c.maxLocals) {argsL rest : List Value} (hlen : ∀ sig, parseMethodDescriptor y.desc = some sig → argsL.length = sig.parameters.length)
    (hstack : g.stack = argsL.reverse ++ .ref b :: rest) (hW : 2 * g.monitorRoom + (rest.map fun v => v.category).sum ≤ W9) (hdg : decode c.code g.pc = .ok (.invokevirtual index, 3))
    (hpre : ∀ vm₁, s.WarmedH vm₁ → Pre ⟨T.setVm vm₁, locs, cells, slots⟩ (Value.ref b :: argsL).toArray) :
    (∃ (v : Option Value) (vm₁ : Vm) (B : Pt), s.WarmedH vm₁ ∧ Stand p l e R s m args below meth c B.U B.locs B.cells B.slots ∧ Post ⟨T.setVm vm₁, locs, cells, slots⟩ (Value.ref b :: argsL).toArray v B ∧
      ∀ target, Steps p.tables e below (B.U.setTop { g with pc := g.pc + 3, stack := v.toList ++ rest }) target → Steps p.tables e below (T.setTop g) target) ∨
    (∃ (q : Addr) (vm₁ : Vm) (B : Pt), s.WarmedH vm₁ ∧ Stand p l e R s m args below meth c B.U B.locs B.cells B.slots ∧ PostX ⟨T.setVm vm₁, locs, cells, slots⟩ (Value.ref b :: argsL).toArray q B ∧
      Steps p.tables e below (T.setTop g) ((B.U.setTop { g with stack := rest }).pushFrame (.throwing q))) := by
  obtain ⟨mk, methM, hnamed, hmethM, hstM, habM⟩ := Cond.instanceMethod_spec hinst
  obtain ⟨methM', cM, hmethM', -, -, -, -, -, -, hsigM⟩ := Cond.code_spec hnamed hcode
  cases hmethM.symm.trans hmethM'
  obtain ⟨c2, r2, m2, q1, q2, q3, q4, kP, hkP, hkPi⟩ := Cond.selects_spec hsel
  cases hcls.symm.trans q1
  cases (State.methodFound?_of_named hnamed hy).symm.trans q2
  cases hnamed.symm.trans q3
  have hselP : selectMethod e.platform s.vm cellB.cls mk = .method mk := by rw [Launch.admits_selectMethod X.admits]; exact q4
  obtain ⟨vm₁, X₁, hstep₁⟩ := X.invokevirtual hexec hown hlink hnamed hmethM hstM hkP hkPi hy (a := b) (cell := cellB) hcell
    (fun z h => by rw [h] at hobj; cases hobj) hselP hmethM habM hkP hkPi (g := g) hg (argsL := argsL) (rest := rest) (hlen _ hsigM) hstack hdg
  rcases hK m meth c ⟨T.setVm vm₁, locs, cells, slots⟩ { g with stack := rest } (.invokevirtual index) mk (Value.ref b :: argsL).toArray X₁ hg hsize hdg hW (X₁.named hnamed) (hpre vm₁ X₁.warmed) with ⟨v, B, X', hpost, hsteps⟩ | ⟨q, B, X', hpost, hsteps⟩
  · exact Or.inl ⟨v, vm₁, B, X₁.warmed, X', hpost, fun target h => hstep₁ _ fun acts => by rw [doInvoke_state]; exact hsteps.trans h⟩
  · exact Or.inr ⟨q, vm₁, B, X₁.warmed, X', hpost, hstep₁ _ fun acts => by rw [doInvoke_state]; exact hsteps⟩
theorem vx_callS (X : Stand p l e R s m args below meth c T locs cells slots) (hexec : p.tables.exec = Jvm.exec) {own : String} {index : Nat} {y : MethodName} {bytes : ByteArray} {maxL : Nat} {ret : Option FieldType}
    (hown : s.vm.findClass own = some m.cls) (hlink : (Cond.methodLink own index y).before args s = true) (hstat : (Cond.static y).before args s = true) (hinit : (Cond.initialized y.cls).before args s = true)
    (hcode : (Cond.code y bytes maxL ret).before args s = true) (hy : y.cls ≠ "java/lang/invoke/MethodHandle" ∧ y.cls ≠ "java/lang/invoke/VarHandle")
    {W9 : Nat} {Pre : Pt → Array Value → Prop} {Post : Pt → Array Value → Option Value → Pt → Prop} {PostX : Pt → Array Value → Addr → Pt → Prop} (hK : vx_Back l R p e below s args y 3 W9 Pre Post PostX)
    {g : JFrame} (hg : g.method = m) (hsize : g.locals.size = c.maxLocals) {argsL rest : List Value} (hlen : ∀ sig, parseMethodDescriptor y.desc = some sig → argsL.length = sig.parameters.length)
    (hstack : g.stack = argsL.reverse ++ rest) (hW : 2 * g.monitorRoom + (rest.map fun v => v.category).sum ≤ W9) (hdg : decode c.code g.pc = .ok (.invokestatic index, 3))
    (hpre : ∀ vm₁, s.WarmedH vm₁ → Pre ⟨T.setVm vm₁, locs, cells, slots⟩ argsL.toArray) :
    (∃ (v : Option Value) (vm₁ : Vm) (B : Pt), s.WarmedH vm₁ ∧ Stand p l e R s m args below meth c B.U B.locs B.cells B.slots ∧ Post ⟨T.setVm vm₁, locs, cells, slots⟩ argsL.toArray v B ∧
      ∀ target, Steps p.tables e below (B.U.setTop { g with pc := g.pc + 3, stack := v.toList ++ rest }) target → Steps p.tables e below (T.setTop g) target) ∨
    (∃ (q : Addr) (vm₁ : Vm) (B : Pt), s.WarmedH vm₁ ∧ Stand p l e R s m args below meth c B.U B.locs B.cells B.slots ∧ PostX ⟨T.setVm vm₁, locs, cells, slots⟩ argsL.toArray q B ∧
      Steps p.tables e below (T.setTop g) ((B.U.setTop { g with stack := rest }).pushFrame (.throwing q))) := by
  obtain ⟨mk, hnamed⟩ := Cond.code_named hcode
  obtain ⟨methM, cM, hmethM, -, -, -, -, -, -, hsigM⟩ := Cond.code_spec hnamed hcode
  have hstatic : methM.isStatic = true := Cond.static_spec hnamed hmethM hstat
  obtain ⟨kP, hkP, -⟩ := className_of_methodNamed hnamed
  have hinitP : kP.init = .initialized := Cond.initialized_spec (findClass_of_methodNamed hnamed) hkP hinit
  obtain ⟨vm₁, X₁, hstep₁⟩ := X.invokestatic hexec hown hlink hnamed hmethM hstatic hkP hinitP hy (g := g) hg (argsL := argsL) (rest := rest) (hlen _ hsigM) hstack hdg
  rcases hK m meth c ⟨T.setVm vm₁, locs, cells, slots⟩ { g with stack := rest } (.invokestatic index) mk argsL.toArray X₁ hg hsize hdg hW (X₁.named hnamed) (hpre vm₁ X₁.warmed) with ⟨v, B, X', hpost, hsteps⟩ | ⟨q, B, X', hpost, hsteps⟩
  · exact Or.inl ⟨v, vm₁, B, X₁.warmed, X', hpost, fun target h => hstep₁ _ fun acts => by rw [doInvoke_state]; exact hsteps.trans h⟩
  · exact Or.inr ⟨q, vm₁, B, X₁.warmed, X', hpost, hstep₁ _ fun acts => by rw [doInvoke_state]; exact hsteps⟩
end Calls
theorem vx_cls {s : State} {T : State} {vm₁ : Vm} {E : String} {k : ClassId} (hW : s.WarmedH vm₁) (h : (T.setVm vm₁).vm.findClass E = some k) : s.vm.findClass E = some k := by
  have h1 : vm₁.findClass E = some k := h
  rw [hW.alike.findClass] at h1
  exact h1
/-- the method's frame g, with q thrown over it -/
def vx_W (p : Program) (l : Launch) (e : Env) (R : Room) (s : State) (m : MethodId) (args : Array Value) (below : List Frame) (meth : Method) (c : Code) (H : Heap) (locs : List Loc) (cells slots : Nat) (Q : State → Prop) (g : JFrame) (q : Addr) : Prop :=
  ∀ T : State, T.heap = H → Stand p l e R s m args below meth c T locs cells slots → ∃ t, Steps p.tables e below ((T.setTop g).pushFrame (.throwing q)) t ∧ Q t
def vx_Run (p : Program) (l : Launch) (e : Env) (R : Room) (s : State) (m : MethodId) (args : Array Value) (below : List Frame) (meth : Method) (c : Code) (H : Heap) (locs : List Loc) (cells slots mc ms : Nat) (g : JFrame) (rest : List Value) (Qa : State → Outcome → State → Prop) (XC : String → State → State → Prop) (free : Addr → Prop) : Prop :=
  ∀ T : State, T.heap = H → Stand p l e R s m args below meth c T locs cells slots →
    (∃ (v : Option Value) (st₀ t T' : State) (L : List Loc), st₀.heap = H ∧ Stand p l e R s m args below meth c T' (locs ++ L) (cells + mc) (slots + ms) ∧ (∀ q ∈ L, free q.base) ∧ T'.heap = t.heap ∧ T'.vm = t.vm ∧ Qa st₀ (.returned v) t ∧
      Goes p e below T g T' { g with pc := g.pc + 3, stack := v.toList ++ rest }) ∨
    (∃ (q : Addr) (st₀ t T' : State) (L : List Loc) (E : String) (ce : Cell), st₀.heap = H ∧ Stand p l e R s m args below meth c T' (locs ++ L) (cells + mc) (slots + ms) ∧ (∀ z ∈ L, free z.base) ∧ T'.heap = t.heap ∧ T'.vm = t.vm ∧ XC E st₀ t ∧ t.heap[q]? = some ce ∧ ce.vm = .none ∧ s.vm.findClass E = some ce.cls ∧
      Steps p.tables e below (T.setTop g) ((T'.setTop { g with stack := rest }).pushFrame (.throwing q)))
def vx_X {S : Type} (px : S → Prop) (B : String → S → State → Prop) (A : Nat → Prop) : String → State → State → Prop := fun E st t => ∃ u : S, px u ∧ B E u t ∧ va_F A st t
section Runs
variable {p : Program} {l : Launch} {e : Env} {R : Room} {s : State} {m : MethodId} {args : Array Value} {below : List Frame} {meth : Method} {c : Code} {H : Heap} {locs : List Loc} {cells slots : Nat}
variable {y : MethodName} {bytes cc : ByteArray} {maxL nL mc ms n index : Nat} {ret : Option FieldType} {ws : List Cond} {rm : Room} {Pc : Array Value → State → Prop} {Qc : Array Value → State → Outcome → State → Prop} {XC : String → State → State → Prop} {free : Addr → Prop} {Ts : List Cond} {own C : String} {b : Addr} {As rest : List Value} {g : JFrame}
theorem vx_callBack (cb : CallB R s args own index y bytes maxL ret ws rm mc ms n) (hM : vx_Met l y ws rm Pc Qc XC mc ms free) (hbl : FrameBlind Pc) : vx_Back l R p e below s args y 3 8 (PreOf R mc ms Pc) (PostOf Qc mc ms free) (vx_Post XC mc ms free) := by
  obtain ⟨hrc, hrs, hfr, hlo, hws, hcw, -, hini, -⟩ := cb
  exact vx_back (bytes := bytes) (maxL := maxL) (ret := ret) hM hbl hrc hrs hfr hlo hws hcw (fun a' U hW => word_at hW (Or.inl (by first | rfl | simp [Cond.onTables, Cond.keeps, Cond.steady])) hini)
theorem vx_runV (S : CallFix p m c cc nL s args Ts own) (hM : vx_Met l y ws rm Pc Qc XC mc ms free) (cw : CallW R s args own C index y bytes maxL ret ws rm mc ms n) (hp : PreV s H C b Pc As)
    (hg : g.method = m) (hn : As.length = n) (hsize : g.locals.size = nL) (hstack : g.stack = As.reverse ++ .ref b :: rest) (hW : 2 * g.monitorRoom + (rest.map fun v => v.category).sum ≤ 8) (hdg : decode cc g.pc = .ok (.invokevirtual index, 3)) (hf : cells + mc ≤ R.cells ∧ slots + ms ≤ R.slots) :
    vx_Run p l e R s m args below meth c H locs cells slots mc ms g rest (Qc (Value.ref b :: As).toArray) XC free := by
  have hK : vx_Back l R p e below s args y 3 8 (PreOf R mc ms Pc) (PostOf Qc mc ms free) (vx_Post XC mc ms free) := vx_callBack cw.1 hM hp.1
  obtain ⟨⟨-, -, -, -, -, -, hcode, -, hy, hlen, hl⟩, hin, hse⟩ := cw
  obtain ⟨hx, hb, hml, ho, -⟩ := S
  obtain ⟨-, ⟨cellB, hcB, hoB, hclB⟩, hPc⟩ := hp
  intro T hT X
  rcases vx_callV X hx (C := C) (bytes := bytes) (maxL := maxL) (ret := ret) ho hl hin hse hcode hy hK (by rw [hT]; exact hcB) hoB hclB hg (hsize.trans hml.symm) (argsL := As) (rest := rest) (fun sig h => hn.trans (hlen sig h)) hstack hW (by rw [hb]; exact hdg)
    (fun vm₁ hW₁ => ⟨hf.1, hf.2, hPc (T.setVm vm₁) hT hW₁⟩) with ⟨v, vm₁, ⟨U', l2, c2, s2⟩, hW₁, X', ⟨g', mk, t, L, e1, e2, hq, h1, hL, h2, h3⟩, st⟩ | ⟨q, vm₁, ⟨U', l2, c2, s2⟩, hW₁, X', ⟨g', mk, t, L, E, ce, e1, e2, hq, hce, hcv, hcl, h1, hL, h2, h3⟩, st⟩
  · dsimp only [Pt.U, Pt.locs, Pt.cells, Pt.slots] at X' e1 e2 h1 h2 h3 st
    subst h1; subst h2; subst h3
    exact Or.inl ⟨v, (T.setVm vm₁).calling g' mk (Value.ref b :: As).toArray, t, U', L, hT, X', hL, e1, e2, hq, st⟩
  · dsimp only [Pt.U, Pt.locs, Pt.cells, Pt.slots] at X' e1 e2 h1 h2 h3 st hcl
    subst h1; subst h2; subst h3
    exact Or.inr ⟨q, (T.setVm vm₁).calling g' mk (Value.ref b :: As).toArray, t, U', L, E, ce, hT, X', hL, e1, e2, hq, hce, hcv, vx_cls hW₁ hcl, st⟩
theorem vx_runS (S : CallFix p m c cc nL s args Ts own) (hM : vx_Met l y ws rm Pc Qc XC mc ms free) (cw : CallB R s args own index y bytes maxL ret ws rm mc ms n ∧ (Cond.static y).before args s = true) (hp : PreS s H Pc As)
    (hg : g.method = m) (hn : As.length = n) (hsize : g.locals.size = nL) (hstack : g.stack = As.reverse ++ rest) (hW : 2 * g.monitorRoom + (rest.map fun v => v.category).sum ≤ 8) (hdg : decode cc g.pc = .ok (.invokestatic index, 3)) (hf : cells + mc ≤ R.cells ∧ slots + ms ≤ R.slots) :
    vx_Run p l e R s m args below meth c H locs cells slots mc ms g rest (Qc As.toArray) XC free := by
  have hK : vx_Back l R p e below s args y 3 8 (PreOf R mc ms Pc) (PostOf Qc mc ms free) (vx_Post XC mc ms free) := vx_callBack cw.1 hM hp.1
  obtain ⟨⟨-, -, -, -, -, -, hcode, hini, hy, hlen, hl⟩, hstt⟩ := cw
  obtain ⟨hx, hb, hml, ho, -⟩ := S
  intro T hT X
  rcases vx_callS X hx (bytes := bytes) (maxL := maxL) (ret := ret) ho hl hstt hini hcode hy hK hg (hsize.trans hml.symm) (argsL := As) (rest := rest) (fun sig h => hn.trans (hlen sig h)) hstack hW (by rw [hb]; exact hdg)
    (fun vm₁ hW₁ => ⟨hf.1, hf.2, hp.2 (T.setVm vm₁) hT hW₁⟩) with ⟨v, vm₁, ⟨U', l2, c2, s2⟩, hW₁, X', ⟨g', mk, t, L, e1, e2, hq, h1, hL, h2, h3⟩, st⟩ | ⟨q, vm₁, ⟨U', l2, c2, s2⟩, hW₁, X', ⟨g', mk, t, L, E, ce, e1, e2, hq, hce, hcv, hcl, h1, hL, h2, h3⟩, st⟩
  · dsimp only [Pt.U, Pt.locs, Pt.cells, Pt.slots] at X' e1 e2 h1 h2 h3 st
    subst h1; subst h2; subst h3
    exact Or.inl ⟨v, (T.setVm vm₁).calling g' mk As.toArray, t, U', L, hT, X', hL, e1, e2, hq, st⟩
  · dsimp only [Pt.U, Pt.locs, Pt.cells, Pt.slots] at X' e1 e2 h1 h2 h3 st hcl
    subst h1; subst h2; subst h3
    exact Or.inr ⟨q, (T.setVm vm₁).calling g' mk As.toArray, t, U', L, E, ce, hT, X', hL, e1, e2, hq, hce, hcv, vx_cls hW₁ hcl, st⟩
end Runs
section Rows
variable {p : Program} {l : Launch} {e : Env} {R : Room} {s : State} {m : MethodId} {args : Array Value} {below : List Frame} {meth : Method} {c : Code} {H : Heap} {locs : List Loc} {cells slots : Nat} {Q : State → Prop}
variable {mc ms : Nat} {free : Addr → Prop} {A0 A1 : Nat → Prop} {H0 : Heap} {a : Array Value} {pc : Nat} {ls : Array Slot} {st0 rest : List Value}
theorem vx_keep {st₀ t T' : State} {L : List Loc} (h0 : st₀.heap = H) (e1 : T'.heap = t.heap) (hS : va_S A0 H0 H locs) (hA : ∀ q, q < H.size → A1 q → A0 q) (hf : ∀ q, free q → A0 q) (hL : ∀ q ∈ L, free q.base) (hF : va_F A1 st₀ t) :
    H.size ≤ T'.heap.size ∧ (∀ q : Nat, q < H.size → ¬ A1 q → T'.heap[q]? = H[q]?) ∧ va_S A0 H0 T'.heap (locs ++ L) := by
  obtain ⟨hz, hk⟩ := hF
  rw [h0] at hz hk
  exact ⟨by rw [e1]; exact hz, fun q h1 h2 => by rw [e1]; exact hk q h1 h2,
    ⟨Nat.le_trans hS.1 (by rw [e1]; exact hz), fun q h1 h2 => by rw [e1, hk q (Nat.lt_of_lt_of_le h1 hS.1) (fun z => h2 (hA q (Nat.lt_of_lt_of_le h1 hS.1) z))]; exact hS.2.1 q h1 h2, fun q hq => by
      rcases List.mem_append.mp hq with h | h
      · exact hS.2.2 q h
      · exact hf _ (hL q h)⟩⟩
theorem vx_calli {S SX : Type} {post : Int32 → S → Prop} {px : SX → Prop} {B : S → State → Prop} {BX : String → SX → State → Prop} {AX : Nat → Prop} (hr : vx_Run p l e R s m args below meth c H locs cells slots mc ms (F0 m pc ls st0) rest (va_Qi post B A1 a) (vx_X px BX AX) free) (hS : va_S A0 H0 H locs) (hA : ∀ q, q < H.size → A1 q → A0 q) (hf : ∀ q, free q → A0 q) (hAX : ∀ q, q < H.size → AX q → A0 q)
    (kx : ∀ (E : String) (ce : Cell) (q9 : Addr) (u : SX) (t : State) (H1 : Heap) (locs1 : List Loc), t.heap = H1 → s.vm.Alike t.vm → px u → BX E u t → H.size ≤ H1.size → (∀ q : Nat, q < H.size → ¬ AX q → H1[q]? = H[q]?) → va_S A0 H0 H1 locs1 → H1[q9]? = some ce → ce.vm = .none → s.vm.findClass E = some ce.cls → vx_W p l e R s m args below meth c H1 locs1 (cells + mc) (slots + ms) Q (F0 m pc ls rest) q9)
    (kk : ∀ (r : Int32) (u : S) (t : State) (H1 : Heap) (locs1 : List Loc), t.heap = H1 → s.vm.Alike t.vm → post r u → B u t → H.size ≤ H1.size → (∀ q : Nat, q < H.size → ¬ A1 q → H1[q]? = H[q]?) → va_S A0 H0 H1 locs1 → W p l e R s m args below meth c H1 locs1 (cells + mc) (slots + ms) Q (F0 m (pc + 3) ls (.int r :: rest))) : W p l e R s m args below meth c H locs cells slots Q (F0 m pc ls st0) := by
  intro T hT X
  rcases hr T hT X with ⟨v, st₀, t, T', L, h0, X', hL, e1, e2, ⟨⟨r, u, hv, hp, hb⟩, hF⟩, st⟩ | ⟨q, st₀, t, T', L, E, ce, h0, X', hL, e1, e2, ⟨u, hp, hb, hF⟩, hce, hcv, hcl, st⟩
  · cases hv
    obtain ⟨k1, k2, k3⟩ := vx_keep h0 e1 hS hA hf hL hF
    obtain ⟨t2, a1, b1⟩ := kk r u t T'.heap (locs ++ L) e1.symm (by rw [← e2]; exact X'.warmed.alike) hp hb k1 k2 k3 T' rfl X'
    exact ⟨t2, st t2 a1, b1⟩
  · obtain ⟨k1, k2, k3⟩ := vx_keep h0 e1 hS hAX hf hL hF
    obtain ⟨t2, a1, b1⟩ := kx E ce q u t T'.heap (locs ++ L) e1.symm (by rw [← e2]; exact X'.warmed.alike) hp hb k1 k2 k3 (by rw [e1]; exact hce) hcv hcl T' rfl X'
    exact ⟨t2, st.trans a1, b1⟩
theorem vx_calll {S SX : Type} {post : Int64 → S → Prop} {px : SX → Prop} {B : S → State → Prop} {BX : String → SX → State → Prop} {AX : Nat → Prop} (hr : vx_Run p l e R s m args below meth c H locs cells slots mc ms (F0 m pc ls st0) rest (va_Ql post B A1 a) (vx_X px BX AX) free) (hS : va_S A0 H0 H locs) (hA : ∀ q, q < H.size → A1 q → A0 q) (hf : ∀ q, free q → A0 q) (hAX : ∀ q, q < H.size → AX q → A0 q)
    (kx : ∀ (E : String) (ce : Cell) (q9 : Addr) (u : SX) (t : State) (H1 : Heap) (locs1 : List Loc), t.heap = H1 → s.vm.Alike t.vm → px u → BX E u t → H.size ≤ H1.size → (∀ q : Nat, q < H.size → ¬ AX q → H1[q]? = H[q]?) → va_S A0 H0 H1 locs1 → H1[q9]? = some ce → ce.vm = .none → s.vm.findClass E = some ce.cls → vx_W p l e R s m args below meth c H1 locs1 (cells + mc) (slots + ms) Q (F0 m pc ls rest) q9)
    (kk : ∀ (r : Int64) (u : S) (t : State) (H1 : Heap) (locs1 : List Loc), t.heap = H1 → s.vm.Alike t.vm → post r u → B u t → H.size ≤ H1.size → (∀ q : Nat, q < H.size → ¬ A1 q → H1[q]? = H[q]?) → va_S A0 H0 H1 locs1 → W p l e R s m args below meth c H1 locs1 (cells + mc) (slots + ms) Q (F0 m (pc + 3) ls (.long r :: rest))) : W p l e R s m args below meth c H locs cells slots Q (F0 m pc ls st0) := by
  intro T hT X
  rcases hr T hT X with ⟨v, st₀, t, T', L, h0, X', hL, e1, e2, ⟨⟨r, u, hv, hp, hb⟩, hF⟩, st⟩ | ⟨q, st₀, t, T', L, E, ce, h0, X', hL, e1, e2, ⟨u, hp, hb, hF⟩, hce, hcv, hcl, st⟩
  · cases hv
    obtain ⟨k1, k2, k3⟩ := vx_keep h0 e1 hS hA hf hL hF
    obtain ⟨t2, a1, b1⟩ := kk r u t T'.heap (locs ++ L) e1.symm (by rw [← e2]; exact X'.warmed.alike) hp hb k1 k2 k3 T' rfl X'
    exact ⟨t2, st t2 a1, b1⟩
  · obtain ⟨k1, k2, k3⟩ := vx_keep h0 e1 hS hAX hf hL hF
    obtain ⟨t2, a1, b1⟩ := kx E ce q u t T'.heap (locs ++ L) e1.symm (by rw [← e2]; exact X'.warmed.alike) hp hb k1 k2 k3 (by rw [e1]; exact hce) hcv hcl T' rfl X'
    exact ⟨t2, st.trans a1, b1⟩
theorem vx_callf {S SX : Type} {post : UInt32 → S → Prop} {px : SX → Prop} {B : S → State → Prop} {BX : String → SX → State → Prop} {AX : Nat → Prop} (hr : vx_Run p l e R s m args below meth c H locs cells slots mc ms (F0 m pc ls st0) rest (va_Qf post B A1 a) (vx_X px BX AX) free) (hS : va_S A0 H0 H locs) (hA : ∀ q, q < H.size → A1 q → A0 q) (hf : ∀ q, free q → A0 q) (hAX : ∀ q, q < H.size → AX q → A0 q)
    (kx : ∀ (E : String) (ce : Cell) (q9 : Addr) (u : SX) (t : State) (H1 : Heap) (locs1 : List Loc), t.heap = H1 → s.vm.Alike t.vm → px u → BX E u t → H.size ≤ H1.size → (∀ q : Nat, q < H.size → ¬ AX q → H1[q]? = H[q]?) → va_S A0 H0 H1 locs1 → H1[q9]? = some ce → ce.vm = .none → s.vm.findClass E = some ce.cls → vx_W p l e R s m args below meth c H1 locs1 (cells + mc) (slots + ms) Q (F0 m pc ls rest) q9)
    (kk : ∀ (r : UInt32) (u : S) (t : State) (H1 : Heap) (locs1 : List Loc), t.heap = H1 → s.vm.Alike t.vm → post r u → B u t → H.size ≤ H1.size → (∀ q : Nat, q < H.size → ¬ A1 q → H1[q]? = H[q]?) → va_S A0 H0 H1 locs1 → W p l e R s m args below meth c H1 locs1 (cells + mc) (slots + ms) Q (F0 m (pc + 3) ls (.float r :: rest))) : W p l e R s m args below meth c H locs cells slots Q (F0 m pc ls st0) := by
  intro T hT X
  rcases hr T hT X with ⟨v, st₀, t, T', L, h0, X', hL, e1, e2, ⟨⟨r, u, hv, hp, hb⟩, hF⟩, st⟩ | ⟨q, st₀, t, T', L, E, ce, h0, X', hL, e1, e2, ⟨u, hp, hb, hF⟩, hce, hcv, hcl, st⟩
  · cases hv
    obtain ⟨k1, k2, k3⟩ := vx_keep h0 e1 hS hA hf hL hF
    obtain ⟨t2, a1, b1⟩ := kk r u t T'.heap (locs ++ L) e1.symm (by rw [← e2]; exact X'.warmed.alike) hp hb k1 k2 k3 T' rfl X'
    exact ⟨t2, st t2 a1, b1⟩
  · obtain ⟨k1, k2, k3⟩ := vx_keep h0 e1 hS hAX hf hL hF
    obtain ⟨t2, a1, b1⟩ := kx E ce q u t T'.heap (locs ++ L) e1.symm (by rw [← e2]; exact X'.warmed.alike) hp hb k1 k2 k3 (by rw [e1]; exact hce) hcv hcl T' rfl X'
    exact ⟨t2, st.trans a1, b1⟩
theorem vx_calld {S SX : Type} {post : UInt64 → S → Prop} {px : SX → Prop} {B : S → State → Prop} {BX : String → SX → State → Prop} {AX : Nat → Prop} (hr : vx_Run p l e R s m args below meth c H locs cells slots mc ms (F0 m pc ls st0) rest (va_Qd post B A1 a) (vx_X px BX AX) free) (hS : va_S A0 H0 H locs) (hA : ∀ q, q < H.size → A1 q → A0 q) (hf : ∀ q, free q → A0 q) (hAX : ∀ q, q < H.size → AX q → A0 q)
    (kx : ∀ (E : String) (ce : Cell) (q9 : Addr) (u : SX) (t : State) (H1 : Heap) (locs1 : List Loc), t.heap = H1 → s.vm.Alike t.vm → px u → BX E u t → H.size ≤ H1.size → (∀ q : Nat, q < H.size → ¬ AX q → H1[q]? = H[q]?) → va_S A0 H0 H1 locs1 → H1[q9]? = some ce → ce.vm = .none → s.vm.findClass E = some ce.cls → vx_W p l e R s m args below meth c H1 locs1 (cells + mc) (slots + ms) Q (F0 m pc ls rest) q9)
    (kk : ∀ (r : UInt64) (u : S) (t : State) (H1 : Heap) (locs1 : List Loc), t.heap = H1 → s.vm.Alike t.vm → post r u → B u t → H.size ≤ H1.size → (∀ q : Nat, q < H.size → ¬ A1 q → H1[q]? = H[q]?) → va_S A0 H0 H1 locs1 → W p l e R s m args below meth c H1 locs1 (cells + mc) (slots + ms) Q (F0 m (pc + 3) ls (.double r :: rest))) : W p l e R s m args below meth c H locs cells slots Q (F0 m pc ls st0) := by
  intro T hT X
  rcases hr T hT X with ⟨v, st₀, t, T', L, h0, X', hL, e1, e2, ⟨⟨r, u, hv, hp, hb⟩, hF⟩, st⟩ | ⟨q, st₀, t, T', L, E, ce, h0, X', hL, e1, e2, ⟨u, hp, hb, hF⟩, hce, hcv, hcl, st⟩
  · cases hv
    obtain ⟨k1, k2, k3⟩ := vx_keep h0 e1 hS hA hf hL hF
    obtain ⟨t2, a1, b1⟩ := kk r u t T'.heap (locs ++ L) e1.symm (by rw [← e2]; exact X'.warmed.alike) hp hb k1 k2 k3 T' rfl X'
    exact ⟨t2, st t2 a1, b1⟩
  · obtain ⟨k1, k2, k3⟩ := vx_keep h0 e1 hS hAX hf hL hF
    obtain ⟨t2, a1, b1⟩ := kx E ce q u t T'.heap (locs ++ L) e1.symm (by rw [← e2]; exact X'.warmed.alike) hp hb k1 k2 k3 (by rw [e1]; exact hce) hcv hcl T' rfl X'
    exact ⟨t2, st.trans a1, b1⟩
theorem vx_callv {S SX : Type} {post : S → Prop} {px : SX → Prop} {B : S → State → Prop} {BX : String → SX → State → Prop} {AX : Nat → Prop} (hr : vx_Run p l e R s m args below meth c H locs cells slots mc ms (F0 m pc ls st0) rest (va_Qv post B A1 a) (vx_X px BX AX) free) (hS : va_S A0 H0 H locs) (hA : ∀ q, q < H.size → A1 q → A0 q) (hf : ∀ q, free q → A0 q) (hAX : ∀ q, q < H.size → AX q → A0 q)
    (kx : ∀ (E : String) (ce : Cell) (q9 : Addr) (u : SX) (t : State) (H1 : Heap) (locs1 : List Loc), t.heap = H1 → s.vm.Alike t.vm → px u → BX E u t → H.size ≤ H1.size → (∀ q : Nat, q < H.size → ¬ AX q → H1[q]? = H[q]?) → va_S A0 H0 H1 locs1 → H1[q9]? = some ce → ce.vm = .none → s.vm.findClass E = some ce.cls → vx_W p l e R s m args below meth c H1 locs1 (cells + mc) (slots + ms) Q (F0 m pc ls rest) q9)
    (kk : ∀ (u : S) (t : State) (H1 : Heap) (locs1 : List Loc), t.heap = H1 → s.vm.Alike t.vm → post u → B u t → H.size ≤ H1.size → (∀ q : Nat, q < H.size → ¬ A1 q → H1[q]? = H[q]?) → va_S A0 H0 H1 locs1 → W p l e R s m args below meth c H1 locs1 (cells + mc) (slots + ms) Q (F0 m (pc + 3) ls (rest))) : W p l e R s m args below meth c H locs cells slots Q (F0 m pc ls st0) := by
  intro T hT X
  rcases hr T hT X with ⟨v, st₀, t, T', L, h0, X', hL, e1, e2, ⟨⟨u, hv, hp, hb⟩, hF⟩, st⟩ | ⟨q, st₀, t, T', L, E, ce, h0, X', hL, e1, e2, ⟨u, hp, hb, hF⟩, hce, hcv, hcl, st⟩
  · cases hv
    obtain ⟨k1, k2, k3⟩ := vx_keep h0 e1 hS hA hf hL hF
    obtain ⟨t2, a1, b1⟩ := kk u t T'.heap (locs ++ L) e1.symm (by rw [← e2]; exact X'.warmed.alike) hp hb k1 k2 k3 T' rfl X'
    exact ⟨t2, st t2 a1, b1⟩
  · obtain ⟨k1, k2, k3⟩ := vx_keep h0 e1 hS hAX hf hL hF
    obtain ⟨t2, a1, b1⟩ := kx E ce q u t T'.heap (locs ++ L) e1.symm (by rw [← e2]; exact X'.warmed.alike) hp hb k1 k2 k3 (by rw [e1]; exact hce) hcv hcl T' rfl X'
    exact ⟨t2, st.trans a1, b1⟩
/-- caught by the row x of this method's table; the rows ahead don't take it -/
theorem vx_catch {own name : String} {E : String} {ce : Cell} {q : Addr} (hown : s.vm.findClass own = some m.cls) (pre : List ExceptionTableEntry) (x : ExceptionTableEntry) (suf : List ExceptionTableEntry) (hsplit : c.exceptionTable.toList = pre ++ x :: suf)
    (hpass : ∀ z ∈ pre, covers z pc = false ∨ (z.catchType ≠ 0 ∧ ∃ nm : String, (Cond.classLink own z.catchType nm).before args s = true ∧ va_Nc E nm s)) (hx : covers x pc = true) (h0 : x.catchType ≠ 0)
    (hlink : (Cond.classLink own x.catchType name).before args s = true) (hcast : (Cond.castable E name).before args s = true) (hcell : H[q]? = some ce) (hv : ce.vm = .none) (hcl : s.vm.findClass E = some ce.cls)
    (kk : W p l e R s m args below meth c H locs cells slots Q (F0 m x.handlerPc ls [.ref q])) : vx_W p l e R s m args below meth c H locs cells slots Q (F0 m pc ls rest) q := by
  intro T hT X
  have hpl : e.platform.magicAccessors = ({} : Platform).magicAccessors := by rw [X.admits.platform]
  obtain ⟨c3, c4, hc3, hc4, hasg⟩ := Cond.castable_spec hcast
  cases Option.some.inj (hc3.symm.trans hcl)
  obtain ⟨c5, hc5, hcl5⟩ := Cond.classLink_spec hown hlink e.platform hpl
  cases Option.some.inj (hc4.symm.trans hc5)
  obtain ⟨vm', X', st⟩ := X.thenCaughtThrough q (g := F0 m pc ls rest) rfl (Steps.refl _) (by rw [hT]; exact hcell) (by rw [hv]; rfl) (by obtain ⟨k9, h9, -⟩ := Vm.findClass_spec hcl; exact ⟨k9, h9⟩) pre x suf hsplit
    (fun z hz => by
      rcases hpass z hz with h | ⟨hz0, nm, hl1, hn1⟩
      · exact Or.inl h
      · obtain ⟨c6, hc6, hcl6⟩ := Cond.classLink_spec hown hl1 e.platform hpl
        obtain ⟨a8, b8, h1, h2, h3⟩ := hn1
        cases Option.some.inj (h1.symm.trans hcl)
        cases Option.some.inj (h2.symm.trans hc6)
        exact Or.inr ⟨hz0, _, hcl6, h3⟩) hx (Or.inr ⟨h0, c4, hcl5, hasg⟩)
  obtain ⟨t, a1, b1⟩ := kk (T.setVm vm') hT X'
  exact ⟨t, st.trans a1, b1⟩
end Rows
section Ends
variable {p : Program} {l : Launch} {e : Env} {R : Room} {s : State} {m : MethodId} {args : Array Value} {below : List Frame} {meth : Method} {c : Code} {H : Heap} {locs : List Loc} {cells slots : Nat} {Q : State → Prop}
variable {mc ms : Nat} {free : Addr → Prop} {A0 A1 : Nat → Prop} {H0 : Heap} {a : Array Value} {ls : Array Slot} {st0 rest : List Value}
variable {Qc : Array Value → State → Outcome → State → Prop} {XC : String → State → State → Prop}
/-- what a body that may throw owes at its end -/
def vx_MQ (below : List Frame) (Qc : Array Value → State → Outcome → State → Prop) (XC : String → State → State → Prop) (a : Array Value) (s : State) (mc ms : Nat) (free : Addr → Prop) : State → Prop := fun t =>
  ∃ o, t.status = .running ∧ Ended t below o ∧ vx_Q Qc XC mc ms free a s o t
theorem vx_ret {g : JFrame} {mc ms : Nat} (k : W p l e R s m args below meth c H locs cells slots (MQ below Qc args s mc ms free) g) : W p l e R s m args below meth c H locs cells slots (vx_MQ below Qc XC args s mc ms free) g := by
  intro T hT X
  obtain ⟨t, a1, o, b1, b2, b3, b4⟩ := k T hT X
  exact ⟨t, a1, o, b1, b2, Or.inl ⟨b3, b4⟩⟩
/-- not caught here: it goes on to the caller -/
theorem vx_widen {g : JFrame} {q : Addr} {k n : Nat} (h1 : cells ≤ k) (h2 : slots ≤ n) (kk : vx_W p l e R s m args below meth c H locs k n Q g q) : vx_W p l e R s m args below meth c H locs cells slots Q g q := fun T hT X => kk T hT (stand_widen X h1 h2)
theorem vx_out {pc : Nat} {E : String} {ce : Cell} {q : Addr} {mc ms : Nat} (hout : ∀ x ∈ c.exceptionTable.toList, covers x pc = false) (hlocks : meth.locks = false) (hcell : H[q]? = some ce) (hv : ce.vm = .none) (hcl : s.vm.findClass E = some ce.cls)
    (hx : ∀ t : State, t.heap = H → s.vm.Alike t.vm → XC E s t) (hf : ∀ z ∈ locs, free z.base) (hc : cells ≤ mc) (hs : slots ≤ ms) :
    vx_W p l e R s m args below meth c H locs cells slots (vx_MQ below Qc XC args s mc ms free) (F0 m pc ls rest) q := by
  intro T hT X
  obtain ⟨st1, hrun, hend, hW, hsm⟩ := X.leaveThrown q (g := F0 m pc ls rest) rfl rfl rfl hout hlocks
  have hcell9 : (T.setFrames (.throwing q :: below)).heap[q]? = some ce := by
    show T.heap[q]? = some ce
    rw [hT]; exact hcell
  exact ⟨_, st1, .threw q, hrun, hend, Or.inr ⟨q, rfl, E, ce, locs, hx _ hT hW.alike, hcell9, hv, hcl, hW, hsm.mono hc hs, hf⟩⟩
theorem vx_frame {U : State} {k n : Nat} (h : s.sameButNew ({ U with vm := s.vm } : State) locs k n) : s.heap.size ≤ U.heap.size ∧ ∀ q : Nat, q < s.heap.size → (∀ z ∈ locs, z.base ≠ q) → U.heap[q]? = s.heap[q]? := by
  obtain ⟨-, h2, -, -, -, h6⟩ := h
  refine ⟨h2, fun q hq hz => ?_⟩
  obtain ⟨c9, e1, e2, e3, e4⟩ := h6 q _ (Array.getElem?_eq_getElem hq)
  have hs : c9.slots = (s.heap[q]).slots := Array.ext_getElem? fun i => e4 i fun hm => hz _ hm rfl
  have h9 : c9 = s.heap[q] := by
    rw [hs] at e2
    exact e2
  have e5 : U.heap[q]? = some c9 := e1
  rw [e5, h9, Array.getElem?_eq_getElem hq]
/-- the words of a throw but the four that speak of the heap -/
def vx_no (w : Cond) : Bool := decide (w ≠ .isRef (.static Bundle.tN "UNASSIGNED_STACK" Bundle.steD)) && decide (w ≠ .isRef (.static Bundle.tN "SUPPRESSED_SENTINEL" Bundle.listD)) && decide (w ≠ .laysStatic Bundle.tN "UNASSIGNED_STACK" Bundle.steD) && decide (w ≠ .laysStatic Bundle.tN "SUPPRESSED_SENTINEL" Bundle.listD)
def vx_at0 (own : String) (ic : Nat) (X : String) (names : List String) : List Cond := (Bundle.ownAtoms0 own ic X names).filter vx_no
def vx_atS (own : String) (ic : Nat) (X : String) (names : List String) : List Cond := (Bundle.ownAtoms own ic X names).filter vx_no
/-- a word that the tables alone decide, or a good one -/
def vx_ot (w : Cond) : Bool := w.onTables || goodWord w
theorem vx_ot_at {args a' : Array Value} {s U : State} {w : Cond} (hW : s.WarmedH U.vm) (hvm : s.vm = U.vm) (hg : vx_ot w = true) (h : w.before args s = true) : w.before a' U = true := by
  simp only [vx_ot, Bool.or_eq_true] at hg
  rcases hg with hg | hg
  · exact va_tabs hg hvm h
  · exact word_at hW (good_of_word hg) h
/-- a list's words: the good ones out of the method's own list, the others by premises of their own -/
theorem vx_hat {args : Array Value} {s : State} {L B : List Cond} (h1 : ∀ w ∈ L.filter goodWord, w.before args s = true) (h2 : ∀ w ∈ L.filter (fun w => !goodWord w), w ∈ B) (h3 : ∀ w ∈ B, w.before args s = true) : ∀ w ∈ L, w.before args s = true := by
  intro w hw
  by_cases g : goodWord w = true
  · exact h1 w (List.mem_filter.mpr ⟨hw, g⟩)
  · refine h3 w (h2 w (List.mem_filter.mpr ⟨hw, ?_⟩))
    show (!goodWord w) = true
    cases hgw : goodWord w
    · rfl
    · exact absurd hgw g
theorem vx_c {args : Array Value} {s : State} {w : Cond} {B : List Cond} (h : w.before args s = true) (t : ∀ w ∈ B, w.before args s = true) : ∀ w' ∈ w :: B, w'.before args s = true := fun w' h' => (List.mem_cons.mp h').elim (fun e => by rw [e]; exact h) (t w')
theorem vx_n {args : Array Value} {s : State} : ∀ w ∈ ([] : List Cond), w.before args s = true := fun _ h => nomatch h
theorem vx_own {args : Array Value} {s : State} {L : List Cond} (h1 : ∀ w ∈ L.filter vx_no, w.before args s = true)
    (hU : (Cond.isRef (.static Bundle.tN "UNASSIGNED_STACK" Bundle.steD)).before args s = true) (hN : (Cond.isRef (.static Bundle.tN "SUPPRESSED_SENTINEL" Bundle.listD)).before args s = true)
    (lU : (Cond.laysStatic Bundle.tN "UNASSIGNED_STACK" Bundle.steD).before args s = true) (lN : (Cond.laysStatic Bundle.tN "SUPPRESSED_SENTINEL" Bundle.listD).before args s = true) : ∀ w ∈ L, w.before args s = true := by
  intro w hw
  by_cases e1 : w = .isRef (.static Bundle.tN "UNASSIGNED_STACK" Bundle.steD)
  · rw [e1]; exact hU
  · by_cases e2 : w = .isRef (.static Bundle.tN "SUPPRESSED_SENTINEL" Bundle.listD)
    · rw [e2]; exact hN
    · by_cases e3 : w = .laysStatic Bundle.tN "UNASSIGNED_STACK" Bundle.steD
      · rw [e3]; exact lU
      · by_cases e4 : w = .laysStatic Bundle.tN "SUPPRESSED_SENTINEL" Bundle.listD
        · rw [e4]; exact lN
        · exact h1 w (List.mem_filter.mpr ⟨hw, by unfold vx_no; rw [decide_eq_true e1, decide_eq_true e2, decide_eq_true e3, decide_eq_true e4]; rfl⟩)
/-- where a static field lies, its class's statics cell in H -/
def vx_L (C n d : String) (A : Nat → Prop) (U : State) (H : Heap) : Prop := ∃ (c : ClassId) (k : Class) (i : Nat) (f : Field) (a : Nat) (cell : Cell), U.vm.findClass C = some c ∧ U.fieldFound? C n d = some (c, k, i, f) ∧ f.isStatic = true ∧ k.statics = some a ∧ H[a]? = some cell ∧ cell.vm.isStatics = true ∧ cell.cls = c ∧ f.slot < cell.slots.size ∧ k.staticTypes[f.slot]? = some f.type ∧ ¬ A a
theorem vx_L.moved {C n d : String} {A : Nat → Prop} {u U : State} {H : Heap} (hvm : u.vm.Alike U.vm) (h : vx_L C n d A u H) : vx_L C n d A U H := by
  obtain ⟨c, k, i, f, a, cell, h1, h2, h3, h4, h5, h6, h7, h8, h9, h10⟩ := h
  obtain ⟨k', hi', he⟩ := State.fieldFound?_setVm hvm h2
  exact ⟨c, k', i, f, a, cell, by rw [hvm.findClass]; exact h1, hi', h3, by rw [he]; exact h4, h5, h6, h7, h8, by rw [he]; exact h9, h10⟩
theorem vx_L.kept {C n d : String} {A : Nat → Prop} {U : State} {H H1 : Heap} (h : vx_L C n d A U H) (hq : ∀ a : Nat, a < H.size → ¬ A a → H1[a]? = H[a]?) : vx_L C n d A U H1 := by
  obtain ⟨c, k, i, f, a, cell, h1, h2, h3, h4, h5, h6, h7, h8, h9, h10⟩ := h
  exact ⟨c, k, i, f, a, cell, h1, h2, h3, h4, by rw [hq a (Array.getElem?_eq_some_iff.mp h5).1 h10]; exact h5, h6, h7, h8, h9, h10⟩
theorem vx_L.narrow {C n d : String} {A B : Nat → Prop} {U : State} {H : Heap} (h : vx_L C n d A U H) (hAB : ∀ q, B q → A q) : vx_L C n d B U H := by
  obtain ⟨c, k, i, f, a, cell, h1, h2, h3, h4, h5, h6, h7, h8, h9, h10⟩ := h
  exact ⟨c, k, i, f, a, cell, h1, h2, h3, h4, h5, h6, h7, h8, h9, fun z => h10 (hAB _ z)⟩
theorem vx_L.word {C n d : String} {A : Nat → Prop} {s : State} {args : Array Value} (h : vx_L C n d A s s.heap) : (Cond.laysStatic C n d).before args s = true := by
  obtain ⟨c, k, i, f, a, cell, h1, h2, h3, h4, h5, h6, h7, h8, h9, -⟩ := h
  show (Cond.laysStatic C n d).holds args s none s [] = true
  exact Cond.laysStatic_of h1 h2 h3 h4 h5 h6 h7 h8 h9
/-- .. and what it holds: null or some reference -/
def vx_Zq (C n d : String) (A : Nat → Prop) (U : State) (H : Heap) : Prop := va_Zq C n d A U H ∧ vx_L C n d A U H
theorem vx_Zq.moved {C n d : String} {A : Nat → Prop} {u U : State} {H : Heap} (hvm : u.vm.Alike U.vm) (h : vx_Zq C n d A u H) : vx_Zq C n d A U H := ⟨va_Zq.moved hvm h.1, vx_L.moved hvm h.2⟩
theorem vx_Zq.kept {C n d : String} {A : Nat → Prop} {U : State} {H H1 : Heap} (h : vx_Zq C n d A U H) (hq : ∀ a : Nat, a < H.size → ¬ A a → H1[a]? = H[a]?) : vx_Zq C n d A U H1 := ⟨va_Zq.kept h.1 hq, vx_L.kept h.2 hq⟩
theorem vx_Zq.narrow {C n d : String} {A B : Nat → Prop} {U : State} {H : Heap} (h : vx_Zq C n d A U H) (hAB : ∀ q, B q → A q) : vx_Zq C n d B U H := ⟨va_Zq.narrow h.1 hAB, vx_L.narrow h.2 hAB⟩
theorem vx_Zqof {args : Array Value} {s : State} {C n d : String} {A : Nat → Prop} (hl : (Cond.laysStatic C n d).before args s = true) (hini : (Cond.initialized C).before args s = true) (h : (Cond.isRef (.static C n d)).before args s = true) (hA : ∀ a : Nat, a < s.heap.size → ¬ A a) : vx_Zq C n d A s s.heap := by
  refine ⟨va_Zqof hl hini h hA, ?_⟩
  obtain ⟨c, k, i, f, a, cell, h1, h2, h3, h4, h5, h6, h7, h8, h9⟩ := Cond.laysStatic_spec hl
  exact ⟨c, k, i, f, a, cell, h1, h2, h3, h4, h5, h6, h7, h8, h9, hA a (Array.getElem?_eq_some_iff.mp h5).1⟩
theorem vx_isRef {C n d : String} {v : Value} {A : Nat → Prop} {s : State} {args : Array Value} (h : va_Z C n d v A s s.heap) (hv : v.isRef = true) : (Cond.isRef (.static C n d)).before args s = true := by
  obtain ⟨cf, kf, fi, f, a, cell, h1, h2, h3, h4, h5, h6, h7, -⟩ := h
  have he : (Term.static C n d).eval args s none [] s = some v := by
    simp [Term.eval, State.fieldNamed?, h1, h2, h4, h5, h6, h7]
  simp only [Cond.before, Cond.holds, Cond.value, he]
  cases v <;> simp_all [Value.isRef]
theorem vx_isRefq {C n d : String} {A : Nat → Prop} {s : State} {args : Array Value} (h : va_Zq C n d A s s.heap) : (Cond.isRef (.static C n d)).before args s = true := by
  rcases h with h | ⟨t, h⟩
  · exact vx_isRef h rfl
  · exact vx_isRef h rfl
/-- the same frame, seen from here: as if the method were called anew in this heap -/
theorem vx_rebase {T : State} (X : Stand p l e R s m args below meth c T locs cells slots) {R' : Room} (hf : R'.frames ≤ R.frames) (hl : R'.locals ≤ R.locals) (hc : cells + R'.cells ≤ R.cells) (hs : slots + R'.slots ≤ R.slots) :
    Stand p l e R' ((T.setVm s.vm).setFrames (.invoking m args :: below)) m args below meth c T [] 0 0 := by
  have htop : (T.setVm s.vm).topJava?.isSome := X.here.top
  have hF : ((T.setVm s.vm).setFrames (.invoking m args :: below)).frames = .invoking m args :: below := State.frames_setFrames _ (State.cur_lt_of_top htop)
  obtain ⟨g₀, hg0⟩ := Option.isSome_iff_exists.mp htop
  obtain ⟨r, hr⟩ := State.topJava?_eq_some.mp hg0
  have hl9 : e.platform.stackLimits (T.setVm s.vm).me = e.platform.stackLimits s.me := X.limits
  have hb9 : (T.setVm s.vm).me.stackBytes = s.me.stackBytes := X.bytes
  refine ⟨X.admits, X.cas, X.clock, hF, ?_, X.hears, X.method, X.code, X.here, X.tail, X.warmed, ?_, ?_, ?_⟩
  · have h := X.room
    have hU : ((T.setVm s.vm).setFrames (.invoking m args :: below)).localsInUse = s.localsInUse := by
      rw [State.localsInUse_invoking hF (meth := meth) (c := c) X.method X.code, State.localsInUse_invoking X.frames X.method X.code]
    simp only [State.hasRoom, Bool.and_eq_true, decide_eq_true_eq] at h ⊢
    obtain ⟨⟨⟨⟨h1, h2, h3, h4, h5, h6⟩, h7⟩, h8⟩, h9⟩ := h
    rw [X.frames, List.length_cons] at h2 h3
    have q1 := X.heapSize
    have q2 := X.used
    simp only [hF, hU, List.length_cons, State.stackLimits_setFrames, State.stackBytes_setFrames, hl9, hb9]
    refine ⟨⟨⟨⟨by omega, by omega, by omega, by omega, by omega, h6⟩, ?_⟩, ?_⟩, X.book⟩
    · show T.heap.size + R'.cells ≤ e.platform.maxCells
      omega
    · show T.slotsUsed + R'.slots ≤ e.platform.maxSlots
      omega
  · rw [State.stackLimits_setFrames]; rfl
  · rw [State.stackBytes_setFrames]; rfl
  · refine ⟨?_, Nat.le_refl _, Nat.le_refl _, ?_, ?_, fun a c9 h9 => ⟨c9, h9, rfl, rfl, fun _ _ => rfl⟩⟩
    · obtain ⟨t, ht, -⟩ := State.frames_cons hr
      show T.setVm s.vm = { ((T.setVm s.vm).setFrames (.invoking m args :: below)).setFrames (T.setVm s.vm).frames with heap := T.heap, slotsUsed := T.slotsUsed }
      rw [State.setFrames_setFrames, State.setFrames_self ht]
      rfl
    · show T.slotsUsed = T.slotsUsed + ((T.heap.toList.drop T.heap.size).map (·.slots.size)).sum
      rw [List.drop_eq_nil_of_le (Nat.le_of_eq Array.length_toList)]
      rfl
    · show ((T.heap.toList.drop T.heap.size).map (·.slots.size)).sum ≤ 0
      rw [List.drop_eq_nil_of_le (Nat.le_of_eq Array.length_toList)]
      exact Nat.le_refl _
/-- 'throw new E()': new; dup; invokespecial; athrow -/
theorem vx_throw0 {cc : ByteArray} {pc : Nat} (hexec : p.tables.exec = Jvm.exec) (hb : c.code = cc) (hl : l.stackTraces = false) {own cls : String} {names : List String} {ik ic mc ms : Nat} {A : Nat → Prop}
    (hown : s.vm.findClass own = some m.cls) (hcls : Bundle.fit cls = true) (hnames : ∀ n ∈ names, Bundle.fit n = true)
    (hk : (Cond.classLink own ik cls).before args s = true) (hini : (Cond.initialized cls).before args s = true) (hat : ∀ w ∈ vx_at0 own ic cls names, w.before args s = true)
    (hgood : ∀ w ∈ Cond.classLink own ik cls :: Cond.initialized cls :: vx_at0 own ic cls names, vx_ot w = true)
    (hU : vx_Zq Bundle.tN "UNASSIGNED_STACK" Bundle.steD A s s.heap) (hN : vx_Zq Bundle.tN "SUPPRESSED_SENTINEL" Bundle.listD A s s.heap) (hS : va_S A s.heap H locs) (hsize : ls.size = c.maxLocals)
    (d0 : decode cc pc = .ok (.new ik, 3)) (d3 : decode cc (pc + 3) = .ok (.dup, 1)) (d4 : decode cc (pc + 4) = .ok (.invokespecial ic, 3)) (d7 : decode cc (pc + 7) = .ok (.athrow, 1))
    (hout : ∀ x ∈ c.exceptionTable.toList, covers x (pc + 7) = false)
    (hRframes : names.length + 3 < R.frames) (hRlocals : (rest.map fun v => v.category).sum + (13 * (names.length + 1) + 42) ≤ R.locals) (hRcells : cells + 1 ≤ R.cells) (hRslots : slots + 6 ≤ R.slots) (hlocks : meth.locks = false)
    (hx : ∀ t : State, s.vm.Alike t.vm → H.size ≤ t.heap.size → (∀ q : Nat, q < H.size → t.heap[q]? = H[q]?) → XC cls s t)
    (hf : ∀ z ∈ locs, free z.base) (hc : cells + 1 ≤ mc) (hs : slots + 6 ≤ ms) :
    W p l e R s m args below meth c H locs cells slots (vx_MQ below Qc XC args s mc ms free) (F0 m pc ls rest) := by
  intro T hT X
  have htr : e.platform.stackTraces = false := (show e.platform.stackTraces = l.stackTraces by rw [X.admits.platform]).trans hl
  have Y := vx_rebase X (R' := { frames := R.frames, locals := R.locals, cells := 1, slots := 6 }) (Nat.le_refl _) (Nat.le_refl _) hRcells hRslots
  obtain ⟨s', hA⟩ : ∃ z, z = (T.setVm s.vm).setFrames (.invoking m args :: below) := ⟨_, rfl⟩
  rw [← hA] at Y
  have hvm : s'.vm = s.vm := by rw [hA]; rfl
  have hhp : s'.heap = H := by rw [hA]; exact hT
  have hW0 : s.WarmedH s'.vm := by rw [hvm]; exact State.WarmedH.refl s
  have hat' : ∀ w ∈ vx_at0 own ic cls names, w.before args s' = true := fun w hw => vx_ot_at hW0 hvm.symm (hgood w (List.mem_cons_of_mem _ (List.mem_cons_of_mem _ hw))) (hat w hw)
  have hk' : (Cond.classLink own ik cls).before args s' = true := vx_ot_at hW0 hvm.symm (hgood _ List.mem_cons_self) hk
  have hini' : (Cond.initialized cls).before args s' = true := vx_ot_at hW0 hvm.symm (hgood _ (List.mem_cons_of_mem _ List.mem_cons_self)) hini
  have hU' : vx_Zq Bundle.tN "UNASSIGNED_STACK" Bundle.steD A s' s'.heap := by rw [hhp]; exact vx_Zq.moved hW0.alike (hU.kept hS.2.1)
  have hN' : vx_Zq Bundle.tN "SUPPRESSED_SENTINEL" Bundle.listD A s' s'.heap := by rw [hhp]; exact vx_Zq.moved hW0.alike (hN.kept hS.2.1)
  have h : ∀ w ∈ Bundle.ownAtoms0 own ic cls names, w.before args s' = true := vx_own hat' (vx_isRefq hU'.1) (vx_isRefq hN'.1) hU'.2.word hN'.2.word
  have hown' : s'.vm.findClass own = some m.cls := by rw [hvm]; exact hown
  have hins : (Cond.instantiable cls 6).before args s' = true := h _ (by simp [Bundle.ownAtoms0])
  obtain ⟨vm₁, cX, kX, hfX, hkX, -, -, X₁, st1⟩ := Y.newCold hexec (own := own) (C := cls) (index := ik) (n := 6) hown' hk' hins hini'
    (g := F0 m pc ls rest) rfl (by rw [hb]; exact d0) (Nat.le_refl _) (Nat.le_refl _)
  generalize hT1 : (T.setVm vm₁).pushCell { cls := cX, slots := kX.instanceTypes.map defaultValue, vm := .none } = T1 at X₁ st1
  have hcat : (Value.ref T.heap.size).category = 1 := rfl
  have hcellA : T1.heap[T.heap.size]? = some (freshCell cX kX) := by rw [← hT1]; exact State.heap_pushCell_size _ _
  have d3' : decode c.code (pc + 3) = .ok (.dup, 1) := by rw [hb]; exact d3
  obtain ⟨U, hsteps, hrun, hend, hW, hsame, ce, hce, hO⟩ := X₁.ctorThrow0 hexec htr (own := own) (cls := cls) (names := names) (ic := ic) hown' hcls hnames h (fun x hx => nomatch hx) hfX hkX hcellA (by rw [hhp, hT]; exact Nat.le_refl _)
    (g := { method := m, pc := pc + 4, locals := ls, stack := .ref T.heap.size :: .ref T.heap.size :: rest, locked := none }) rfl hsize rfl rfl (rest := rest) rfl
    (by rw [hb]; exact d4) (by rw [hb]; exact d7) hout hRframes (by simp only [List.map_cons, List.sum_cons, hcat]; omega) hlocks
  obtain ⟨f1, f2⟩ := vx_frame hsame
  rw [hhp] at f1 f2
  have hWs : s.WarmedH U.vm := State.WarmedH.trans hW0 hW
  have hcl : s.vm.findClass cls = some ce.cls := by
    have h9 := hO.cls
    rw [hvm] at h9
    exact h9
  have hall : s.sameButNew ({ U with vm := s.vm } : State) locs mc ms := by
    subst hA
    obtain ⟨e1, e2⟩ := hsame
    rw [State.setFrames_setFrames] at e1
    have h2 : (T.setVm s.vm).sameButNew ({ U with vm := s.vm } : State) [] (0 + 1) (0 + 6) := ⟨e1, e2⟩
    have h3 := X.same.trans h2
    rw [List.append_nil] at h3
    exact h3.mono hc hs
  refine ⟨U, ?_, .threw T.heap.size, hrun, hend, Or.inr ⟨T.heap.size, rfl, cls, ce, locs, hx U hWs.alike f1 (fun q hq => f2 q hq (fun z hz => nomatch hz)), hce, hO.vm, hcl, hWs, hall, hf⟩⟩
  refine st1 _ ?_
  show Steps p.tables e below (T1.setTop { method := m, pc := pc + 3, locals := ls, stack := .ref T.heap.size :: rest, locked := none }) _
  jvm_step X₁.here [X₁.here.top, hexec, d3', Value.category]
  exact hsteps
/-- 'throw new E("text")': new; dup; ldc; invokespecial; athrow -/
theorem vx_throwS {cc : ByteArray} {pc : Nat} (hexec : p.tables.exec = Jvm.exec) (hb : c.code = cc) (hl : l.stackTraces = false) {own cls text : String} {names : List String} {ik is ic mc ms sa : Nat} {A : Nat → Prop}
    (hown : s.vm.findClass own = some m.cls) (hcls : Bundle.fit cls = true) (hnames : ∀ n ∈ names, Bundle.fit n = true)
    (hk : (Cond.classLink own ik cls).before args s = true) (hini : (Cond.initialized cls).before args s = true) (hstr : vk_R own is text sa s) (hat : ∀ w ∈ vx_atS own ic cls names, w.before args s = true)
    (hgood : ∀ w ∈ Cond.classLink own ik cls :: Cond.initialized cls :: vx_atS own ic cls names, vx_ot w = true)
    (hU : vx_Zq Bundle.tN "UNASSIGNED_STACK" Bundle.steD A s s.heap) (hN : vx_Zq Bundle.tN "SUPPRESSED_SENTINEL" Bundle.listD A s s.heap) (hS : va_S A s.heap H locs) (hsize : ls.size = c.maxLocals)
    (d0 : decode cc pc = .ok (.new ik, 3)) (d3 : decode cc (pc + 3) = .ok (.dup, 1)) (d4 : decode cc (pc + 4) = .ok (.ldc is, 2)) (d6 : decode cc (pc + 6) = .ok (.invokespecial ic, 3)) (d9 : decode cc (pc + 9) = .ok (.athrow, 1))
    (hout : ∀ x ∈ c.exceptionTable.toList, covers x (pc + 9) = false)
    (hRframes : names.length + 3 < R.frames) (hRlocals : (rest.map fun v => v.category).sum + (13 * (names.length + 1) + 43) ≤ R.locals) (hRcells : cells + 1 ≤ R.cells) (hRslots : slots + 6 ≤ R.slots) (hlocks : meth.locks = false)
    (hx : ∀ t : State, s.vm.Alike t.vm → H.size ≤ t.heap.size → (∀ q : Nat, q < H.size → t.heap[q]? = H[q]?) → XC cls s t)
    (hf : ∀ z ∈ locs, free z.base) (hc : cells + 1 ≤ mc) (hs : slots + 6 ≤ ms) :
    W p l e R s m args below meth c H locs cells slots (vx_MQ below Qc XC args s mc ms free) (F0 m pc ls rest) := by
  intro T hT X
  have htr : e.platform.stackTraces = false := (show e.platform.stackTraces = l.stackTraces by rw [X.admits.platform]).trans hl
  have Y := vx_rebase X (R' := { frames := R.frames, locals := R.locals, cells := 1, slots := 6 }) (Nat.le_refl _) (Nat.le_refl _) hRcells hRslots
  obtain ⟨s', hA⟩ : ∃ z, z = (T.setVm s.vm).setFrames (.invoking m args :: below) := ⟨_, rfl⟩
  rw [← hA] at Y
  have hvm : s'.vm = s.vm := by rw [hA]; rfl
  have hhp : s'.heap = H := by rw [hA]; exact hT
  have hW0 : s.WarmedH s'.vm := by rw [hvm]; exact State.WarmedH.refl s
  have hat' : ∀ w ∈ vx_atS own ic cls names, w.before args s' = true := fun w hw => vx_ot_at hW0 hvm.symm (hgood w (List.mem_cons_of_mem _ (List.mem_cons_of_mem _ hw))) (hat w hw)
  have hk' : (Cond.classLink own ik cls).before args s' = true := vx_ot_at hW0 hvm.symm (hgood _ List.mem_cons_self) hk
  have hini' : (Cond.initialized cls).before args s' = true := vx_ot_at hW0 hvm.symm (hgood _ (List.mem_cons_of_mem _ List.mem_cons_self)) hini
  have hU' : vx_Zq Bundle.tN "UNASSIGNED_STACK" Bundle.steD A s' s'.heap := by rw [hhp]; exact vx_Zq.moved hW0.alike (hU.kept hS.2.1)
  have hN' : vx_Zq Bundle.tN "SUPPRESSED_SENTINEL" Bundle.listD A s' s'.heap := by rw [hhp]; exact vx_Zq.moved hW0.alike (hN.kept hS.2.1)
  have h : ∀ w ∈ Bundle.ownAtoms own ic cls names, w.before args s' = true := vx_own hat' (vx_isRefq hU'.1) (vx_isRefq hN'.1) hU'.2.word hN'.2.word
  have hown' : s'.vm.findClass own = some m.cls := by rw [hvm]; exact hown
  have hins : (Cond.instantiable cls 6).before args s' = true := h _ (by simp [Bundle.ownAtoms])
  obtain ⟨vm₁, cX, kX, hfX, hkX, -, -, X₁, st1⟩ := Y.newCold hexec (own := own) (C := cls) (index := ik) (n := 6) hown' hk' hins hini'
    (g := F0 m pc ls rest) rfl (by rw [hb]; exact d0) (Nat.le_refl _) (Nat.le_refl _)
  generalize hT1 : (T.setVm vm₁).pushCell { cls := cX, slots := kX.instanceTypes.map defaultValue, vm := .none } = T1 at X₁ st1
  have hcat : (Value.ref T.heap.size).category = 1 := rfl
  have hcellA : T1.heap[T.heap.size]? = some (freshCell cX kX) := by rw [← hT1]; exact State.heap_pushCell_size _ _
  have d3' : decode c.code (pc + 3) = .ok (.dup, 1) := by rw [hb]; exact d3
  have d4' : decode c.code (pc + 4) = .ok (.ldc is, 2) := by rw [hb]; exact d4
  have hstr' : vk_R own is text sa s' := vk_R.warm hW0 hstr
  obtain ⟨U, hsteps, hrun, hend, hW, hsame, ce, hce, hO⟩ := X₁.ctorThrowS hexec htr (own := own) (cls := cls) (names := names) (ic := ic) hown' hcls hnames h (fun x hx => nomatch hx) hfX hkX hcellA (by rw [hhp, hT]; exact Nat.le_refl _) (msg := .ref sa) rfl
    (g := { method := m, pc := pc + 6, locals := ls, stack := .ref sa :: .ref T.heap.size :: .ref T.heap.size :: rest, locked := none }) rfl hsize rfl rfl (rest := rest) rfl
    (by rw [hb]; exact d6) (by rw [hb]; exact d9) hout hRframes (by simp only [List.map_cons, List.sum_cons, hcat]; omega) hlocks
  obtain ⟨f1, f2⟩ := vx_frame hsame
  rw [hhp] at f1 f2
  have hWs : s.WarmedH U.vm := State.WarmedH.trans hW0 hW
  have hcl : s.vm.findClass cls = some ce.cls := by
    have h9 := hO.cls
    rw [hvm] at h9
    exact h9
  have hall : s.sameButNew ({ U with vm := s.vm } : State) locs mc ms := by
    subst hA
    obtain ⟨e1, e2⟩ := hsame
    rw [State.setFrames_setFrames] at e1
    have h2 : (T.setVm s.vm).sameButNew ({ U with vm := s.vm } : State) [] (0 + 1) (0 + 6) := ⟨e1, e2⟩
    have h3 := X.same.trans h2
    rw [List.append_nil] at h3
    exact h3.mono hc hs
  refine ⟨U, ?_, .threw T.heap.size, hrun, hend, Or.inr ⟨T.heap.size, rfl, cls, ce, locs, hx U hWs.alike f1 (fun q hq => f2 q hq (fun z hz => nomatch hz)), hce, hO.vm, hcl, hWs, hall, hf⟩⟩
  refine st1 _ ?_
  show Steps p.tables e below (T1.setTop { method := m, pc := pc + 3, locals := ls, stack := .ref T.heap.size :: rest, locked := none }) _
  jvm_step X₁.here [X₁.here.top, hexec, d3', Value.category]
  exact X₁.ldcString hexec (own := own) (text := text) (index := is) (a := sa) hown' hstr'.1 hstr'.2
    (g := { method := m, pc := pc + 4, locals := ls, stack := .ref T.heap.size :: .ref T.heap.size :: rest, locked := none }) rfl d4' _ hsteps
/-- 'throw new E("text")', the text by a wide index -/
theorem vx_throwSW {cc : ByteArray} {pc : Nat} (hexec : p.tables.exec = Jvm.exec) (hb : c.code = cc) (hl : l.stackTraces = false) {own cls text : String} {names : List String} {ik is ic mc ms sa : Nat} {A : Nat → Prop}
    (hown : s.vm.findClass own = some m.cls) (hcls : Bundle.fit cls = true) (hnames : ∀ n ∈ names, Bundle.fit n = true)
    (hk : (Cond.classLink own ik cls).before args s = true) (hini : (Cond.initialized cls).before args s = true) (hstr : vk_R own is text sa s) (hat : ∀ w ∈ vx_atS own ic cls names, w.before args s = true)
    (hgood : ∀ w ∈ Cond.classLink own ik cls :: Cond.initialized cls :: vx_atS own ic cls names, vx_ot w = true)
    (hU : vx_Zq Bundle.tN "UNASSIGNED_STACK" Bundle.steD A s s.heap) (hN : vx_Zq Bundle.tN "SUPPRESSED_SENTINEL" Bundle.listD A s s.heap) (hS : va_S A s.heap H locs) (hsize : ls.size = c.maxLocals)
    (d0 : decode cc pc = .ok (.new ik, 3)) (d3 : decode cc (pc + 3) = .ok (.dup, 1)) (d4 : decode cc (pc + 4) = .ok (.ldc_w is, 3)) (d7 : decode cc (pc + 7) = .ok (.invokespecial ic, 3)) (d10 : decode cc (pc + 10) = .ok (.athrow, 1))
    (hout : ∀ x ∈ c.exceptionTable.toList, covers x (pc + 10) = false)
    (hRframes : names.length + 3 < R.frames) (hRlocals : (rest.map fun v => v.category).sum + (13 * (names.length + 1) + 43) ≤ R.locals) (hRcells : cells + 1 ≤ R.cells) (hRslots : slots + 6 ≤ R.slots) (hlocks : meth.locks = false)
    (hx : ∀ t : State, s.vm.Alike t.vm → H.size ≤ t.heap.size → (∀ q : Nat, q < H.size → t.heap[q]? = H[q]?) → XC cls s t)
    (hf : ∀ z ∈ locs, free z.base) (hc : cells + 1 ≤ mc) (hs : slots + 6 ≤ ms) :
    W p l e R s m args below meth c H locs cells slots (vx_MQ below Qc XC args s mc ms free) (F0 m pc ls rest) := by
  intro T hT X
  have htr : e.platform.stackTraces = false := (show e.platform.stackTraces = l.stackTraces by rw [X.admits.platform]).trans hl
  have Y := vx_rebase X (R' := { frames := R.frames, locals := R.locals, cells := 1, slots := 6 }) (Nat.le_refl _) (Nat.le_refl _) hRcells hRslots
  obtain ⟨s', hA⟩ : ∃ z, z = (T.setVm s.vm).setFrames (.invoking m args :: below) := ⟨_, rfl⟩
  rw [← hA] at Y
  have hvm : s'.vm = s.vm := by rw [hA]; rfl
  have hhp : s'.heap = H := by rw [hA]; exact hT
  have hW0 : s.WarmedH s'.vm := by rw [hvm]; exact State.WarmedH.refl s
  have hat' : ∀ w ∈ vx_atS own ic cls names, w.before args s' = true := fun w hw => vx_ot_at hW0 hvm.symm (hgood w (List.mem_cons_of_mem _ (List.mem_cons_of_mem _ hw))) (hat w hw)
  have hk' : (Cond.classLink own ik cls).before args s' = true := vx_ot_at hW0 hvm.symm (hgood _ List.mem_cons_self) hk
  have hini' : (Cond.initialized cls).before args s' = true := vx_ot_at hW0 hvm.symm (hgood _ (List.mem_cons_of_mem _ List.mem_cons_self)) hini
  have hU' : vx_Zq Bundle.tN "UNASSIGNED_STACK" Bundle.steD A s' s'.heap := by rw [hhp]; exact vx_Zq.moved hW0.alike (hU.kept hS.2.1)
  have hN' : vx_Zq Bundle.tN "SUPPRESSED_SENTINEL" Bundle.listD A s' s'.heap := by rw [hhp]; exact vx_Zq.moved hW0.alike (hN.kept hS.2.1)
  have h : ∀ w ∈ Bundle.ownAtoms own ic cls names, w.before args s' = true := vx_own hat' (vx_isRefq hU'.1) (vx_isRefq hN'.1) hU'.2.word hN'.2.word
  have hown' : s'.vm.findClass own = some m.cls := by rw [hvm]; exact hown
  have hins : (Cond.instantiable cls 6).before args s' = true := h _ (by simp [Bundle.ownAtoms])
  obtain ⟨vm₁, cX, kX, hfX, hkX, -, -, X₁, st1⟩ := Y.newCold hexec (own := own) (C := cls) (index := ik) (n := 6) hown' hk' hins hini'
    (g := F0 m pc ls rest) rfl (by rw [hb]; exact d0) (Nat.le_refl _) (Nat.le_refl _)
  generalize hT1 : (T.setVm vm₁).pushCell { cls := cX, slots := kX.instanceTypes.map defaultValue, vm := .none } = T1 at X₁ st1
  have hcat : (Value.ref T.heap.size).category = 1 := rfl
  have hcellA : T1.heap[T.heap.size]? = some (freshCell cX kX) := by rw [← hT1]; exact State.heap_pushCell_size _ _
  have d3' : decode c.code (pc + 3) = .ok (.dup, 1) := by rw [hb]; exact d3
  have d4' : decode c.code (pc + 4) = .ok (.ldc_w is, 3) := by rw [hb]; exact d4
  have hstr' : vk_R own is text sa s' := vk_R.warm hW0 hstr
  obtain ⟨U, hsteps, hrun, hend, hW, hsame, ce, hce, hO⟩ := X₁.ctorThrowS hexec htr (own := own) (cls := cls) (names := names) (ic := ic) hown' hcls hnames h (fun x hx => nomatch hx) hfX hkX hcellA (by rw [hhp, hT]; exact Nat.le_refl _) (msg := .ref sa) rfl
    (g := { method := m, pc := pc + 7, locals := ls, stack := .ref sa :: .ref T.heap.size :: .ref T.heap.size :: rest, locked := none }) rfl hsize rfl rfl (rest := rest) rfl
    (by rw [hb]; exact d7) (by rw [hb]; exact d10) hout hRframes (by simp only [List.map_cons, List.sum_cons, hcat]; omega) hlocks
  obtain ⟨f1, f2⟩ := vx_frame hsame
  rw [hhp] at f1 f2
  have hWs : s.WarmedH U.vm := State.WarmedH.trans hW0 hW
  have hcl : s.vm.findClass cls = some ce.cls := by
    have h9 := hO.cls
    rw [hvm] at h9
    exact h9
  have hall : s.sameButNew ({ U with vm := s.vm } : State) locs mc ms := by
    subst hA
    obtain ⟨e1, e2⟩ := hsame
    rw [State.setFrames_setFrames] at e1
    have h2 : (T.setVm s.vm).sameButNew ({ U with vm := s.vm } : State) [] (0 + 1) (0 + 6) := ⟨e1, e2⟩
    have h3 := X.same.trans h2
    rw [List.append_nil] at h3
    exact h3.mono hc hs
  refine ⟨U, ?_, .threw T.heap.size, hrun, hend, Or.inr ⟨T.heap.size, rfl, cls, ce, locs, hx U hWs.alike f1 (fun q hq => f2 q hq (fun z hz => nomatch hz)), hce, hO.vm, hcl, hWs, hall, hf⟩⟩
  refine st1 _ ?_
  show Steps p.tables e below (T1.setTop { method := m, pc := pc + 3, locals := ls, stack := .ref T.heap.size :: rest, locked := none }) _
  jvm_step X₁.here [X₁.here.top, hexec, d3', Value.category]
  exact X₁.ldcStringW hexec (own := own) (text := text) (index := is) (a := sa) hown' hstr'.1 hstr'.2
    (g := { method := m, pc := pc + 4, locals := ls, stack := .ref T.heap.size :: .ref T.heap.size :: rest, locked := none }) rfl d4' _ hsteps
end Ends
section Bodies
variable {l : Launch}
theorem vx_ofW {y : MethodName} {ws ws' : List Cond} {rm : Room} {Pc : Array Value → State → Prop} {Qc : Array Value → State → Outcome → State → Prop} {XC : String → State → State → Prop} {mc ms : Nat} {free : Addr → Prop} {cc : ByteArray} {maxL : Nat} {ret : Option FieldType}
    (hy : plainName y.cls = true) (hw : ws = Cond.code y cc maxL ret :: ws')
    (body : ∀ p e s m args below meth c s₁, BodyLoose p l y (headSpec ws rm) cc maxL ret e s m args below meth c s₁ → c.maxLocals = maxL → (∀ x ∈ c.exceptionTable.toList, False) → Pc args s →
      W p l e (headSpec ws rm).room s m args below meth c s.heap [] 0 0 (vx_MQ below Qc XC args s mc ms free) (entryFrame m args maxL)) : vx_Met l y ws rm Pc Qc XC mc ms free := by
  refine MetFree.of_bodyS (code := cc) (maxLocals := maxL) (ret := ret) hy ?_ ?_
  · intro args s m h hn
    obtain ⟨meth, c, h1, h2, h3, h4, h5, h6, -, -⟩ := Cond.code_spec hn (atoms_spec (ws := ws) h _ (by rw [hw]; exact List.mem_cons_self))
    exact ⟨meth, c, h1, h2, h3, h4, h5, h6⟩
  · intro p e s m args below meth c s₁ B hml hP _
    have hh0 : s₁.heap = s.heap := by rw [B.state]; rfl
    have ht : ∀ x ∈ c.exceptionTable.toList, False := by
      obtain ⟨meth9, c9, h1, h2, -, -, -, -, h7, -⟩ := Cond.code_spec B.named (atoms_spec (ws := ws) B.pre _ (by rw [hw]; exact List.mem_cons_self))
      cases Option.some.inj (h1.symm.trans B.method)
      cases Option.some.inj (h2.symm.trans (Stand.of_body B).code)
      intro x hx
      rw [Array.isEmpty_iff.mp h7] at hx
      cases hx
    obtain ⟨t, a1, o, b1, b2, b3⟩ := body p e s m args below meth c s₁ B hml ht hP s₁ hh0 (Stand.of_body B)
    exact ⟨t, o, a1, b1, b2, b3⟩
/-- the table of a body with handlers -/
theorem vx_table {p : Program} {x y : MethodName} {S : Spec} {cc bytes : ByteArray} {maxL maxL' : Nat} {ret ret' : Option FieldType} {e : Env} {s s₁ : State} {m : MethodId} {args : Array Value} {below : List Frame} {meth : Method} {c : Code} {hh : List (Nat × Nat × Nat × Nat)}
    (B : BodyLoose p l y S cc maxL ret e s m args below meth c s₁) (h : (Cond.codeWith y bytes maxL' ret' hh).before args s = true) : c.exceptionTable.toList = tableOf hh := by
  obtain ⟨m9, meth9, c9, hn9, h1, h2, -, -, h6, -⟩ := Cond.codeWith_spec h
  cases Option.some.inj (hn9.symm.trans B.named)
  cases Option.some.inj (h1.symm.trans B.method)
  cases Option.some.inj (h2.symm.trans (Stand.of_body B).code)
  rw [← h6, table_eq]
end Bodies
end VXA
/-! ===== END ===== -/
/-! ===== BEGIN a static call of a method with an exception table ===== -/
section VXS
variable {p : Program} {l : Launch} {e : Env} {R : Room} {s : State} {m : MethodId} {args : Array Value} {below : List Frame} {meth : Method} {c : Code} {T : State} {H : Heap} {locs : List Loc} {cells slots : Nat}
abbrev vx_CSW (R : Room) (s : State) (args : Array Value) (own : String) (index : Nat) (y : MethodName) (bytes : ByteArray) (maxL : Nat) (ret : Option FieldType) (hh : List (Nat × Nat × Nat × Nat)) (ws : List Cond) (rm : Room) (mc ms n : Nat) : Prop :=
  (rm.cells = mc ∧ rm.slots = ms ∧ rm.frames + 1 ≤ R.frames ∧ 8 + (maxL + 11) + rm.locals ≤ R.locals ∧ (∀ w ∈ ws, ∀ (a' : Array Value) (U : State), s.WarmedH U.vm → w.before a' U = true) ∧ Cond.codeWith y bytes maxL ret hh ∈ ws) ∧
  (Cond.codeWith y bytes maxL ret hh).before args s = true ∧ (Cond.initialized y.cls).before args s = true ∧ (y.cls ≠ "java/lang/invoke/MethodHandle" ∧ y.cls ≠ "java/lang/invoke/VarHandle") ∧
  (∀ sig, parseMethodDescriptor y.desc = some sig → n = sig.parameters.length) ∧ (Cond.methodLink own index y).before args s = true ∧ (Cond.static y).before args s = true
theorem vx_cwSW {own : String} {index maxL mc ms : Nat} {y : MethodName} {bytes : ByteArray} {ret : Option FieldType} {hh : List (Nat × Nat × Nat × Nat)} {Ts ws ws' : List Cond} {rm : Room} (n : Nat) (ht : ∀ w ∈ Ts, w.before args s = true) (hT : GoodIn Ts (va_wsS own index y ws)) (hw : ws = Cond.codeWith y bytes maxL ret hh :: ws') (hrc : rm.cells = mc) (hrs : rm.slots = ms)
    (hd : y.cls ≠ "java/lang/invoke/MethodHandle" ∧ y.cls ≠ "java/lang/invoke/VarHandle" ∧ (parseMethodDescriptor y.desc).map (fun d => d.parameters.length) = some n) (hR : rm.frames + 1 ≤ R.frames ∧ 8 + (maxL + 11) + rm.locals ≤ R.locals) :
    vx_CSW R s args own index y bytes maxL ret hh ws rm mc ms n := by
  have ok : ∀ w ∈ va_wsS own index y ws, w.before args s = true := fun w h => ht w (hT w h).1
  have hG : GoodIn Ts ws := fun w h => hT w (by unfold va_wsS; exact List.mem_append_right _ h)
  have hc : Cond.codeWith y bytes maxL ret hh ∈ ws := by rw [hw]; exact List.mem_cons_self
  refine ⟨⟨hrc, hrs, hR.1, hR.2, pay_in ht hG, hc⟩, ht _ (hG _ hc).1, ok _ (by simp [va_wsS]), ⟨hd.1, hd.2.1⟩, fun sig h => ?_, ok _ (by simp [va_wsS]), ok _ (by simp [va_wsS])⟩
  have h2 := hd.2.2
  rw [h] at h2
  exact (Option.some.inj h2).symm
theorem vx_callSW (X : Stand p l e R s m args below meth c T locs cells slots) (hexec : p.tables.exec = Jvm.exec) {own : String} {index : Nat} {y : MethodName} {bytes : ByteArray} {maxL : Nat} {ret : Option FieldType} {hh : List (Nat × Nat × Nat × Nat)}
    (hown : s.vm.findClass own = some m.cls) (hlink : (Cond.methodLink own index y).before args s = true) (hstat : (Cond.static y).before args s = true) (hinit : (Cond.initialized y.cls).before args s = true)
    (hcode : (Cond.codeWith y bytes maxL ret hh).before args s = true) (hy : y.cls ≠ "java/lang/invoke/MethodHandle" ∧ y.cls ≠ "java/lang/invoke/VarHandle")
    {W9 : Nat} {Pre : Pt → Array Value → Prop} {Post : Pt → Array Value → Option Value → Pt → Prop} (hK : Back l R p e below s args y 3 W9 Pre Post)
    {g : JFrame} (hg : g.method = m) (hsize : g.locals.size = c.maxLocals) {argsL rest : List Value} (hlen : ∀ sig, parseMethodDescriptor y.desc = some sig → argsL.length = sig.parameters.length)
    (hstack : g.stack = argsL.reverse ++ rest) (hW : 2 * g.monitorRoom + (rest.map fun v => v.category).sum ≤ W9) (hdg : decode c.code g.pc = .ok (.invokestatic index, 3))
    (hpre : ∀ vm₁, s.WarmedH vm₁ → Pre ⟨T.setVm vm₁, locs, cells, slots⟩ argsL.toArray) :
    ∃ (v : Option Value) (vm₁ : Vm) (B : Pt), s.WarmedH vm₁ ∧ Stand p l e R s m args below meth c B.U B.locs B.cells B.slots ∧ Post ⟨T.setVm vm₁, locs, cells, slots⟩ argsL.toArray v B ∧
      ∀ target, Steps p.tables e below (B.U.setTop { g with pc := g.pc + 3, stack := v.toList ++ rest }) target → Steps p.tables e below (T.setTop g) target := by
  obtain ⟨mk, methM, cM, hnamed, hmethM, -, -, -, -, -, -, hsigM⟩ := Cond.codeWith_spec hcode
  have hstatic : methM.isStatic = true := Cond.static_spec hnamed hmethM hstat
  obtain ⟨kP, hkP, -⟩ := className_of_methodNamed hnamed
  have hinitP : kP.init = .initialized := Cond.initialized_spec (findClass_of_methodNamed hnamed) hkP hinit
  obtain ⟨vm₁, X₁, hstep₁⟩ := X.invokestatic hexec hown hlink hnamed hmethM hstatic hkP hinitP hy (g := g) hg (argsL := argsL) (rest := rest) (hlen _ hsigM) hstack hdg
  obtain ⟨v, B, X', hpost, hsteps⟩ := hK m meth c ⟨T.setVm vm₁, locs, cells, slots⟩ { g with stack := rest } (.invokestatic index) mk argsL.toArray X₁ hg hsize hdg hW (X₁.named hnamed) (hpre vm₁ X₁.warmed)
  exact ⟨v, vm₁, B, X₁.warmed, X', hpost, fun target h => hstep₁ _ fun acts => by rw [doInvoke_state]; exact hsteps.trans h⟩
theorem vx_runSW {y : MethodName} {bytes cc : ByteArray} {maxL nL mc ms n index : Nat} {ret : Option FieldType} {hh : List (Nat × Nat × Nat × Nat)} {ws : List Cond} {rm : Room} {Pc : Array Value → State → Prop} {Qc : Array Value → State → Outcome → State → Prop} {free : Addr → Prop} {Ts : List Cond} {own : String} {As rest : List Value} {g : JFrame}
    (S : CallFix p m c cc nL s args Ts own) (hM : Met l y ws rm Pc Qc mc ms free) (cw : vx_CSW R s args own index y bytes maxL ret hh ws rm mc ms n) (hp : PreS s H Pc As)
    (hg : g.method = m) (hn : As.length = n) (hsize : g.locals.size = nL) (hstack : g.stack = As.reverse ++ rest) (hW : 2 * g.monitorRoom + (rest.map fun v => v.category).sum ≤ 8) (hdg : decode cc g.pc = .ok (.invokestatic index, 3)) (hf : cells + mc ≤ R.cells ∧ slots + ms ≤ R.slots) :
    va_Run p l e R s m args below meth c H locs cells slots mc ms g rest (Qc As.toArray) (free) := by
  obtain ⟨⟨hrc, hrs, hfr, hlo, hws, hcw⟩, hcode, hini, hy, hlen, hl, hstt⟩ := cw
  have hK : Back l R p e below s args y 3 8 (PreOf R mc ms Pc) (PostOf Qc mc ms free) := va_backW (hh := hh) (bytes := bytes) (maxL := maxL) (ret := ret) hM hp.1 hrc hrs hfr hlo hws hcw (fun a' U hW => word_at hW (Or.inl (by first | rfl | simp [Cond.onTables, Cond.keeps, Cond.steady])) hini)
  obtain ⟨hx, hb, hml, ho, -⟩ := S
  intro T hT X
  obtain ⟨v, vm₁, ⟨U', l2, c2, s2⟩, hW₁, X', ⟨g', mk, t, L, e1, e2, hq, h1, hL, h2, h3⟩, st⟩ := vx_callSW X hx (hh := hh) (bytes := bytes) (maxL := maxL) (ret := ret) ho hl hstt hini hcode hy hK hg (hsize.trans hml.symm) (argsL := As) (rest := rest) (fun sig h => hn.trans (hlen sig h)) hstack hW (by rw [hb]; exact hdg)
    (fun vm₁ hW₁ => ⟨hf.1, hf.2, hp.2 (T.setVm vm₁) hT hW₁⟩)
  dsimp only [Pt.U, Pt.locs, Pt.cells, Pt.slots] at X' e1 e2 h1 h2 h3 st
  subst h1; subst h2; subst h3
  exact ⟨v, (T.setVm vm₁).calling g' mk As.toArray, t, U', L, hT, X', hL, e1, e2, hq, st⟩
/-- not caught here, past rows that name other classes: it goes on to the caller -/
theorem vx_outP {p : Program} {l : Launch} {e : Env} {R : Room} {s : State} {m : MethodId} {args : Array Value} {below : List Frame} {meth : Method} {c : Code} {H : Heap} {locs : List Loc} {cells slots : Nat} {free : Addr → Prop} {ls : Array Slot} {rest : List Value} {Qc : Array Value → State → Outcome → State → Prop} {XC : String → State → State → Prop}
    {pc : Nat} {own E : String} {ce : Cell} {q : Addr} {mc ms : Nat} (hown : s.vm.findClass own = some m.cls) (hlocks : meth.locks = false)
    (hpass : ∀ z ∈ c.exceptionTable.toList, covers z pc = false ∨ (z.catchType ≠ 0 ∧ ∃ nm : String, (Cond.classLink own z.catchType nm).before args s = true ∧ va_Nc E nm s)) (hcell : H[q]? = some ce) (hv : ce.vm = .none) (hcl : s.vm.findClass E = some ce.cls)
    (hx : ∀ t : State, t.heap = H → s.vm.Alike t.vm → XC E s t) (hf : ∀ z ∈ locs, free z.base) (hc : cells ≤ mc) (hs : slots ≤ ms) :
    vx_W p l e R s m args below meth c H locs cells slots (vx_MQ below Qc XC args s mc ms free) (F0 m pc ls rest) q := by
  intro T hT X
  have hpl : e.platform.magicAccessors = ({} : Platform).magicAccessors := by rw [X.admits.platform]
  obtain ⟨vm', hW', X', st⟩ := X.outThrough hlocks q (g := F0 m pc ls rest) rfl rfl rfl (cell := ce) (by rw [hT]; exact hcell) (by rw [hv]; rfl)
    (by obtain ⟨k9, h9, -⟩ := Vm.findClass_spec hcl; exact ⟨k9, h9⟩) (fun z hz => by
      rcases hpass z hz with h | ⟨hz0, nm, hl1, hn1⟩
      · exact Or.inl h
      · obtain ⟨c6, hc6, hcl6⟩ := Cond.classLink_spec hown hl1 e.platform hpl
        obtain ⟨a8, b8, h1, h2, h3⟩ := hn1
        cases Option.some.inj (h1.symm.trans hcl)
        cases Option.some.inj (h2.symm.trans hc6)
        exact Or.inr ⟨hz0, _, hcl6, h3⟩)
  obtain ⟨g₀, hfr⟩ := X'.frames_eq
  have hcell9 : ((T.setVm vm').setFrames (.throwing q :: below)).heap[q]? = some ce := by
    show T.heap[q]? = some ce
    rw [hT]; exact hcell
  have hend : Ended ((T.setVm vm').setFrames (.throwing q :: below)) below (.threw q) := State.frames_setFrames _ (State.cur_lt_of_frames hfr)
  refine ⟨(T.setVm vm').setFrames (.throwing q :: below), ?_, .threw q, X'.here.running, hend, Or.inr ⟨q, rfl, E, ce, locs, hx _ hT (X'.ends _).1.alike, hcell9, hv, hcl, (X'.ends _).1, (X'.ends _).2.mono hc hs, hf⟩⟩
  rw [X.pushThrowing_eq]
  exact st
/-- a thing of a world lies in the heap -/
theorem vx_lt {D : va_G} {cl : List vw_C} {ws : va_W} {H1 : Heap} (h : va_P D cl ws H1) {k : Nat} {q : Nat × va_E} (hk : ws[k]? = some q) : q.1 < H1.size := (h k q hk).lt
end VXS
/-! ===== END ===== -/
/-! ===== BEGIN methods with a table of their own: called by a name, returning or throwing ===== -/
section VXH
/-! vx_backW, vx_callVX, vx_callSX, vx_callVW, vx_runVW, vx_runVX, vx_runSX, vx_ofWH follow the same proofs as their sisters above (Free/Laws.lean, Shelf42/LK1.lean); vx_outP calls Shelf42/NT130.lean (outThrough). -/
section
variable {l : Launch} {R : Room} {p : Program} {e : Env} {below : List Frame} {s : State} {sargs : Array Value} {y : MethodName} {len W9 : Nat}
theorem vx_backW {ws : List Cond} {rm : Room} {Pc : Array Value → State → Prop} {Qc : Array Value → State → Outcome → State → Prop} {XC : String → State → State → Prop} {mc ms : Nat} {free : Addr → Prop} {bytes : ByteArray} {maxL : Nat} {ret : Option FieldType} {hh : List (Nat × Nat × Nat × Nat)}
    (hM : vx_Met l y ws rm Pc Qc XC mc ms free) (hblind : FrameBlind Pc) (hrc : rm.cells = mc) (hrs : rm.slots = ms)
    (hframes : rm.frames + 1 ≤ R.frames) (hlocals : W9 + (maxL + 11) + rm.locals ≤ R.locals)
    (hws : ∀ w ∈ ws, ∀ a' U, s.WarmedH U.vm → w.before a' U = true) (hcode : Cond.codeWith y bytes maxL ret hh ∈ ws) (hinit : ∀ a' U, s.WarmedH U.vm → (Cond.initialized y.cls).before a' U = true) :
    vx_Back l R p e below s sargs y len W9 (PreOf R mc ms Pc) (PostOf Qc mc ms free) (vx_Post XC mc ms free) := by
  intro m meth c A g ig mk a X hg hsize hdg hW hn hp
  have h1 : (headSpec ws rm).pre.before a A.U = true := atoms_intro fun w hw => hws w hw _ _ X.warmed
  have h2 : (Cond.codeWith y bytes maxL ret hh).before a A.U = true := hws _ hcode _ _ X.warmed
  have h3 : (Cond.initialized y.cls).before a A.U = true := hinit _ _ X.warmed
  have h4 : A.cells + (headSpec ws rm).room.cells ≤ R.cells := by rw [show (headSpec ws rm).room.cells = mc from hrc]; exact hp.1
  have h5 : A.slots + (headSpec ws rm).room.slots ≤ R.slots := by rw [show (headSpec ws rm).room.slots = ms from hrs]; exact hp.2.1
  have hPc : Pc a (A.U.calling g mk a) := hblind _ _ _ _ hp.2.2
  obtain ⟨U, Ls, c0, s0⟩ := A
  dsimp only [Pt.U, Pt.locs, Pt.cells, Pt.slots] at h1 h2 h3 h4 h5 X hn hPc ⊢
  obtain ⟨m9, methY, cY, hn9, hmY, hcY, -, hlY, -⟩ := Cond.codeWith_spec h2
  cases Option.some.inj (hn9.symm.trans hn)
  obtain ⟨kY, hkY, -⟩ := className_of_methodNamed hn
  have hinitY : kY.init = .initialized := Cond.initialized_spec (findClass_of_methodNamed hn) hkY h3
  have h : At U g.method c below := by rw [hg]; exact X.here
  have hlocals9 : W9 + (maxL + 11) + (headSpec ws rm).room.locals ≤ R.locals := hlocals
  have happ : (headSpec ws rm).appliesLoose y e.platform (U.calling g mk a) = true :=
    Spec.appliesLoose_calling (g := g) h hdg hn hkY hinitY
      (X.room_calling (g := g) (R' := (headSpec ws rm).room) hsize hmY hcY hframes (by rw [hlY]; omega) h4 h5) h1
  obtain ⟨mid, hmid⟩ := h.above
  have hfr : (U.setTop g).frames = (.java g :: mid) ++ below := by rw [State.frames_setTop' g h.top, hmid]; rfl
  obtain ⟨o, s₂, hsteps, -, hend, hq⟩ := Steps.callFree hM p X.admits X.cas X.clock (acts := []) hfr happ hPc trivial
  have hq' : vx_Q Qc XC mc ms free a (U.calling g mk a) o s₂ := hq
  rw [State.frames_setTop' g h.top] at hend
  obtain ⟨g₀, hg0⟩ := Option.isSome_iff_exists.mp h.top
  obtain ⟨r, hr⟩ := State.topJava?_eq_some.mp hg0
  have hr' : (({ U with heap := s₂.heap, slotsUsed := s₂.slotsUsed } : State).setVm s₂.vm).frames = .java g₀ :: r := hr
  rcases hq' with ⟨hqc, L, hfe, hL⟩ | ⟨q, rfl, E, ce, L, hx, hce, hcv, hcl, hW₂, hsm, hL⟩
  · obtain ⟨⟨v, rfl⟩, hW₂, e2, q2, q3, q4, q5, q6⟩ := id hfe
    have e3 : s₂ = ({ (U.calling g mk a).setFrames s₂.frames with heap := s₂.heap, slotsUsed := s₂.slotsUsed } : State).setVm s₂.vm := by
      have : s₂ = ({ s₂ with vm := (U.calling g mk a).vm } : State).setVm s₂.vm := rfl
      rw [e2] at this
      exact this
    obtain ⟨c₂, i₂, len₂, hc₂, hd₂, hf₂⟩ := hend
    have hW' : U.WarmedH s₂.vm := hW₂
    have hcc : c₂ = c := by
      have h1 : s₂.code? g.method = U.code? g.method := by
        rw [State.code?_eq, State.code?_eq, hW'.alike.method?]
      exact Option.some.inj (hc₂.symm.trans (h1.trans h.code))
    subst hcc
    have hlen : len₂ = len := by rw [hdg] at hd₂; cases hd₂; rfl
    subst hlen
    have hs₂ : s₂ = (({ U with heap := s₂.heap, slotsUsed := s₂.slotsUsed } : State).setVm s₂.vm).setTop { g with pc := g.pc + len₂, stack := v.toList ++ g.stack } := by
      refine e3.trans ?_
      rw [hf₂, State.calling_eq h.top, State.setFrames_setFrames, State.setTop_of_frames _ hr', hr]
      rfl
    have hsame : U.sameButNew ({ U with heap := s₂.heap, slotsUsed := s₂.slotsUsed } : State) L mc ms := by
      refine ⟨?_, q2, q3, q4, q5, q6⟩
      obtain ⟨t, ht, -⟩ := State.frames_cons hr
      show ({ U with heap := s₂.heap, slotsUsed := s₂.slotsUsed } : State) = { U.setFrames U.frames with heap := s₂.heap, slotsUsed := s₂.slotsUsed }
      rw [State.setFrames_self ht]
    subst hg
    refine Or.inl ⟨v, ⟨(({ U with heap := s₂.heap, slotsUsed := s₂.slotsUsed } : State).setVm s₂.vm), Ls ++ L, c0 + mc, s0 + ms⟩,
      ⟨X.admits, X.cas, X.clock, X.frames, X.room, X.hears, X.method, X.code, (X.here.setHeapUsed s₂.heap s₂.slotsUsed).setVm hW'.alike, X.tail, State.WarmedH.trans X.warmed hW', X.limits, X.bytes, X.same.trans (hsame.setVm s.vm)⟩,
      ⟨g, mk, s₂, L, rfl, rfl, hqc, rfl, hL, rfl, rfl⟩, ?_⟩
    show Steps p.tables e below _ ((({ U with heap := s₂.heap, slotsUsed := s₂.slotsUsed } : State).setVm s₂.vm).setTop { g with pc := g.pc + len₂, stack := v.toList ++ g.stack })
    rw [← hs₂]
    exact hsteps
  · obtain ⟨e2, q2, q3, q4, q5, q6⟩ := id hsm
    have e3 : s₂ = ({ (U.calling g mk a).setFrames s₂.frames with heap := s₂.heap, slotsUsed := s₂.slotsUsed } : State).setVm s₂.vm := by
      have : s₂ = ({ s₂ with vm := (U.calling g mk a).vm } : State).setVm s₂.vm := rfl
      rw [e2] at this
      exact this
    have hf₂ : s₂.frames = .throwing q :: .java g :: U.frames.tail := hend
    have hW' : U.WarmedH s₂.vm := hW₂
    have hs₂ : s₂ = ((({ U with heap := s₂.heap, slotsUsed := s₂.slotsUsed } : State).setVm s₂.vm).setTop g).pushFrame (.throwing q) := by
      refine e3.trans ?_
      rw [hf₂, State.calling_eq h.top, State.setFrames_setFrames, State.pushFrame, State.frames_setTop _ hr', State.setTop_of_frames _ hr', State.setFrames_setFrames, hr]
      rfl
    have hsame : U.sameButNew ({ U with heap := s₂.heap, slotsUsed := s₂.slotsUsed } : State) L mc ms := by
      refine ⟨?_, q2, q3, q4, q5, q6⟩
      obtain ⟨t, ht, -⟩ := State.frames_cons hr
      show ({ U with heap := s₂.heap, slotsUsed := s₂.slotsUsed } : State) = { U.setFrames U.frames with heap := s₂.heap, slotsUsed := s₂.slotsUsed }
      rw [State.setFrames_self ht]
    subst hg
    refine Or.inr ⟨q, ⟨(({ U with heap := s₂.heap, slotsUsed := s₂.slotsUsed } : State).setVm s₂.vm), Ls ++ L, c0 + mc, s0 + ms⟩,
      ⟨X.admits, X.cas, X.clock, X.frames, X.room, X.hears, X.method, X.code, (X.here.setHeapUsed s₂.heap s₂.slotsUsed).setVm hW'.alike, X.tail, State.WarmedH.trans X.warmed hW', X.limits, X.bytes, X.same.trans (hsame.setVm s.vm)⟩,
      ⟨g, mk, s₂, L, E, ce, rfl, rfl, hx, hce, hcv, hcl, rfl, hL, rfl, rfl⟩, ?_⟩
    show Steps p.tables e below _ (((({ U with heap := s₂.heap, slotsUsed := s₂.slotsUsed } : State).setVm s₂.vm).setTop g).pushFrame (.throwing q))
    rw [← hs₂]
    exact hsteps
end
variable {p : Program} {l : Launch} {e : Env} {R : Room} {s : State} {m : MethodId} {args : Array Value} {below : List Frame} {meth : Method} {c : Code} {T : State} {H : Heap} {locs : List Loc} {cells slots : Nat}
theorem vx_callVX (X : Stand p l e R s m args below meth c T locs cells slots) (hexec : p.tables.exec = Jvm.exec) {own C : String} {index : Nat} {y : MethodName} {bytes : ByteArray} {maxL : Nat} {ret : Option FieldType} {hh : List (Nat × Nat × Nat × Nat)}
    (hown : s.vm.findClass own = some m.cls) (hlink : (Cond.methodLink own index y).before args s = true) (hinst : (Cond.instanceMethod y).before args s = true) (hsel : (Cond.selects C y y).before args s = true)
    (hcode : (Cond.codeWith y bytes maxL ret hh).before args s = true) (hy : y.cls ≠ "java/lang/invoke/MethodHandle" ∧ y.cls ≠ "java/lang/invoke/VarHandle")
    {W9 : Nat} {Pre : Pt → Array Value → Prop} {Post : Pt → Array Value → Option Value → Pt → Prop} {PostX : Pt → Array Value → Addr → Pt → Prop} (hK : vx_Back l R p e below s args y 3 W9 Pre Post PostX)
    {b : Addr} {cellB : Cell} (hcell : T.heap[b]? = some cellB) (hobj : cellB.vm.isStatics = false) (hcls : s.vm.findClass C = some cellB.cls)
    {g : JFrame} (hg : g.method = m) (hsize : g.locals.size = c.maxLocals) {argsL rest : List Value} (hlen : ∀ sig, parseMethodDescriptor y.desc = some sig → argsL.length = sig.parameters.length)
    (hstack : g.stack = argsL.reverse ++ .ref b :: rest) (hW : 2 * g.monitorRoom + (rest.map fun v => v.category).sum ≤ W9) (hdg : decode c.code g.pc = .ok (.invokevirtual index, 3))
    (hpre : ∀ vm₁, s.WarmedH vm₁ → Pre ⟨T.setVm vm₁, locs, cells, slots⟩ (Value.ref b :: argsL).toArray) :
    (∃ (v : Option Value) (vm₁ : Vm) (B : Pt), s.WarmedH vm₁ ∧ Stand p l e R s m args below meth c B.U B.locs B.cells B.slots ∧ Post ⟨T.setVm vm₁, locs, cells, slots⟩ (Value.ref b :: argsL).toArray v B ∧
      ∀ target, Steps p.tables e below (B.U.setTop { g with pc := g.pc + 3, stack := v.toList ++ rest }) target → Steps p.tables e below (T.setTop g) target) ∨
    (∃ (q : Addr) (vm₁ : Vm) (B : Pt), s.WarmedH vm₁ ∧ Stand p l e R s m args below meth c B.U B.locs B.cells B.slots ∧ PostX ⟨T.setVm vm₁, locs, cells, slots⟩ (Value.ref b :: argsL).toArray q B ∧
      Steps p.tables e below (T.setTop g) ((B.U.setTop { g with stack := rest }).pushFrame (.throwing q))) := by
  obtain ⟨mk, methM, hnamed, hmethM, hstM, habM⟩ := Cond.instanceMethod_spec hinst
  obtain ⟨m8, methM', cM, hn8, hmethM', -, -, -, -, -, -, hsigM⟩ := Cond.codeWith_spec hcode
  cases Option.some.inj (hn8.symm.trans hnamed)
  cases hmethM.symm.trans hmethM'
  obtain ⟨c2, r2, m2, q1, q2, q3, q4, kP, hkP, hkPi⟩ := Cond.selects_spec hsel
  cases hcls.symm.trans q1
  cases (State.methodFound?_of_named hnamed hy).symm.trans q2
  cases hnamed.symm.trans q3
  have hselP : selectMethod e.platform s.vm cellB.cls mk = .method mk := by rw [Launch.admits_selectMethod X.admits]; exact q4
  obtain ⟨vm₁, X₁, hstep₁⟩ := X.invokevirtual hexec hown hlink hnamed hmethM hstM hkP hkPi hy (a := b) (cell := cellB) hcell
    (fun z h => by rw [h] at hobj; cases hobj) hselP hmethM habM hkP hkPi (g := g) hg (argsL := argsL) (rest := rest) (hlen _ hsigM) hstack hdg
  rcases hK m meth c ⟨T.setVm vm₁, locs, cells, slots⟩ { g with stack := rest } (.invokevirtual index) mk (Value.ref b :: argsL).toArray X₁ hg hsize hdg hW (X₁.named hnamed) (hpre vm₁ X₁.warmed) with ⟨v, B, X', hpost, hsteps⟩ | ⟨q, B, X', hpost, hsteps⟩
  · exact Or.inl ⟨v, vm₁, B, X₁.warmed, X', hpost, fun target h => hstep₁ _ fun acts => by rw [doInvoke_state]; exact hsteps.trans h⟩
  · exact Or.inr ⟨q, vm₁, B, X₁.warmed, X', hpost, hstep₁ _ fun acts => by rw [doInvoke_state]; exact hsteps⟩
theorem vx_callSX (X : Stand p l e R s m args below meth c T locs cells slots) (hexec : p.tables.exec = Jvm.exec) {own : String} {index : Nat} {y : MethodName} {bytes : ByteArray} {maxL : Nat} {ret : Option FieldType} {hh : List (Nat × Nat × Nat × Nat)}
    (hown : s.vm.findClass own = some m.cls) (hlink : (Cond.methodLink own index y).before args s = true) (hstat : (Cond.static y).before args s = true) (hinit : (Cond.initialized y.cls).before args s = true)
    (hcode : (Cond.codeWith y bytes maxL ret hh).before args s = true) (hy : y.cls ≠ "java/lang/invoke/MethodHandle" ∧ y.cls ≠ "java/lang/invoke/VarHandle")
    {W9 : Nat} {Pre : Pt → Array Value → Prop} {Post : Pt → Array Value → Option Value → Pt → Prop} {PostX : Pt → Array Value → Addr → Pt → Prop} (hK : vx_Back l R p e below s args y 3 W9 Pre Post PostX)
    {g : JFrame} (hg : g.method = m) (hsize : g.locals.size = c.maxLocals) {argsL rest : List Value} (hlen : ∀ sig, parseMethodDescriptor y.desc = some sig → argsL.length = sig.parameters.length)
    (hstack : g.stack = argsL.reverse ++ rest) (hW : 2 * g.monitorRoom + (rest.map fun v => v.category).sum ≤ W9) (hdg : decode c.code g.pc = .ok (.invokestatic index, 3))
    (hpre : ∀ vm₁, s.WarmedH vm₁ → Pre ⟨T.setVm vm₁, locs, cells, slots⟩ argsL.toArray) :
    (∃ (v : Option Value) (vm₁ : Vm) (B : Pt), s.WarmedH vm₁ ∧ Stand p l e R s m args below meth c B.U B.locs B.cells B.slots ∧ Post ⟨T.setVm vm₁, locs, cells, slots⟩ argsL.toArray v B ∧
      ∀ target, Steps p.tables e below (B.U.setTop { g with pc := g.pc + 3, stack := v.toList ++ rest }) target → Steps p.tables e below (T.setTop g) target) ∨
    (∃ (q : Addr) (vm₁ : Vm) (B : Pt), s.WarmedH vm₁ ∧ Stand p l e R s m args below meth c B.U B.locs B.cells B.slots ∧ PostX ⟨T.setVm vm₁, locs, cells, slots⟩ argsL.toArray q B ∧
      Steps p.tables e below (T.setTop g) ((B.U.setTop { g with stack := rest }).pushFrame (.throwing q))) := by
  obtain ⟨mk, methM, cM, hnamed, hmethM, -, -, -, -, -, -, hsigM⟩ := Cond.codeWith_spec hcode
  have hstatic : methM.isStatic = true := Cond.static_spec hnamed hmethM hstat
  obtain ⟨kP, hkP, -⟩ := className_of_methodNamed hnamed
  have hinitP : kP.init = .initialized := Cond.initialized_spec (findClass_of_methodNamed hnamed) hkP hinit
  obtain ⟨vm₁, X₁, hstep₁⟩ := X.invokestatic hexec hown hlink hnamed hmethM hstatic hkP hinitP hy (g := g) hg (argsL := argsL) (rest := rest) (hlen _ hsigM) hstack hdg
  rcases hK m meth c ⟨T.setVm vm₁, locs, cells, slots⟩ { g with stack := rest } (.invokestatic index) mk argsL.toArray X₁ hg hsize hdg hW (X₁.named hnamed) (hpre vm₁ X₁.warmed) with ⟨v, B, X', hpost, hsteps⟩ | ⟨q, B, X', hpost, hsteps⟩
  · exact Or.inl ⟨v, vm₁, B, X₁.warmed, X', hpost, fun target h => hstep₁ _ fun acts => by rw [doInvoke_state]; exact hsteps.trans h⟩
  · exact Or.inr ⟨q, vm₁, B, X₁.warmed, X', hpost, hstep₁ _ fun acts => by rw [doInvoke_state]; exact hsteps⟩
theorem vx_callVW (X : Stand p l e R s m args below meth c T locs cells slots) (hexec : p.tables.exec = Jvm.exec) {own C : String} {index : Nat} {y : MethodName} {bytes : ByteArray} {maxL : Nat} {ret : Option FieldType} {hh : List (Nat × Nat × Nat × Nat)}
    (hown : s.vm.findClass own = some m.cls) (hlink : (Cond.methodLink own index y).before args s = true) (hinst : (Cond.instanceMethod y).before args s = true) (hsel : (Cond.selects C y y).before args s = true)
    (hcode : (Cond.codeWith y bytes maxL ret hh).before args s = true) (hy : y.cls ≠ "java/lang/invoke/MethodHandle" ∧ y.cls ≠ "java/lang/invoke/VarHandle")
    {W9 : Nat} {Pre : Pt → Array Value → Prop} {Post : Pt → Array Value → Option Value → Pt → Prop} (hK : Back l R p e below s args y 3 W9 Pre Post)
    {b : Addr} {cellB : Cell} (hcell : T.heap[b]? = some cellB) (hobj : cellB.vm.isStatics = false) (hcls : s.vm.findClass C = some cellB.cls)
    {g : JFrame} (hg : g.method = m) (hsize : g.locals.size = c.maxLocals) {argsL rest : List Value} (hlen : ∀ sig, parseMethodDescriptor y.desc = some sig → argsL.length = sig.parameters.length)
    (hstack : g.stack = argsL.reverse ++ .ref b :: rest) (hW : 2 * g.monitorRoom + (rest.map fun v => v.category).sum ≤ W9) (hdg : decode c.code g.pc = .ok (.invokevirtual index, 3))
    (hpre : ∀ vm₁, s.WarmedH vm₁ → Pre ⟨T.setVm vm₁, locs, cells, slots⟩ (Value.ref b :: argsL).toArray) :
    ∃ (v : Option Value) (vm₁ : Vm) (B : Pt), s.WarmedH vm₁ ∧ Stand p l e R s m args below meth c B.U B.locs B.cells B.slots ∧ Post ⟨T.setVm vm₁, locs, cells, slots⟩ (Value.ref b :: argsL).toArray v B ∧
      ∀ target, Steps p.tables e below (B.U.setTop { g with pc := g.pc + 3, stack := v.toList ++ rest }) target → Steps p.tables e below (T.setTop g) target := by
  obtain ⟨mk, methM, hnamed, hmethM, hstM, habM⟩ := Cond.instanceMethod_spec hinst
  obtain ⟨m8, methM', cM, hn8, hmethM', -, -, -, -, -, -, hsigM⟩ := Cond.codeWith_spec hcode
  cases Option.some.inj (hn8.symm.trans hnamed)
  cases hmethM.symm.trans hmethM'
  obtain ⟨c2, r2, m2, q1, q2, q3, q4, kP, hkP, hkPi⟩ := Cond.selects_spec hsel
  cases hcls.symm.trans q1
  cases (State.methodFound?_of_named hnamed hy).symm.trans q2
  cases hnamed.symm.trans q3
  have hselP : selectMethod e.platform s.vm cellB.cls mk = .method mk := by rw [Launch.admits_selectMethod X.admits]; exact q4
  obtain ⟨vm₁, X₁, hstep₁⟩ := X.invokevirtual hexec hown hlink hnamed hmethM hstM hkP hkPi hy (a := b) (cell := cellB) hcell
    (fun z h => by rw [h] at hobj; cases hobj) hselP hmethM habM hkP hkPi (g := g) hg (argsL := argsL) (rest := rest) (hlen _ hsigM) hstack hdg
  obtain ⟨v, B, X', hpost, hsteps⟩ := hK m meth c ⟨T.setVm vm₁, locs, cells, slots⟩ { g with stack := rest } (.invokevirtual index) mk (Value.ref b :: argsL).toArray X₁ hg hsize hdg hW (X₁.named hnamed) (hpre vm₁ X₁.warmed)
  exact ⟨v, vm₁, B, X₁.warmed, X', hpost, fun target h => hstep₁ _ fun acts => by rw [doInvoke_state]; exact hsteps.trans h⟩
abbrev vx_CVW (R : Room) (s : State) (args : Array Value) (own C : String) (index : Nat) (y : MethodName) (bytes : ByteArray) (maxL : Nat) (ret : Option FieldType) (hh : List (Nat × Nat × Nat × Nat)) (ws : List Cond) (rm : Room) (mc ms n : Nat) : Prop :=
  (rm.cells = mc ∧ rm.slots = ms ∧ rm.frames + 1 ≤ R.frames ∧ 8 + (maxL + 11) + rm.locals ≤ R.locals ∧ (∀ w ∈ ws, ∀ (a' : Array Value) (U : State), s.WarmedH U.vm → w.before a' U = true) ∧ Cond.codeWith y bytes maxL ret hh ∈ ws) ∧
  (Cond.codeWith y bytes maxL ret hh).before args s = true ∧ (Cond.initialized y.cls).before args s = true ∧ (y.cls ≠ "java/lang/invoke/MethodHandle" ∧ y.cls ≠ "java/lang/invoke/VarHandle") ∧
  (∀ sig, parseMethodDescriptor y.desc = some sig → n = sig.parameters.length) ∧ (Cond.methodLink own index y).before args s = true ∧ (Cond.instanceMethod y).before args s = true ∧ (Cond.selects C y y).before args s = true
theorem vx_cwVW {own C : String} {index maxL mc ms : Nat} {y : MethodName} {bytes : ByteArray} {ret : Option FieldType} {hh : List (Nat × Nat × Nat × Nat)} {Ts ws ws' : List Cond} {rm : Room} (n : Nat) (ht : ∀ w ∈ Ts, w.before args s = true) (hT : GoodIn Ts (wsV own index C y ws)) (hw : ws = Cond.codeWith y bytes maxL ret hh :: ws') (hrc : rm.cells = mc) (hrs : rm.slots = ms)
    (hd : y.cls = C ∧ y.cls ≠ "java/lang/invoke/MethodHandle" ∧ y.cls ≠ "java/lang/invoke/VarHandle" ∧ (parseMethodDescriptor y.desc).map (fun d => d.parameters.length) = some n) (hR : rm.frames + 1 ≤ R.frames ∧ 8 + (maxL + 11) + rm.locals ≤ R.locals) :
    vx_CVW R s args own C index y bytes maxL ret hh ws rm mc ms n := by
  obtain ⟨hC, hd⟩ := hd
  subst hC
  have ok : ∀ w ∈ wsV own index y.cls y ws, w.before args s = true := fun w h => ht w (hT w h).1
  have hG : GoodIn Ts ws := fun w h => hT w (by unfold wsV; exact List.mem_append_right _ h)
  have hc : Cond.codeWith y bytes maxL ret hh ∈ ws := by rw [hw]; exact List.mem_cons_self
  refine ⟨⟨hrc, hrs, hR.1, hR.2, pay_in ht hG, hc⟩, ht _ (hG _ hc).1, ok _ (by simp [wsV]), ⟨hd.1, hd.2.1⟩, fun sig h => ?_, ok _ (by simp [wsV]), ok _ (by simp [wsV]), ok _ (by simp [wsV])⟩
  have h2 := hd.2.2
  rw [h] at h2
  exact (Option.some.inj h2).symm
theorem vx_runVW {y : MethodName} {bytes cc : ByteArray} {maxL nL mc ms n index : Nat} {ret : Option FieldType} {hh : List (Nat × Nat × Nat × Nat)} {ws : List Cond} {rm : Room} {Pc : Array Value → State → Prop} {Qc : Array Value → State → Outcome → State → Prop} {free : Addr → Prop} {Ts : List Cond} {own C : String} {b : Addr} {As rest : List Value} {g : JFrame}
    (S : CallFix p m c cc nL s args Ts own) (hM : Met l y ws rm Pc Qc mc ms free) (cw : vx_CVW R s args own C index y bytes maxL ret hh ws rm mc ms n) (hp : PreV s H C b Pc As)
    (hg : g.method = m) (hn : As.length = n) (hsize : g.locals.size = nL) (hstack : g.stack = As.reverse ++ .ref b :: rest) (hW : 2 * g.monitorRoom + (rest.map fun v => v.category).sum ≤ 8) (hdg : decode cc g.pc = .ok (.invokevirtual index, 3)) (hf : cells + mc ≤ R.cells ∧ slots + ms ≤ R.slots) :
    va_Run p l e R s m args below meth c H locs cells slots mc ms g rest (Qc (Value.ref b :: As).toArray) free := by
  obtain ⟨⟨hrc, hrs, hfr, hlo, hws, hcw⟩, hcode, hini, hy, hlen, hl, hin, hse⟩ := cw
  have hK : Back l R p e below s args y 3 8 (PreOf R mc ms Pc) (PostOf Qc mc ms free) := va_backW (hh := hh) (bytes := bytes) (maxL := maxL) (ret := ret) hM hp.1 hrc hrs hfr hlo hws hcw (fun a' U hW => word_at hW (Or.inl (by first | rfl | simp [Cond.onTables, Cond.keeps, Cond.steady])) hini)
  obtain ⟨hx, hb, hml, ho, -⟩ := S
  obtain ⟨-, ⟨cellB, hcB, hoB, hclB⟩, hPc⟩ := hp
  intro T hT X
  obtain ⟨v, vm₁, ⟨U', l2, c2, s2⟩, hW₁, X', ⟨g', mk, t, L, e1, e2, hq, h1, hL, h2, h3⟩, st⟩ := vx_callVW X hx (C := C) (hh := hh) (bytes := bytes) (maxL := maxL) (ret := ret) ho hl hin hse hcode hy hK (by rw [hT]; exact hcB) hoB hclB hg (hsize.trans hml.symm) (argsL := As) (rest := rest) (fun sig h => hn.trans (hlen sig h)) hstack hW (by rw [hb]; exact hdg)
    (fun vm₁ hW₁ => ⟨hf.1, hf.2, hPc (T.setVm vm₁) hT hW₁⟩)
  dsimp only [Pt.U, Pt.locs, Pt.cells, Pt.slots] at X' e1 e2 h1 h2 h3 st
  subst h1; subst h2; subst h3
  exact ⟨v, (T.setVm vm₁).calling g' mk (Value.ref b :: As).toArray, t, U', L, hT, X', hL, e1, e2, hq, st⟩
section
variable {y : MethodName} {bytes cc : ByteArray} {maxL nL mc ms n index : Nat} {ret : Option FieldType} {ws : List Cond} {rm : Room} {Pc : Array Value → State → Prop} {Qc : Array Value → State → Outcome → State → Prop} {XC : String → State → State → Prop} {free : Addr → Prop} {Ts : List Cond} {own C : String} {b : Addr} {As rest : List Value} {g : JFrame}
theorem vx_runVX {hh : List (Nat × Nat × Nat × Nat)} (S : CallFix p m c cc nL s args Ts own) (hM : vx_Met l y ws rm Pc Qc XC mc ms free) (cw : vx_CVW R s args own C index y bytes maxL ret hh ws rm mc ms n) (hp : PreV s H C b Pc As)
    (hg : g.method = m) (hn : As.length = n) (hsize : g.locals.size = nL) (hstack : g.stack = As.reverse ++ .ref b :: rest) (hW : 2 * g.monitorRoom + (rest.map fun v => v.category).sum ≤ 8) (hdg : decode cc g.pc = .ok (.invokevirtual index, 3)) (hf : cells + mc ≤ R.cells ∧ slots + ms ≤ R.slots) :
    vx_Run p l e R s m args below meth c H locs cells slots mc ms g rest (Qc (Value.ref b :: As).toArray) XC free := by
  obtain ⟨⟨hrc, hrs, hfr, hlo, hws, hcw⟩, hcode, hini, hy, hlen, hl, hin, hse⟩ := cw
  have hK : vx_Back l R p e below s args y 3 8 (PreOf R mc ms Pc) (PostOf Qc mc ms free) (vx_Post XC mc ms free) := vx_backW (hh := hh) (bytes := bytes) (maxL := maxL) (ret := ret) hM hp.1 hrc hrs hfr hlo hws hcw (fun a' U hW => word_at hW (Or.inl (by first | rfl | simp [Cond.onTables, Cond.keeps, Cond.steady])) hini)
  obtain ⟨hx, hb, hml, ho, -⟩ := S
  obtain ⟨-, ⟨cellB, hcB, hoB, hclB⟩, hPc⟩ := hp
  intro T hT X
  rcases vx_callVX X hx (C := C) (hh := hh) (bytes := bytes) (maxL := maxL) (ret := ret) ho hl hin hse hcode hy hK (by rw [hT]; exact hcB) hoB hclB hg (hsize.trans hml.symm) (argsL := As) (rest := rest) (fun sig h => hn.trans (hlen sig h)) hstack hW (by rw [hb]; exact hdg)
    (fun vm₁ hW₁ => ⟨hf.1, hf.2, hPc (T.setVm vm₁) hT hW₁⟩) with ⟨v, vm₁, ⟨U', l2, c2, s2⟩, hW₁, X', ⟨g', mk, t, L, e1, e2, hq, h1, hL, h2, h3⟩, st⟩ | ⟨q, vm₁, ⟨U', l2, c2, s2⟩, hW₁, X', ⟨g', mk, t, L, E, ce, e1, e2, hq, hce, hcv, hcl, h1, hL, h2, h3⟩, st⟩
  · dsimp only [Pt.U, Pt.locs, Pt.cells, Pt.slots] at X' e1 e2 h1 h2 h3 st
    subst h1; subst h2; subst h3
    exact Or.inl ⟨v, (T.setVm vm₁).calling g' mk (Value.ref b :: As).toArray, t, U', L, hT, X', hL, e1, e2, hq, st⟩
  · dsimp only [Pt.U, Pt.locs, Pt.cells, Pt.slots] at X' e1 e2 h1 h2 h3 st hcl
    subst h1; subst h2; subst h3
    exact Or.inr ⟨q, (T.setVm vm₁).calling g' mk (Value.ref b :: As).toArray, t, U', L, E, ce, hT, X', hL, e1, e2, hq, hce, hcv, vx_cls hW₁ hcl, st⟩
theorem vx_runSX {hh : List (Nat × Nat × Nat × Nat)} (S : CallFix p m c cc nL s args Ts own) (hM : vx_Met l y ws rm Pc Qc XC mc ms free) (cw : vx_CSW R s args own index y bytes maxL ret hh ws rm mc ms n) (hp : PreS s H Pc As)
    (hg : g.method = m) (hn : As.length = n) (hsize : g.locals.size = nL) (hstack : g.stack = As.reverse ++ rest) (hW : 2 * g.monitorRoom + (rest.map fun v => v.category).sum ≤ 8) (hdg : decode cc g.pc = .ok (.invokestatic index, 3)) (hf : cells + mc ≤ R.cells ∧ slots + ms ≤ R.slots) :
    vx_Run p l e R s m args below meth c H locs cells slots mc ms g rest (Qc As.toArray) XC free := by
  obtain ⟨⟨hrc, hrs, hfr, hlo, hws, hcw⟩, hcode, hini, hy, hlen, hl, hstt⟩ := cw
  have hK : vx_Back l R p e below s args y 3 8 (PreOf R mc ms Pc) (PostOf Qc mc ms free) (vx_Post XC mc ms free) := vx_backW (hh := hh) (bytes := bytes) (maxL := maxL) (ret := ret) hM hp.1 hrc hrs hfr hlo hws hcw (fun a' U hW => word_at hW (Or.inl (by first | rfl | simp [Cond.onTables, Cond.keeps, Cond.steady])) hini)
  obtain ⟨hx, hb, hml, ho, -⟩ := S
  intro T hT X
  rcases vx_callSX X hx (hh := hh) (bytes := bytes) (maxL := maxL) (ret := ret) ho hl hstt hini hcode hy hK hg (hsize.trans hml.symm) (argsL := As) (rest := rest) (fun sig h => hn.trans (hlen sig h)) hstack hW (by rw [hb]; exact hdg)
    (fun vm₁ hW₁ => ⟨hf.1, hf.2, hp.2 (T.setVm vm₁) hT hW₁⟩) with ⟨v, vm₁, ⟨U', l2, c2, s2⟩, hW₁, X', ⟨g', mk, t, L, e1, e2, hq, h1, hL, h2, h3⟩, st⟩ | ⟨q, vm₁, ⟨U', l2, c2, s2⟩, hW₁, X', ⟨g', mk, t, L, E, ce, e1, e2, hq, hce, hcv, hcl, h1, hL, h2, h3⟩, st⟩
  · dsimp only [Pt.U, Pt.locs, Pt.cells, Pt.slots] at X' e1 e2 h1 h2 h3 st
    subst h1; subst h2; subst h3
    exact Or.inl ⟨v, (T.setVm vm₁).calling g' mk As.toArray, t, U', L, hT, X', hL, e1, e2, hq, st⟩
  · dsimp only [Pt.U, Pt.locs, Pt.cells, Pt.slots] at X' e1 e2 h1 h2 h3 st hcl
    subst h1; subst h2; subst h3
    exact Or.inr ⟨q, (T.setVm vm₁).calling g' mk As.toArray, t, U', L, E, ce, hT, X', hL, e1, e2, hq, hce, hcv, vx_cls hW₁ hcl, st⟩
end
end VXH
theorem vx_ofWH {l : Launch} {y : MethodName} {ws ws' : List Cond} {rm : Room} {Pc : Array Value → State → Prop} {Qc : Array Value → State → Outcome → State → Prop} {XC : String → State → State → Prop} {mc ms : Nat} {free : Addr → Prop} {cc : ByteArray} {maxL : Nat} {ret : Option FieldType} {hh : List (Nat × Nat × Nat × Nat)}
    (hy : plainName y.cls = true) (hw : ws = Cond.codeWith y cc maxL ret hh :: ws')
    (body : ∀ p e s m args below meth c s₁, BodyLoose p l y (headSpec ws rm) cc maxL ret e s m args below meth c s₁ → c.maxLocals = maxL → Pc args s →
      W p l e (headSpec ws rm).room s m args below meth c s.heap [] 0 0 (vx_MQ below Qc XC args s mc ms free) (entryFrame m args maxL)) : vx_Met l y ws rm Pc Qc XC mc ms free := by
  refine MetFree.of_bodyS (code := cc) (maxLocals := maxL) (ret := ret) hy ?_ ?_
  · intro args s m h hn
    obtain ⟨m9, meth, c, hn9, h1, h2, h3, h4, -, h5, h6, -⟩ := Cond.codeWith_spec (atoms_spec (ws := ws) h _ (by rw [hw]; exact List.mem_cons_self))
    cases hn.symm.trans hn9
    exact ⟨meth, c, h1, h2, h3, h4, h5, h6⟩
  · intro p e s m args below meth c s₁ B hml hP _
    have hh0 : s₁.heap = s.heap := by rw [B.state]; rfl
    obtain ⟨t, a1, o, b1, b2, b3⟩ := body p e s m args below meth c s₁ B hml hP s₁ hh0 (Stand.of_body B)
    exact ⟨t, o, a1, b1, b2, b3⟩
/-! ===== END ===== -/
end
section
def RX0 : String := "AtelierBook"
def TX0 : u_T := fun k => match k with
  | 0 => ("AtelierBook", "pigmentCount", "I", false)
  | 1 => ("AtelierBook", "tubeCount", "I", false)
  | 2 => ("AtelierBook", "potCount", "I", false)
  | 3 => ("AtelierBook", "pictureCount", "I", false)
  | 4 => ("AtelierBook", "today", "I", false)
  | 5 => ("AtelierBook", "pigmentColours", "[I", true)
  | 6 => ("AtelierBook", "pigmentOfTube", "[I", true)
  | 7 => ("AtelierBook", "gramsInTube", "[I", true)
  | 8 => ("AtelierBook", "ledger", "[I", true)
  | 9 => ("AtelierBook", "layerCounts", "[I", true)
  | 10 => ("AtelierBook", "crackCounts", "[I", true)
  | 11 => ("AtelierBook", "latestPrices", "[I", true)
  | 12 => ("AtelierBook", "loanDays", "[I", true)
  | 13 => ("AtelierBook", "loanHouses", "[I", true)
  | 14 => ("AtelierBook", "loanCosts", "[I", true)
  | 15 => ("AtelierBook", "houseDamps", "[I", true)
  | _ => ("AtelierBook", "housePayments", "[I", true)
def tyX0 : Nat → FieldType := fun k => match k with
  | 0 => .int
  | 1 => .int
  | 2 => .int
  | 3 => .int
  | 4 => .int
  | 5 => .array .int
  | 6 => .array .int
  | 7 => .array .int
  | 8 => .array .int
  | 9 => .array .int
  | 10 => .array .int
  | 11 => .array .int
  | 12 => .array .int
  | 13 => .array .int
  | 14 => .array .int
  | 15 => .array .int
  | _ => .array .int
abbrev wsX00 : List Cond := u_ws RX0 TX0 17
theorem nmX0 : ∀ a, a < 17 → ∀ b, b < 17 → a ≠ b → (TX0 a).2.1 ≠ (TX0 b).2.1 := by decide +kernel
theorem tyX0_ok : ∀ k, k < 17 → parseFieldDescriptor (TX0 k).2.2.1 = some (tyX0 k) := by decide +kernel
abbrev cX0_init : ByteArray := prog_1_method_1_code
def yX0_init : MethodName := ⟨RX0, "<init>", "()V"⟩
abbrev cX0_pigment : ByteArray := prog_1_method_2_code
def yX0_pigment : MethodName := ⟨RX0, "pigment", "(III)I"⟩
abbrev cX0_tube : ByteArray := prog_1_method_3_code
def yX0_tube : MethodName := ⟨RX0, "tube", "(II)I"⟩
abbrev cX0_pot : ByteArray := prog_1_method_4_code
def yX0_pot : MethodName := ⟨RX0, "pot", "()I"⟩
abbrev cX0_squeeze : ByteArray := prog_1_method_5_code
def yX0_squeeze : MethodName := ⟨RX0, "squeeze", "(III)I"⟩
abbrev cX0_pour : ByteArray := prog_1_method_6_code
def yX0_pour : MethodName := ⟨RX0, "pour", "(III)I"⟩
abbrev cX0_scrape : ByteArray := prog_1_method_7_code
def yX0_scrape : MethodName := ⟨RX0, "scrape", "(I)I"⟩
abbrev cX0_picture : ByteArray := prog_1_method_8_code
def yX0_picture : MethodName := ⟨RX0, "picture", "()I"⟩
abbrev cX0_paint : ByteArray := prog_1_method_9_code
def yX0_paint : MethodName := ⟨RX0, "paint", "(III)I"⟩
abbrev cX0_clean : ByteArray := prog_1_method_10_code
def yX0_clean : MethodName := ⟨RX0, "clean", "(II)I"⟩
abbrev cX0_damp : ByteArray := prog_1_method_11_code
def yX0_damp : MethodName := ⟨RX0, "damp", "(II)I"⟩
abbrev cX0_lend : ByteArray := prog_1_method_12_code
def yX0_lend : MethodName := ⟨RX0, "lend", "(III)I"⟩
abbrev cX0_sell : ByteArray := prog_1_method_13_code
def yX0_sell : MethodName := ⟨RX0, "sell", "(II)I"⟩
abbrev cX0_pass : ByteArray := prog_1_method_14_code
def yX0_pass : MethodName := ⟨RX0, "pass", "(I)I"⟩
abbrev cX0_left : ByteArray := prog_1_method_15_code
def yX0_left : MethodName := ⟨RX0, "left", "(I)I"⟩
abbrev cX0_has : ByteArray := prog_1_method_16_code
def yX0_has : MethodName := ⟨RX0, "has", "(II)I"⟩
abbrev cX0_colour : ByteArray := prog_1_method_17_code
def yX0_colour : MethodName := ⟨RX0, "colour", "(II)I"⟩
abbrev cX0_of : ByteArray := prog_1_method_18_code
def yX0_of : MethodName := ⟨RX0, "of", "(II)I"⟩
abbrev cX0_layer : ByteArray := prog_1_method_19_code
def yX0_layer : MethodName := ⟨RX0, "layer", "(III)I"⟩
abbrev cX0_where : ByteArray := prog_1_method_20_code
def yX0_where : MethodName := ⟨RX0, "where", "(II)I"⟩
abbrev cX0_recipe : ByteArray := prog_1_method_21_code
def yX0_recipe : MethodName := ⟨RX0, "recipe", "(III)I"⟩
abbrev cX0_paid : ByteArray := prog_1_method_22_code
def yX0_paid : MethodName := ⟨RX0, "paid", "(I)I"⟩
abbrev cX0_checkNumber : ByteArray := prog_1_method_23_code
def yX0_checkNumber : MethodName := ⟨RX0, "checkNumber", "(II)V"⟩
abbrev cX0_checkRange : ByteArray := prog_1_method_24_code
def yX0_checkRange : MethodName := ⟨RX0, "checkRange", "(III)V"⟩
abbrev cX0_checkColour : ByteArray := prog_1_method_25_code
def yX0_checkColour : MethodName := ⟨RX0, "checkColour", "(III)V"⟩
abbrev cX0_checkAtHome : ByteArray := prog_1_method_26_code
def yX0_checkAtHome : MethodName := ⟨RX0, "checkAtHome", "(I)V"⟩
abbrev cX0_potRow : ByteArray := prog_1_method_27_code
def yX0_potRow : MethodName := ⟨RX0, "potRow", "(I)I"⟩
abbrev cX0_layerRow : ByteArray := prog_1_method_28_code
def yX0_layerRow : MethodName := ⟨RX0, "layerRow", "(II)I"⟩
abbrev cX0_place : ByteArray := prog_1_method_29_code
def yX0_place : MethodName := ⟨RX0, "place", "(II)I"⟩
abbrev cX0_sumOfRow : ByteArray := prog_1_method_30_code
def yX0_sumOfRow : MethodName := ⟨RX0, "sumOfRow", "(I)I"⟩
abbrev cX0_sumOfTube : ByteArray := prog_1_method_31_code
def yX0_sumOfTube : MethodName := ⟨RX0, "sumOfTube", "(III)I"⟩
abbrev cX0_move : ByteArray := prog_1_method_32_code
def yX0_move : MethodName := ⟨RX0, "move", "(III)Z"⟩
abbrev cX0_waste : ByteArray := prog_1_method_33_code
def yX0_waste : MethodName := ⟨RX0, "waste", "(I)I"⟩
abbrev cX0_colourOfTube : ByteArray := prog_1_method_34_code
def yX0_colourOfTube : MethodName := ⟨RX0, "colourOfTube", "(II)I"⟩
abbrev cX0_colourOfRow : ByteArray := prog_1_method_35_code
def yX0_colourOfRow : MethodName := ⟨RX0, "colourOfRow", "(II)I"⟩
abbrev cX0_gramsOfPigment : ByteArray := prog_1_method_36_code
def yX0_gramsOfPigment : MethodName := ⟨RX0, "gramsOfPigment", "(II)I"⟩
abbrev cX0_mainPigmentOfRow : ByteArray := prog_1_method_37_code
def yX0_mainPigmentOfRow : MethodName := ⟨RX0, "mainPigmentOfRow", "(I)I"⟩
abbrev cX0_mixed : ByteArray := prog_1_method_38_code
def yX0_mixed : MethodName := ⟨RX0, "mixed", "(IIII)I"⟩
abbrev cX0_square : ByteArray := prog_1_method_39_code
def yX0_square : MethodName := ⟨RX0, "square", "(I)I"⟩
abbrev cX0_isLent : ByteArray := prog_1_method_40_code
def yX0_isLent : MethodName := ⟨RX0, "isLent", "(I)Z"⟩
abbrev cX0_mainPigmentOf : ByteArray := prog_1_method_41_code
def yX0_mainPigmentOf : MethodName := ⟨RX0, "mainPigmentOf", "(I)I"⟩
abbrev cX0_lookOf : ByteArray := prog_1_method_42_code
def yX0_lookOf : MethodName := ⟨RX0, "lookOf", "(II)I"⟩
abbrev cX0_valueOf : ByteArray := prog_1_method_43_code
def yX0_valueOf : MethodName := ⟨RX0, "valueOf", "(I)I"⟩
abbrev cX0_averagePriceOfAlike : ByteArray := prog_1_method_44_code
def yX0_averagePriceOfAlike : MethodName := ⟨RX0, "averagePriceOfAlike", "(I)I"⟩
abbrev cX0_passForLoan : ByteArray := prog_1_method_45_code
def yX0_passForLoan : MethodName := ⟨RX0, "passForLoan", "(II)V"⟩
def RX1 : String := "AtelierBookModel"
def TX1 : u_T := fun k => match k with
  | _ => ("", "", "", false)
def tyX1 : Nat → FieldType := fun k => match k with
  | _ => .int
abbrev wsX10 : List Cond := u_ws RX1 TX1 0
theorem nmX1 : ∀ a, a < 0 → ∀ b, b < 0 → a ≠ b → (TX1 a).2.1 ≠ (TX1 b).2.1 := by decide +kernel
theorem tyX1_ok : ∀ k, k < 0 → parseFieldDescriptor (TX1 k).2.2.1 = some (tyX1 k) := by decide +kernel
def RJ9 : String := "java/lang/Math"
def TJ9 : u_T := fun k => match k with
  | _ => ("", "", "", false)
def tyJ9 : Nat → FieldType := fun k => match k with
  | _ => .int
abbrev wsJ90 : List Cond := u_ws RJ9 TJ9 0
theorem nmJ9 : ∀ a, a < 0 → ∀ b, b < 0 → a ≠ b → (TJ9 a).2.1 ≠ (TJ9 b).2.1 := by decide +kernel
theorem tyJ9_ok : ∀ k, k < 0 → parseFieldDescriptor (TJ9 k).2.2.1 = some (tyJ9 k) := by decide +kernel
abbrev cJ9_abs_0f7a4 : ByteArray := prog_8_method_59_code
def yJ9_abs_0f7a4 : MethodName := ⟨RJ9, "abs", "(I)I"⟩
abbrev cJ9_max_7cf53 : ByteArray := prog_8_method_65_code
def yJ9_max_7cf53 : MethodName := ⟨RJ9, "max", "(II)I"⟩
abbrev cJ9_min_7cf53 : ByteArray := prog_8_method_69_code
def yJ9_min_7cf53 : MethodName := ⟨RJ9, "min", "(II)I"⟩
def RJ0 : String := "java/lang/String"
def TJ0 : u_T := fun k => match k with
  | _ => ("", "", "", false)
def tyJ0 : Nat → FieldType := fun k => match k with
  | _ => .int
abbrev wsJ00 : List Cond := u_ws RJ0 TJ0 0
theorem nmJ0 : ∀ a, a < 0 → ∀ b, b < 0 → a ≠ b → (TJ0 a).2.1 ≠ (TJ0 b).2.1 := by decide +kernel
theorem tyJ0_ok : ∀ k, k < 0 → parseFieldDescriptor (TJ0 k).2.2.1 = some (tyJ0 k) := by decide +kernel
def RL : String := "AtelierBookLaw"
abbrev cL_cell : ByteArray := method_2_code
def yL_cell : MethodName := ⟨RL, "cell", "([II)I"⟩
abbrev cL_low : ByteArray := method_3_code
def yL_low : MethodName := ⟨RL, "low", "(II)I"⟩
abbrev cL_calls : ByteArray := method_4_code
def yL_calls : MethodName := ⟨RL, "calls", "(LAtelierBook;IIII)I"⟩
abbrev cL_at : ByteArray := method_5_code
def yL_at : MethodName := ⟨RL, "at", "(II)I"⟩
abbrev cL_grams : ByteArray := method_6_code
def yL_grams : MethodName := ⟨RL, "grams", "(II[I[I)I"⟩
abbrev cL_total : ByteArray := method_7_code
def yL_total : MethodName := ⟨RL, "total", "(I[I)I"⟩
abbrev cL_flows : ByteArray := method_8_code
def yL_flows : MethodName := ⟨RL, "flows", "(II[I[I)V"⟩
abbrev cL_main : ByteArray := method_9_code
def yL_main : MethodName := ⟨RL, "main", "(I[I[I[I[I)I"⟩
abbrev cL_value : ByteArray := method_10_code
def yL_value : MethodName := ⟨RL, "value", "(I[I[I[I[I)I"⟩
abbrev cL_shade : ByteArray := method_11_code
def yL_shade : MethodName := ⟨RL, "shade", "(II)I"⟩
abbrev cL_recipe : ByteArray := method_12_code
def yL_recipe : MethodName := ⟨RL, "recipe", "(III[I[I)I"⟩
abbrev cL_mixes : ByteArray := method_13_code
def yL_mixes : MethodName := ⟨RL, "mixes", "(LAtelierBook;II[I[I[I[I[I[I)Z"⟩
abbrev cL_trades : ByteArray := method_14_code
def yL_trades : MethodName := ⟨RL, "trades", "(LAtelierBook;II[I[I[I[I[I)Z"⟩
abbrev cL_day : ByteArray := method_15_code
def yL_day : MethodName := ⟨RL, "day", "([I[I)V"⟩
abbrev cL_same : ByteArray := method_16_code
def yL_same : MethodName := ⟨RL, "same", "(LAtelierBook;I[I[I[I[I[I[I[I)Z"⟩
abbrev cL_law : ByteArray := code
def yL_law : MethodName := ⟨RL, "law", "([I)Z"⟩
def wsX0_init : List Cond := .code yX0_init cX0_init 2 none :: ([.methodLink RX0 3 objectInit, .instanceMethod objectInit, .code objectInit ⟨#[0xb1]⟩ 1 none, .arrayClass .int, .fieldLink RX0 9 "AtelierBook" "pigmentColours" "[I", .fieldLink RX0 13 "AtelierBook" "pigmentOfTube" "[I", .fieldLink RX0 16 "AtelierBook" "gramsInTube" "[I", .fieldLink RX0 19 "AtelierBook" "ledger" "[I", .fieldLink RX0 22 "AtelierBook" "layerCounts" "[I", .fieldLink RX0 25 "AtelierBook" "crackCounts" "[I", .fieldLink RX0 28 "AtelierBook" "latestPrices" "[I", .fieldLink RX0 31 "AtelierBook" "loanDays" "[I", .fieldLink RX0 34 "AtelierBook" "loanHouses" "[I", .fieldLink RX0 37 "AtelierBook" "loanCosts" "[I", .fieldLink RX0 40 "AtelierBook" "houseDamps" "[I", .fieldLink RX0 43 "AtelierBook" "housePayments" "[I"] ++ wsX00)
def wsX0_checkRange : List Cond := .code yX0_checkRange cX0_checkRange 3 none :: ([.classLink RX0 88 "java/lang/IllegalArgumentException", .initialized "java/lang/IllegalArgumentException"] ++ (vx_atS RX0 92 "java/lang/IllegalArgumentException" ["java/lang/RuntimeException", "java/lang/Exception"]).filter goodWord)
def wsX0_checkColour : List Cond := .code yX0_checkColour cX0_checkColour 3 none :: ([.methodLink RX0 65 yX0_checkRange, .static yX0_checkRange, .initialized RX0, .code yX0_checkRange cX0_checkRange 3 none, .classLink RX0 88 "java/lang/IllegalArgumentException", .initialized "java/lang/IllegalArgumentException"] ++ (vx_atS RX0 92 "java/lang/IllegalArgumentException" ["java/lang/RuntimeException", "java/lang/Exception"]).filter goodWord)
def wsX0_pigment : List Cond := .code yX0_pigment cX0_pigment 5 (some .int) :: ([.classLink RX0 54 "java/lang/IllegalStateException", .initialized "java/lang/IllegalStateException", .fieldLink RX0 50 "AtelierBook" "pigmentCount" "I", .fieldLink RX0 9 "AtelierBook" "pigmentColours" "[I", .methodLink RX0 46 yX0_checkColour, .static yX0_checkColour, .initialized RX0, .code yX0_checkColour cX0_checkColour 3 none, .methodLink RX0 65 yX0_checkRange, .static yX0_checkRange, .code yX0_checkRange cX0_checkRange 3 none, .classLink RX0 88 "java/lang/IllegalArgumentException", .initialized "java/lang/IllegalArgumentException"] ++ wsX00 ++ (vx_atS RX0 58 "java/lang/IllegalStateException" ["java/lang/RuntimeException", "java/lang/Exception"]).filter goodWord ++ (vx_atS RX0 92 "java/lang/IllegalArgumentException" ["java/lang/RuntimeException", "java/lang/Exception"]).filter goodWord)
def wsX0_checkNumber : List Cond := .code yX0_checkNumber cX0_checkNumber 2 none :: ([.classLink RX0 161 "java/lang/IndexOutOfBoundsException", .initialized "java/lang/IndexOutOfBoundsException"] ++ (vx_atS RX0 165 "java/lang/IndexOutOfBoundsException" ["java/lang/RuntimeException", "java/lang/Exception"]).filter goodWord)
def wsX0_tube : List Cond := .code yX0_tube cX0_tube 3 (some .int) :: ([.classLink RX0 54 "java/lang/IllegalStateException", .initialized "java/lang/IllegalStateException", .fieldLink RX0 50 "AtelierBook" "pigmentCount" "I", .fieldLink RX0 68 "AtelierBook" "tubeCount" "I", .fieldLink RX0 13 "AtelierBook" "pigmentOfTube" "[I", .fieldLink RX0 16 "AtelierBook" "gramsInTube" "[I", .methodLink RX0 61 yX0_checkNumber, .static yX0_checkNumber, .initialized RX0, .code yX0_checkNumber cX0_checkNumber 2 none, .classLink RX0 161 "java/lang/IndexOutOfBoundsException", .initialized "java/lang/IndexOutOfBoundsException", .methodLink RX0 65 yX0_checkRange, .static yX0_checkRange, .code yX0_checkRange cX0_checkRange 3 none, .classLink RX0 88 "java/lang/IllegalArgumentException", .initialized "java/lang/IllegalArgumentException"] ++ wsX00 ++ (vx_atS RX0 58 "java/lang/IllegalStateException" ["java/lang/RuntimeException", "java/lang/Exception"]).filter goodWord ++ (vx_atS RX0 165 "java/lang/IndexOutOfBoundsException" ["java/lang/RuntimeException", "java/lang/Exception"]).filter goodWord ++ (vx_atS RX0 92 "java/lang/IllegalArgumentException" ["java/lang/RuntimeException", "java/lang/Exception"]).filter goodWord)
def wsX0_pot : List Cond := .code yX0_pot cX0_pot 1 (some .int) :: ([.classLink RX0 54 "java/lang/IllegalStateException", .initialized "java/lang/IllegalStateException", .fieldLink RX0 73 "AtelierBook" "potCount" "I"] ++ wsX00 ++ (vx_atS RX0 58 "java/lang/IllegalStateException" ["java/lang/RuntimeException", "java/lang/Exception"]).filter goodWord)
def wsX0_potRow : List Cond := .code yX0_potRow cX0_potRow 1 (some .int) :: ([])
def wsX0_place : List Cond := .code yX0_place cX0_place 2 (some .int) :: ([])
def wsX0_squeeze : List Cond := .code yX0_squeeze cX0_squeeze 4 (some .int) :: ([.classLink RX0 54 "java/lang/IllegalStateException", .initialized "java/lang/IllegalStateException", .fieldLink RX0 73 "AtelierBook" "potCount" "I", .fieldLink RX0 68 "AtelierBook" "tubeCount" "I", .fieldLink RX0 16 "AtelierBook" "gramsInTube" "[I", .fieldLink RX0 19 "AtelierBook" "ledger" "[I", .methodLink RX0 61 yX0_checkNumber, .static yX0_checkNumber, .initialized RX0, .code yX0_checkNumber cX0_checkNumber 2 none, .classLink RX0 161 "java/lang/IndexOutOfBoundsException", .initialized "java/lang/IndexOutOfBoundsException", .methodLink RX0 65 yX0_checkRange, .static yX0_checkRange, .code yX0_checkRange cX0_checkRange 3 none, .classLink RX0 88 "java/lang/IllegalArgumentException", .initialized "java/lang/IllegalArgumentException", .methodLink RX0 80 yX0_potRow, .static yX0_potRow, .code yX0_potRow cX0_potRow 1 (some .int), .methodLink RX0 84 yX0_place, .static yX0_place, .code yX0_place cX0_place 2 (some .int)] ++ wsX00 ++ (vx_atS RX0 58 "java/lang/IllegalStateException" ["java/lang/RuntimeException", "java/lang/Exception"]).filter goodWord ++ (vx_atS RX0 165 "java/lang/IndexOutOfBoundsException" ["java/lang/RuntimeException", "java/lang/Exception"]).filter goodWord ++ (vx_atS RX0 92 "java/lang/IllegalArgumentException" ["java/lang/RuntimeException", "java/lang/Exception"]).filter goodWord)
def wsX0_sumOfRow : List Cond := .code yX0_sumOfRow cX0_sumOfRow 4 (some .int) :: ([.fieldLink RX0 68 "AtelierBook" "tubeCount" "I", .fieldLink RX0 19 "AtelierBook" "ledger" "[I", .methodLink RX0 84 yX0_place, .static yX0_place, .initialized RX0, .code yX0_place cX0_place 2 (some .int)] ++ wsX00)
def wsX0_move : List Cond := .code yX0_move cX0_move 9 (some .boolean) :: ([.fieldLink RX0 68 "AtelierBook" "tubeCount" "I", .fieldLink RX0 19 "AtelierBook" "ledger" "[I", .methodLink RX0 99 yX0_sumOfRow, .instanceMethod yX0_sumOfRow, .selects RX0 yX0_sumOfRow yX0_sumOfRow, .initialized RX0, .code yX0_sumOfRow cX0_sumOfRow 4 (some .int), .methodLink RX0 84 yX0_place, .static yX0_place, .code yX0_place cX0_place 2 (some .int)] ++ wsX00)
def wsX0_pour_r1 : List Cond := [Cond.classLink RX0 88 "java/lang/IllegalArgumentException", Cond.initialized "java/lang/IllegalArgumentException", Cond.classLink RX0 54 "java/lang/IllegalStateException", Cond.initialized "java/lang/IllegalStateException", Cond.fieldLink RX0 73 "AtelierBook" "potCount" "I", Cond.methodLink RX0 61 yX0_checkNumber, Cond.static yX0_checkNumber, Cond.initialized RX0, Cond.code yX0_checkNumber cX0_checkNumber 2 none, Cond.classLink RX0 161 "java/lang/IndexOutOfBoundsException", Cond.initialized "java/lang/IndexOutOfBoundsException", Cond.methodLink RX0 65 yX0_checkRange, Cond.static yX0_checkRange, Cond.code yX0_checkRange cX0_checkRange 3 none, Cond.methodLink RX0 80 yX0_potRow, Cond.static yX0_potRow, Cond.code yX0_potRow cX0_potRow 1 (some .int), Cond.methodLink RX0 93 yX0_move, Cond.instanceMethod yX0_move, Cond.selects RX0 yX0_move yX0_move, Cond.code yX0_move cX0_move 9 (some .boolean), Cond.fieldLink RX0 68 "AtelierBook" "tubeCount" "I", Cond.fieldLink RX0 19 "AtelierBook" "ledger" "[I", Cond.methodLink RX0 99 yX0_sumOfRow]
def wsX0_pour_r2 : List Cond := [Cond.instanceMethod yX0_sumOfRow, Cond.selects RX0 yX0_sumOfRow yX0_sumOfRow, Cond.code yX0_sumOfRow cX0_sumOfRow 4 (some .int), Cond.methodLink RX0 84 yX0_place, Cond.static yX0_place, Cond.code yX0_place cX0_place 2 (some .int)]
def wsX0_pour : List Cond := .code yX0_pour cX0_pour 4 (some .int) :: ((wsX0_pour_r1 ++ wsX0_pour_r2) ++ wsX00 ++ (vx_atS RX0 92 "java/lang/IllegalArgumentException" ["java/lang/RuntimeException", "java/lang/Exception"]).filter goodWord ++ (vx_atS RX0 58 "java/lang/IllegalStateException" ["java/lang/RuntimeException", "java/lang/Exception"]).filter goodWord ++ (vx_atS RX0 165 "java/lang/IndexOutOfBoundsException" ["java/lang/RuntimeException", "java/lang/Exception"]).filter goodWord)
def wsX0_waste : List Cond := .code yX0_waste cX0_waste 5 (some .int) :: ([.fieldLink RX0 68 "AtelierBook" "tubeCount" "I", .fieldLink RX0 19 "AtelierBook" "ledger" "[I", .methodLink RX0 84 yX0_place, .static yX0_place, .initialized RX0, .code yX0_place cX0_place 2 (some .int)] ++ wsX00)
def wsX0_scrape : List Cond := .code yX0_scrape cX0_scrape 2 (some .int) :: ([.fieldLink RX0 73 "AtelierBook" "potCount" "I", .methodLink RX0 61 yX0_checkNumber, .static yX0_checkNumber, .initialized RX0, .code yX0_checkNumber cX0_checkNumber 2 none, .classLink RX0 161 "java/lang/IndexOutOfBoundsException", .initialized "java/lang/IndexOutOfBoundsException", .methodLink RX0 80 yX0_potRow, .static yX0_potRow, .code yX0_potRow cX0_potRow 1 (some .int), .methodLink RX0 102 yX0_waste, .instanceMethod yX0_waste, .selects RX0 yX0_waste yX0_waste, .code yX0_waste cX0_waste 5 (some .int), .fieldLink RX0 68 "AtelierBook" "tubeCount" "I", .fieldLink RX0 19 "AtelierBook" "ledger" "[I", .methodLink RX0 84 yX0_place, .static yX0_place, .code yX0_place cX0_place 2 (some .int)] ++ wsX00 ++ (vx_atS RX0 165 "java/lang/IndexOutOfBoundsException" ["java/lang/RuntimeException", "java/lang/Exception"]).filter goodWord)
def wsX0_picture : List Cond := .code yX0_picture cX0_picture 1 (some .int) :: ([.classLink RX0 54 "java/lang/IllegalStateException", .initialized "java/lang/IllegalStateException", .fieldLink RX0 105 "AtelierBook" "pictureCount" "I"] ++ wsX00 ++ (vx_atS RX0 58 "java/lang/IllegalStateException" ["java/lang/RuntimeException", "java/lang/Exception"]).filter goodWord)
def wsX0_isLent : List Cond := .code yX0_isLent cX0_isLent 2 (some .boolean) :: ([.fieldLink RX0 31 "AtelierBook" "loanDays" "[I"] ++ wsX00)
def wsX0_checkAtHome : List Cond := .code yX0_checkAtHome cX0_checkAtHome 2 none :: ([.classLink RX0 54 "java/lang/IllegalStateException", .initialized "java/lang/IllegalStateException", .methodLink RX0 143 yX0_isLent, .instanceMethod yX0_isLent, .selects RX0 yX0_isLent yX0_isLent, .initialized RX0, .code yX0_isLent cX0_isLent 2 (some .boolean), .fieldLink RX0 31 "AtelierBook" "loanDays" "[I"] ++ wsX00 ++ (vx_atS RX0 58 "java/lang/IllegalStateException" ["java/lang/RuntimeException", "java/lang/Exception"]).filter goodWord)
def wsX0_layerRow : List Cond := .code yX0_layerRow cX0_layerRow 2 (some .int) :: ([])
def wsX0_paint_r1 : List Cond := [Cond.classLink RX0 54 "java/lang/IllegalStateException", Cond.initialized "java/lang/IllegalStateException", Cond.fieldLink RX0 105 "AtelierBook" "pictureCount" "I", Cond.fieldLink RX0 73 "AtelierBook" "potCount" "I", Cond.fieldLink RX0 22 "AtelierBook" "layerCounts" "[I", Cond.methodLink RX0 61 yX0_checkNumber, Cond.static yX0_checkNumber, Cond.initialized RX0, Cond.code yX0_checkNumber cX0_checkNumber 2 none, Cond.classLink RX0 161 "java/lang/IndexOutOfBoundsException", Cond.initialized "java/lang/IndexOutOfBoundsException", Cond.methodLink RX0 65 yX0_checkRange, Cond.static yX0_checkRange, Cond.code yX0_checkRange cX0_checkRange 3 none, Cond.classLink RX0 88 "java/lang/IllegalArgumentException", Cond.initialized "java/lang/IllegalArgumentException", Cond.methodLink RX0 110 yX0_checkAtHome, Cond.instanceMethod yX0_checkAtHome, Cond.selects RX0 yX0_checkAtHome yX0_checkAtHome, Cond.code yX0_checkAtHome cX0_checkAtHome 2 none, Cond.methodLink RX0 143 yX0_isLent, Cond.instanceMethod yX0_isLent, Cond.selects RX0 yX0_isLent yX0_isLent, Cond.code yX0_isLent cX0_isLent 2 (some .boolean)]
def wsX0_paint_r2 : List Cond := [Cond.fieldLink RX0 31 "AtelierBook" "loanDays" "[I", Cond.methodLink RX0 80 yX0_potRow, Cond.static yX0_potRow, Cond.code yX0_potRow cX0_potRow 1 (some .int), Cond.methodLink RX0 116 yX0_layerRow, Cond.static yX0_layerRow, Cond.code yX0_layerRow cX0_layerRow 2 (some .int), Cond.methodLink RX0 93 yX0_move, Cond.instanceMethod yX0_move, Cond.selects RX0 yX0_move yX0_move, Cond.code yX0_move cX0_move 9 (some .boolean), Cond.fieldLink RX0 68 "AtelierBook" "tubeCount" "I", Cond.fieldLink RX0 19 "AtelierBook" "ledger" "[I", Cond.methodLink RX0 99 yX0_sumOfRow, Cond.instanceMethod yX0_sumOfRow, Cond.selects RX0 yX0_sumOfRow yX0_sumOfRow, Cond.code yX0_sumOfRow cX0_sumOfRow 4 (some .int), Cond.methodLink RX0 84 yX0_place, Cond.static yX0_place, Cond.code yX0_place cX0_place 2 (some .int)]
def wsX0_paint : List Cond := .code yX0_paint cX0_paint 4 (some .int) :: ((wsX0_paint_r1 ++ wsX0_paint_r2) ++ wsX00 ++ (vx_atS RX0 58 "java/lang/IllegalStateException" ["java/lang/RuntimeException", "java/lang/Exception"]).filter goodWord ++ (vx_atS RX0 165 "java/lang/IndexOutOfBoundsException" ["java/lang/RuntimeException", "java/lang/Exception"]).filter goodWord ++ (vx_atS RX0 92 "java/lang/IllegalArgumentException" ["java/lang/RuntimeException", "java/lang/Exception"]).filter goodWord)
def wsX0_clean_r1 : List Cond := [Cond.classLink RX0 54 "java/lang/IllegalStateException", Cond.initialized "java/lang/IllegalStateException", Cond.fieldLink RX0 105 "AtelierBook" "pictureCount" "I", Cond.fieldLink RX0 22 "AtelierBook" "layerCounts" "[I", Cond.methodLink RX0 61 yX0_checkNumber, Cond.static yX0_checkNumber, Cond.initialized RX0, Cond.code yX0_checkNumber cX0_checkNumber 2 none, Cond.classLink RX0 161 "java/lang/IndexOutOfBoundsException", Cond.initialized "java/lang/IndexOutOfBoundsException", Cond.methodLink RX0 65 yX0_checkRange, Cond.static yX0_checkRange, Cond.code yX0_checkRange cX0_checkRange 3 none, Cond.classLink RX0 88 "java/lang/IllegalArgumentException", Cond.initialized "java/lang/IllegalArgumentException", Cond.methodLink RX0 110 yX0_checkAtHome, Cond.instanceMethod yX0_checkAtHome, Cond.selects RX0 yX0_checkAtHome yX0_checkAtHome, Cond.code yX0_checkAtHome cX0_checkAtHome 2 none, Cond.methodLink RX0 143 yX0_isLent, Cond.instanceMethod yX0_isLent, Cond.selects RX0 yX0_isLent yX0_isLent, Cond.code yX0_isLent cX0_isLent 2 (some .boolean), Cond.fieldLink RX0 31 "AtelierBook" "loanDays" "[I"]
def wsX0_clean_r2 : List Cond := [Cond.methodLink RX0 116 yX0_layerRow, Cond.static yX0_layerRow, Cond.code yX0_layerRow cX0_layerRow 2 (some .int), Cond.methodLink RX0 102 yX0_waste, Cond.instanceMethod yX0_waste, Cond.selects RX0 yX0_waste yX0_waste, Cond.code yX0_waste cX0_waste 5 (some .int), Cond.fieldLink RX0 68 "AtelierBook" "tubeCount" "I", Cond.fieldLink RX0 19 "AtelierBook" "ledger" "[I", Cond.methodLink RX0 84 yX0_place, Cond.static yX0_place, Cond.code yX0_place cX0_place 2 (some .int)]
def wsX0_clean : List Cond := .code yX0_clean cX0_clean 5 (some .int) :: ((wsX0_clean_r1 ++ wsX0_clean_r2) ++ wsX00 ++ (vx_atS RX0 58 "java/lang/IllegalStateException" ["java/lang/RuntimeException", "java/lang/Exception"]).filter goodWord ++ (vx_atS RX0 165 "java/lang/IndexOutOfBoundsException" ["java/lang/RuntimeException", "java/lang/Exception"]).filter goodWord ++ (vx_atS RX0 92 "java/lang/IllegalArgumentException" ["java/lang/RuntimeException", "java/lang/Exception"]).filter goodWord)
def wsX0_damp : List Cond := .code yX0_damp cX0_damp 4 (some .int) :: ([.fieldLink RX0 40 "AtelierBook" "houseDamps" "[I", .methodLink RX0 61 yX0_checkNumber, .static yX0_checkNumber, .initialized RX0, .code yX0_checkNumber cX0_checkNumber 2 none, .classLink RX0 161 "java/lang/IndexOutOfBoundsException", .initialized "java/lang/IndexOutOfBoundsException", .methodLink RX0 65 yX0_checkRange, .static yX0_checkRange, .code yX0_checkRange cX0_checkRange 3 none, .classLink RX0 88 "java/lang/IllegalArgumentException", .initialized "java/lang/IllegalArgumentException"] ++ wsX00 ++ (vx_atS RX0 165 "java/lang/IndexOutOfBoundsException" ["java/lang/RuntimeException", "java/lang/Exception"]).filter goodWord ++ (vx_atS RX0 92 "java/lang/IllegalArgumentException" ["java/lang/RuntimeException", "java/lang/Exception"]).filter goodWord)
def wsX0_gramsOfPigment : List Cond := .code yX0_gramsOfPigment cX0_gramsOfPigment 5 (some .int) :: ([.fieldLink RX0 68 "AtelierBook" "tubeCount" "I", .fieldLink RX0 13 "AtelierBook" "pigmentOfTube" "[I", .fieldLink RX0 19 "AtelierBook" "ledger" "[I", .methodLink RX0 84 yX0_place, .static yX0_place, .initialized RX0, .code yX0_place cX0_place 2 (some .int)] ++ wsX00)
def wsX0_mainPigmentOfRow : List Cond := .code yX0_mainPigmentOfRow cX0_mainPigmentOfRow 6 (some .int) :: ([.fieldLink RX0 50 "AtelierBook" "pigmentCount" "I", .methodLink RX0 173 yX0_gramsOfPigment, .instanceMethod yX0_gramsOfPigment, .selects RX0 yX0_gramsOfPigment yX0_gramsOfPigment, .initialized RX0, .code yX0_gramsOfPigment cX0_gramsOfPigment 5 (some .int), .fieldLink RX0 68 "AtelierBook" "tubeCount" "I", .fieldLink RX0 13 "AtelierBook" "pigmentOfTube" "[I", .fieldLink RX0 19 "AtelierBook" "ledger" "[I", .methodLink RX0 84 yX0_place, .static yX0_place, .code yX0_place cX0_place 2 (some .int)] ++ wsX00)
def wsX0_mainPigmentOf : List Cond := .code yX0_mainPigmentOf cX0_mainPigmentOf 3 (some .int) :: ([.fieldLink RX0 22 "AtelierBook" "layerCounts" "[I", .methodLink RX0 116 yX0_layerRow, .static yX0_layerRow, .initialized RX0, .code yX0_layerRow cX0_layerRow 2 (some .int), .methodLink RX0 176 yX0_mainPigmentOfRow, .instanceMethod yX0_mainPigmentOfRow, .selects RX0 yX0_mainPigmentOfRow yX0_mainPigmentOfRow, .code yX0_mainPigmentOfRow cX0_mainPigmentOfRow 6 (some .int), .fieldLink RX0 50 "AtelierBook" "pigmentCount" "I", .methodLink RX0 173 yX0_gramsOfPigment, .instanceMethod yX0_gramsOfPigment, .selects RX0 yX0_gramsOfPigment yX0_gramsOfPigment, .code yX0_gramsOfPigment cX0_gramsOfPigment 5 (some .int), .fieldLink RX0 68 "AtelierBook" "tubeCount" "I", .fieldLink RX0 13 "AtelierBook" "pigmentOfTube" "[I", .fieldLink RX0 19 "AtelierBook" "ledger" "[I", .methodLink RX0 84 yX0_place, .static yX0_place, .code yX0_place cX0_place 2 (some .int)] ++ wsX00)
def wsX0_averagePriceOfAlike_r1 : List Cond := [Cond.fieldLink RX0 105 "AtelierBook" "pictureCount" "I", Cond.fieldLink RX0 28 "AtelierBook" "latestPrices" "[I", Cond.methodLink RX0 140 yX0_mainPigmentOf, Cond.instanceMethod yX0_mainPigmentOf, Cond.selects RX0 yX0_mainPigmentOf yX0_mainPigmentOf, Cond.initialized RX0, Cond.code yX0_mainPigmentOf cX0_mainPigmentOf 3 (some .int), Cond.fieldLink RX0 22 "AtelierBook" "layerCounts" "[I", Cond.methodLink RX0 116 yX0_layerRow, Cond.static yX0_layerRow, Cond.code yX0_layerRow cX0_layerRow 2 (some .int), Cond.methodLink RX0 176 yX0_mainPigmentOfRow, Cond.instanceMethod yX0_mainPigmentOfRow, Cond.selects RX0 yX0_mainPigmentOfRow yX0_mainPigmentOfRow, Cond.code yX0_mainPigmentOfRow cX0_mainPigmentOfRow 6 (some .int), Cond.fieldLink RX0 50 "AtelierBook" "pigmentCount" "I", Cond.methodLink RX0 173 yX0_gramsOfPigment, Cond.instanceMethod yX0_gramsOfPigment, Cond.selects RX0 yX0_gramsOfPigment yX0_gramsOfPigment, Cond.code yX0_gramsOfPigment cX0_gramsOfPigment 5 (some .int), Cond.fieldLink RX0 68 "AtelierBook" "tubeCount" "I", Cond.fieldLink RX0 13 "AtelierBook" "pigmentOfTube" "[I", Cond.fieldLink RX0 19 "AtelierBook" "ledger" "[I", Cond.methodLink RX0 84 yX0_place]
def wsX0_averagePriceOfAlike_r2 : List Cond := [Cond.static yX0_place, Cond.code yX0_place cX0_place 2 (some .int)]
def wsX0_averagePriceOfAlike : List Cond := .code yX0_averagePriceOfAlike cX0_averagePriceOfAlike 6 (some .int) :: ((wsX0_averagePriceOfAlike_r1 ++ wsX0_averagePriceOfAlike_r2) ++ wsX00)
def wsX0_valueOf_r1 : List Cond := [Cond.fieldLink RX0 25 "AtelierBook" "crackCounts" "[I", Cond.methodLink RX0 182 Lib.Math.max.name, Cond.static Lib.Math.max.name, Cond.initialized "java/lang/Math", Cond.code Lib.Math.max.name Lib.Math.max.code 2 (some .int), Cond.methodLink RX0 179 yX0_averagePriceOfAlike, Cond.instanceMethod yX0_averagePriceOfAlike, Cond.selects RX0 yX0_averagePriceOfAlike yX0_averagePriceOfAlike, Cond.initialized RX0, Cond.code yX0_averagePriceOfAlike cX0_averagePriceOfAlike 6 (some .int), Cond.fieldLink RX0 105 "AtelierBook" "pictureCount" "I", Cond.fieldLink RX0 28 "AtelierBook" "latestPrices" "[I", Cond.methodLink RX0 140 yX0_mainPigmentOf, Cond.instanceMethod yX0_mainPigmentOf, Cond.selects RX0 yX0_mainPigmentOf yX0_mainPigmentOf, Cond.code yX0_mainPigmentOf cX0_mainPigmentOf 3 (some .int), Cond.fieldLink RX0 22 "AtelierBook" "layerCounts" "[I", Cond.methodLink RX0 116 yX0_layerRow, Cond.static yX0_layerRow, Cond.code yX0_layerRow cX0_layerRow 2 (some .int), Cond.methodLink RX0 176 yX0_mainPigmentOfRow, Cond.instanceMethod yX0_mainPigmentOfRow, Cond.selects RX0 yX0_mainPigmentOfRow yX0_mainPigmentOfRow, Cond.code yX0_mainPigmentOfRow cX0_mainPigmentOfRow 6 (some .int)]
def wsX0_valueOf_r2 : List Cond := [Cond.fieldLink RX0 50 "AtelierBook" "pigmentCount" "I", Cond.methodLink RX0 173 yX0_gramsOfPigment, Cond.instanceMethod yX0_gramsOfPigment, Cond.selects RX0 yX0_gramsOfPigment yX0_gramsOfPigment, Cond.code yX0_gramsOfPigment cX0_gramsOfPigment 5 (some .int), Cond.fieldLink RX0 68 "AtelierBook" "tubeCount" "I", Cond.fieldLink RX0 13 "AtelierBook" "pigmentOfTube" "[I", Cond.fieldLink RX0 19 "AtelierBook" "ledger" "[I", Cond.methodLink RX0 84 yX0_place, Cond.static yX0_place, Cond.code yX0_place cX0_place 2 (some .int)]
def wsX0_valueOf : List Cond := .code yX0_valueOf cX0_valueOf 3 (some .int) :: ((wsX0_valueOf_r1 ++ wsX0_valueOf_r2) ++ wsX00)
def wsX0_lend_r1 : List Cond := [Cond.classLink RX0 54 "java/lang/IllegalStateException", Cond.initialized "java/lang/IllegalStateException", Cond.fieldLink RX0 105 "AtelierBook" "pictureCount" "I", Cond.fieldLink RX0 25 "AtelierBook" "crackCounts" "[I", Cond.fieldLink RX0 37 "AtelierBook" "loanCosts" "[I", Cond.fieldLink RX0 34 "AtelierBook" "loanHouses" "[I", Cond.fieldLink RX0 31 "AtelierBook" "loanDays" "[I", Cond.methodLink RX0 61 yX0_checkNumber, Cond.static yX0_checkNumber, Cond.initialized RX0, Cond.code yX0_checkNumber cX0_checkNumber 2 none, Cond.classLink RX0 161 "java/lang/IndexOutOfBoundsException", Cond.initialized "java/lang/IndexOutOfBoundsException", Cond.methodLink RX0 65 yX0_checkRange, Cond.static yX0_checkRange, Cond.code yX0_checkRange cX0_checkRange 3 none, Cond.classLink RX0 88 "java/lang/IllegalArgumentException", Cond.initialized "java/lang/IllegalArgumentException", Cond.methodLink RX0 110 yX0_checkAtHome, Cond.instanceMethod yX0_checkAtHome, Cond.selects RX0 yX0_checkAtHome yX0_checkAtHome, Cond.code yX0_checkAtHome cX0_checkAtHome 2 none, Cond.methodLink RX0 143 yX0_isLent, Cond.instanceMethod yX0_isLent]
def wsX0_lend_r2 : List Cond := [Cond.selects RX0 yX0_isLent yX0_isLent, Cond.code yX0_isLent cX0_isLent 2 (some .boolean), Cond.methodLink RX0 123 yX0_valueOf, Cond.instanceMethod yX0_valueOf, Cond.selects RX0 yX0_valueOf yX0_valueOf, Cond.code yX0_valueOf cX0_valueOf 3 (some .int), Cond.methodLink RX0 182 Lib.Math.max.name, Cond.static Lib.Math.max.name, Cond.initialized "java/lang/Math", Cond.code Lib.Math.max.name Lib.Math.max.code 2 (some .int), Cond.methodLink RX0 179 yX0_averagePriceOfAlike, Cond.instanceMethod yX0_averagePriceOfAlike, Cond.selects RX0 yX0_averagePriceOfAlike yX0_averagePriceOfAlike, Cond.code yX0_averagePriceOfAlike cX0_averagePriceOfAlike 6 (some .int), Cond.fieldLink RX0 28 "AtelierBook" "latestPrices" "[I", Cond.methodLink RX0 140 yX0_mainPigmentOf, Cond.instanceMethod yX0_mainPigmentOf, Cond.selects RX0 yX0_mainPigmentOf yX0_mainPigmentOf, Cond.code yX0_mainPigmentOf cX0_mainPigmentOf 3 (some .int), Cond.fieldLink RX0 22 "AtelierBook" "layerCounts" "[I", Cond.methodLink RX0 116 yX0_layerRow, Cond.static yX0_layerRow, Cond.code yX0_layerRow cX0_layerRow 2 (some .int), Cond.methodLink RX0 176 yX0_mainPigmentOfRow]
def wsX0_lend_r3 : List Cond := [Cond.instanceMethod yX0_mainPigmentOfRow, Cond.selects RX0 yX0_mainPigmentOfRow yX0_mainPigmentOfRow, Cond.code yX0_mainPigmentOfRow cX0_mainPigmentOfRow 6 (some .int), Cond.fieldLink RX0 50 "AtelierBook" "pigmentCount" "I", Cond.methodLink RX0 173 yX0_gramsOfPigment, Cond.instanceMethod yX0_gramsOfPigment, Cond.selects RX0 yX0_gramsOfPigment yX0_gramsOfPigment, Cond.code yX0_gramsOfPigment cX0_gramsOfPigment 5 (some .int), Cond.fieldLink RX0 68 "AtelierBook" "tubeCount" "I", Cond.fieldLink RX0 13 "AtelierBook" "pigmentOfTube" "[I", Cond.fieldLink RX0 19 "AtelierBook" "ledger" "[I", Cond.methodLink RX0 84 yX0_place, Cond.static yX0_place, Cond.code yX0_place cX0_place 2 (some .int)]
def wsX0_lend : List Cond := .code yX0_lend cX0_lend 4 (some .int) :: ((wsX0_lend_r1 ++ (wsX0_lend_r2 ++ wsX0_lend_r3)) ++ wsX00 ++ (vx_atS RX0 58 "java/lang/IllegalStateException" ["java/lang/RuntimeException", "java/lang/Exception"]).filter goodWord ++ (vx_atS RX0 165 "java/lang/IndexOutOfBoundsException" ["java/lang/RuntimeException", "java/lang/Exception"]).filter goodWord ++ (vx_atS RX0 92 "java/lang/IllegalArgumentException" ["java/lang/RuntimeException", "java/lang/Exception"]).filter goodWord)
def wsX0_sell_r1 : List Cond := [Cond.classLink RX0 54 "java/lang/IllegalStateException", Cond.initialized "java/lang/IllegalStateException", Cond.fieldLink RX0 105 "AtelierBook" "pictureCount" "I", Cond.constant RX0 126 (100000), Cond.fieldLink RX0 22 "AtelierBook" "layerCounts" "[I", Cond.fieldLink RX0 28 "AtelierBook" "latestPrices" "[I", Cond.methodLink RX0 61 yX0_checkNumber, Cond.static yX0_checkNumber, Cond.initialized RX0, Cond.code yX0_checkNumber cX0_checkNumber 2 none, Cond.classLink RX0 161 "java/lang/IndexOutOfBoundsException", Cond.initialized "java/lang/IndexOutOfBoundsException", Cond.methodLink RX0 65 yX0_checkRange, Cond.static yX0_checkRange, Cond.code yX0_checkRange cX0_checkRange 3 none, Cond.classLink RX0 88 "java/lang/IllegalArgumentException", Cond.initialized "java/lang/IllegalArgumentException", Cond.methodLink RX0 110 yX0_checkAtHome, Cond.instanceMethod yX0_checkAtHome, Cond.selects RX0 yX0_checkAtHome yX0_checkAtHome, Cond.code yX0_checkAtHome cX0_checkAtHome 2 none, Cond.methodLink RX0 143 yX0_isLent, Cond.instanceMethod yX0_isLent, Cond.selects RX0 yX0_isLent yX0_isLent]
def wsX0_sell_r2 : List Cond := [Cond.code yX0_isLent cX0_isLent 2 (some .boolean), Cond.fieldLink RX0 31 "AtelierBook" "loanDays" "[I", Cond.methodLink RX0 123 yX0_valueOf, Cond.instanceMethod yX0_valueOf, Cond.selects RX0 yX0_valueOf yX0_valueOf, Cond.code yX0_valueOf cX0_valueOf 3 (some .int), Cond.fieldLink RX0 25 "AtelierBook" "crackCounts" "[I", Cond.methodLink RX0 182 Lib.Math.max.name, Cond.static Lib.Math.max.name, Cond.initialized "java/lang/Math", Cond.code Lib.Math.max.name Lib.Math.max.code 2 (some .int), Cond.methodLink RX0 179 yX0_averagePriceOfAlike, Cond.instanceMethod yX0_averagePriceOfAlike, Cond.selects RX0 yX0_averagePriceOfAlike yX0_averagePriceOfAlike, Cond.code yX0_averagePriceOfAlike cX0_averagePriceOfAlike 6 (some .int), Cond.methodLink RX0 140 yX0_mainPigmentOf, Cond.instanceMethod yX0_mainPigmentOf, Cond.selects RX0 yX0_mainPigmentOf yX0_mainPigmentOf, Cond.code yX0_mainPigmentOf cX0_mainPigmentOf 3 (some .int), Cond.methodLink RX0 116 yX0_layerRow, Cond.static yX0_layerRow, Cond.code yX0_layerRow cX0_layerRow 2 (some .int), Cond.methodLink RX0 176 yX0_mainPigmentOfRow, Cond.instanceMethod yX0_mainPigmentOfRow]
def wsX0_sell_r3 : List Cond := [Cond.selects RX0 yX0_mainPigmentOfRow yX0_mainPigmentOfRow, Cond.code yX0_mainPigmentOfRow cX0_mainPigmentOfRow 6 (some .int), Cond.fieldLink RX0 50 "AtelierBook" "pigmentCount" "I", Cond.methodLink RX0 173 yX0_gramsOfPigment, Cond.instanceMethod yX0_gramsOfPigment, Cond.selects RX0 yX0_gramsOfPigment yX0_gramsOfPigment, Cond.code yX0_gramsOfPigment cX0_gramsOfPigment 5 (some .int), Cond.fieldLink RX0 68 "AtelierBook" "tubeCount" "I", Cond.fieldLink RX0 13 "AtelierBook" "pigmentOfTube" "[I", Cond.fieldLink RX0 19 "AtelierBook" "ledger" "[I", Cond.methodLink RX0 84 yX0_place, Cond.static yX0_place, Cond.code yX0_place cX0_place 2 (some .int)]
def wsX0_sell : List Cond := .code yX0_sell cX0_sell 3 (some .int) :: ((wsX0_sell_r1 ++ (wsX0_sell_r2 ++ wsX0_sell_r3)) ++ wsX00 ++ (vx_atS RX0 58 "java/lang/IllegalStateException" ["java/lang/RuntimeException", "java/lang/Exception"]).filter goodWord ++ (vx_atS RX0 165 "java/lang/IndexOutOfBoundsException" ["java/lang/RuntimeException", "java/lang/Exception"]).filter goodWord ++ (vx_atS RX0 92 "java/lang/IllegalArgumentException" ["java/lang/RuntimeException", "java/lang/Exception"]).filter goodWord)
def wsX0_passForLoan : List Cond := .code yX0_passForLoan cX0_passForLoan 5 none :: ([.fieldLink RX0 31 "AtelierBook" "loanDays" "[I", .methodLink RX0 187 Lib.Math.min.name, .static Lib.Math.min.name, .initialized "java/lang/Math", .code Lib.Math.min.name Lib.Math.min.code 2 (some .int), .fieldLink RX0 34 "AtelierBook" "loanHouses" "[I", .fieldLink RX0 40 "AtelierBook" "houseDamps" "[I", .methodLink RX0 190 Lib.Math.abs.name, .static Lib.Math.abs.name, .code Lib.Math.abs.name Lib.Math.abs.code 1 (some .int), .fieldLink RX0 25 "AtelierBook" "crackCounts" "[I", .fieldLink RX0 43 "AtelierBook" "housePayments" "[I", .fieldLink RX0 37 "AtelierBook" "loanCosts" "[I"] ++ wsX00)
def wsX0_pass_r1 : List Cond := [Cond.classLink RX0 54 "java/lang/IllegalStateException", Cond.initialized "java/lang/IllegalStateException", Cond.fieldLink RX0 129 "AtelierBook" "today" "I", Cond.fieldLink RX0 105 "AtelierBook" "pictureCount" "I", Cond.methodLink RX0 65 yX0_checkRange, Cond.static yX0_checkRange, Cond.initialized RX0, Cond.code yX0_checkRange cX0_checkRange 3 none, Cond.classLink RX0 88 "java/lang/IllegalArgumentException", Cond.initialized "java/lang/IllegalArgumentException", Cond.methodLink RX0 134 yX0_passForLoan, Cond.instanceMethod yX0_passForLoan, Cond.selects RX0 yX0_passForLoan yX0_passForLoan, Cond.code yX0_passForLoan cX0_passForLoan 5 none, Cond.fieldLink RX0 31 "AtelierBook" "loanDays" "[I", Cond.methodLink RX0 187 Lib.Math.min.name, Cond.static Lib.Math.min.name, Cond.initialized "java/lang/Math", Cond.code Lib.Math.min.name Lib.Math.min.code 2 (some .int), Cond.fieldLink RX0 34 "AtelierBook" "loanHouses" "[I", Cond.fieldLink RX0 40 "AtelierBook" "houseDamps" "[I", Cond.methodLink RX0 190 Lib.Math.abs.name, Cond.static Lib.Math.abs.name, Cond.code Lib.Math.abs.name Lib.Math.abs.code 1 (some .int)]
def wsX0_pass_r2 : List Cond := [Cond.fieldLink RX0 25 "AtelierBook" "crackCounts" "[I", Cond.fieldLink RX0 43 "AtelierBook" "housePayments" "[I", Cond.fieldLink RX0 37 "AtelierBook" "loanCosts" "[I"]
def wsX0_pass : List Cond := .code yX0_pass cX0_pass 3 (some .int) :: ((wsX0_pass_r1 ++ wsX0_pass_r2) ++ wsX00 ++ (vx_atS RX0 58 "java/lang/IllegalStateException" ["java/lang/RuntimeException", "java/lang/Exception"]).filter goodWord ++ (vx_atS RX0 92 "java/lang/IllegalArgumentException" ["java/lang/RuntimeException", "java/lang/Exception"]).filter goodWord)
def wsX0_left : List Cond := .code yX0_left cX0_left 2 (some .int) :: ([.fieldLink RX0 68 "AtelierBook" "tubeCount" "I", .fieldLink RX0 16 "AtelierBook" "gramsInTube" "[I", .methodLink RX0 61 yX0_checkNumber, .static yX0_checkNumber, .initialized RX0, .code yX0_checkNumber cX0_checkNumber 2 none, .classLink RX0 161 "java/lang/IndexOutOfBoundsException", .initialized "java/lang/IndexOutOfBoundsException"] ++ wsX00 ++ (vx_atS RX0 165 "java/lang/IndexOutOfBoundsException" ["java/lang/RuntimeException", "java/lang/Exception"]).filter goodWord)
def wsX0_has : List Cond := .code yX0_has cX0_has 3 (some .int) :: ([.fieldLink RX0 73 "AtelierBook" "potCount" "I", .fieldLink RX0 68 "AtelierBook" "tubeCount" "I", .fieldLink RX0 19 "AtelierBook" "ledger" "[I", .methodLink RX0 61 yX0_checkNumber, .static yX0_checkNumber, .initialized RX0, .code yX0_checkNumber cX0_checkNumber 2 none, .classLink RX0 161 "java/lang/IndexOutOfBoundsException", .initialized "java/lang/IndexOutOfBoundsException", .methodLink RX0 80 yX0_potRow, .static yX0_potRow, .code yX0_potRow cX0_potRow 1 (some .int), .methodLink RX0 99 yX0_sumOfRow, .instanceMethod yX0_sumOfRow, .selects RX0 yX0_sumOfRow yX0_sumOfRow, .code yX0_sumOfRow cX0_sumOfRow 4 (some .int), .methodLink RX0 84 yX0_place, .static yX0_place, .code yX0_place cX0_place 2 (some .int)] ++ wsX00 ++ (vx_atS RX0 165 "java/lang/IndexOutOfBoundsException" ["java/lang/RuntimeException", "java/lang/Exception"]).filter goodWord)
def wsX0_colourOfTube : List Cond := .code yX0_colourOfTube cX0_colourOfTube 3 (some .int) :: ([.fieldLink RX0 9 "AtelierBook" "pigmentColours" "[I", .fieldLink RX0 13 "AtelierBook" "pigmentOfTube" "[I"] ++ wsX00)
def wsX0_colourOfRow : List Cond := .code yX0_colourOfRow cX0_colourOfRow 7 (some .int) :: ([.fieldLink RX0 68 "AtelierBook" "tubeCount" "I", .fieldLink RX0 19 "AtelierBook" "ledger" "[I", .methodLink RX0 84 yX0_place, .static yX0_place, .initialized RX0, .code yX0_place cX0_place 2 (some .int), .methodLink RX0 170 yX0_colourOfTube, .instanceMethod yX0_colourOfTube, .selects RX0 yX0_colourOfTube yX0_colourOfTube, .code yX0_colourOfTube cX0_colourOfTube 3 (some .int), .fieldLink RX0 9 "AtelierBook" "pigmentColours" "[I", .fieldLink RX0 13 "AtelierBook" "pigmentOfTube" "[I"] ++ wsX00)
def wsX0_colour_r1 : List Cond := [Cond.fieldLink RX0 73 "AtelierBook" "potCount" "I", Cond.methodLink RX0 61 yX0_checkNumber, Cond.static yX0_checkNumber, Cond.initialized RX0, Cond.code yX0_checkNumber cX0_checkNumber 2 none, Cond.classLink RX0 161 "java/lang/IndexOutOfBoundsException", Cond.initialized "java/lang/IndexOutOfBoundsException", Cond.methodLink RX0 65 yX0_checkRange, Cond.static yX0_checkRange, Cond.code yX0_checkRange cX0_checkRange 3 none, Cond.classLink RX0 88 "java/lang/IllegalArgumentException", Cond.initialized "java/lang/IllegalArgumentException", Cond.methodLink RX0 80 yX0_potRow, Cond.static yX0_potRow, Cond.code yX0_potRow cX0_potRow 1 (some .int), Cond.methodLink RX0 137 yX0_colourOfRow, Cond.instanceMethod yX0_colourOfRow, Cond.selects RX0 yX0_colourOfRow yX0_colourOfRow, Cond.code yX0_colourOfRow cX0_colourOfRow 7 (some .int), Cond.fieldLink RX0 68 "AtelierBook" "tubeCount" "I", Cond.fieldLink RX0 19 "AtelierBook" "ledger" "[I", Cond.methodLink RX0 84 yX0_place, Cond.static yX0_place, Cond.code yX0_place cX0_place 2 (some .int)]
def wsX0_colour_r2 : List Cond := [Cond.methodLink RX0 170 yX0_colourOfTube, Cond.instanceMethod yX0_colourOfTube, Cond.selects RX0 yX0_colourOfTube yX0_colourOfTube, Cond.code yX0_colourOfTube cX0_colourOfTube 3 (some .int), Cond.fieldLink RX0 9 "AtelierBook" "pigmentColours" "[I", Cond.fieldLink RX0 13 "AtelierBook" "pigmentOfTube" "[I"]
def wsX0_colour : List Cond := .code yX0_colour cX0_colour 3 (some .int) :: ((wsX0_colour_r1 ++ wsX0_colour_r2) ++ wsX00 ++ (vx_atS RX0 165 "java/lang/IndexOutOfBoundsException" ["java/lang/RuntimeException", "java/lang/Exception"]).filter goodWord ++ (vx_atS RX0 92 "java/lang/IllegalArgumentException" ["java/lang/RuntimeException", "java/lang/Exception"]).filter goodWord)
def wsX0_lookOf : List Cond := .code yX0_lookOf cX0_lookOf 4 (some .int) :: ([.fieldLink RX0 22 "AtelierBook" "layerCounts" "[I", .methodLink RX0 116 yX0_layerRow, .static yX0_layerRow, .initialized RX0, .code yX0_layerRow cX0_layerRow 2 (some .int), .methodLink RX0 137 yX0_colourOfRow, .instanceMethod yX0_colourOfRow, .selects RX0 yX0_colourOfRow yX0_colourOfRow, .code yX0_colourOfRow cX0_colourOfRow 7 (some .int), .fieldLink RX0 68 "AtelierBook" "tubeCount" "I", .fieldLink RX0 19 "AtelierBook" "ledger" "[I", .methodLink RX0 84 yX0_place, .static yX0_place, .code yX0_place cX0_place 2 (some .int), .methodLink RX0 170 yX0_colourOfTube, .instanceMethod yX0_colourOfTube, .selects RX0 yX0_colourOfTube yX0_colourOfTube, .code yX0_colourOfTube cX0_colourOfTube 3 (some .int), .fieldLink RX0 9 "AtelierBook" "pigmentColours" "[I", .fieldLink RX0 13 "AtelierBook" "pigmentOfTube" "[I"] ++ wsX00)
def wsX0_of_r1 : List Cond := [Cond.fieldLink RX0 105 "AtelierBook" "pictureCount" "I", Cond.fieldLink RX0 22 "AtelierBook" "layerCounts" "[I", Cond.fieldLink RX0 25 "AtelierBook" "crackCounts" "[I", Cond.fieldLink RX0 34 "AtelierBook" "loanHouses" "[I", Cond.fieldLink RX0 31 "AtelierBook" "loanDays" "[I", Cond.methodLink RX0 61 yX0_checkNumber, Cond.static yX0_checkNumber, Cond.initialized RX0, Cond.code yX0_checkNumber cX0_checkNumber 2 none, Cond.classLink RX0 161 "java/lang/IndexOutOfBoundsException", Cond.initialized "java/lang/IndexOutOfBoundsException", Cond.methodLink RX0 65 yX0_checkRange, Cond.static yX0_checkRange, Cond.code yX0_checkRange cX0_checkRange 3 none, Cond.classLink RX0 88 "java/lang/IllegalArgumentException", Cond.initialized "java/lang/IllegalArgumentException", Cond.methodLink RX0 123 yX0_valueOf, Cond.instanceMethod yX0_valueOf, Cond.selects RX0 yX0_valueOf yX0_valueOf, Cond.code yX0_valueOf cX0_valueOf 3 (some .int), Cond.methodLink RX0 182 Lib.Math.max.name, Cond.static Lib.Math.max.name, Cond.initialized "java/lang/Math", Cond.code Lib.Math.max.name Lib.Math.max.code 2 (some .int)]
def wsX0_of_r2 : List Cond := [Cond.methodLink RX0 179 yX0_averagePriceOfAlike, Cond.instanceMethod yX0_averagePriceOfAlike, Cond.selects RX0 yX0_averagePriceOfAlike yX0_averagePriceOfAlike, Cond.code yX0_averagePriceOfAlike cX0_averagePriceOfAlike 6 (some .int), Cond.fieldLink RX0 28 "AtelierBook" "latestPrices" "[I", Cond.methodLink RX0 140 yX0_mainPigmentOf, Cond.instanceMethod yX0_mainPigmentOf, Cond.selects RX0 yX0_mainPigmentOf yX0_mainPigmentOf, Cond.code yX0_mainPigmentOf cX0_mainPigmentOf 3 (some .int), Cond.methodLink RX0 116 yX0_layerRow, Cond.static yX0_layerRow, Cond.code yX0_layerRow cX0_layerRow 2 (some .int), Cond.methodLink RX0 176 yX0_mainPigmentOfRow, Cond.instanceMethod yX0_mainPigmentOfRow, Cond.selects RX0 yX0_mainPigmentOfRow yX0_mainPigmentOfRow, Cond.code yX0_mainPigmentOfRow cX0_mainPigmentOfRow 6 (some .int), Cond.fieldLink RX0 50 "AtelierBook" "pigmentCount" "I", Cond.methodLink RX0 173 yX0_gramsOfPigment, Cond.instanceMethod yX0_gramsOfPigment, Cond.selects RX0 yX0_gramsOfPigment yX0_gramsOfPigment, Cond.code yX0_gramsOfPigment cX0_gramsOfPigment 5 (some .int), Cond.fieldLink RX0 68 "AtelierBook" "tubeCount" "I", Cond.fieldLink RX0 13 "AtelierBook" "pigmentOfTube" "[I", Cond.fieldLink RX0 19 "AtelierBook" "ledger" "[I"]
def wsX0_of_r3 : List Cond := [Cond.methodLink RX0 84 yX0_place, Cond.static yX0_place, Cond.code yX0_place cX0_place 2 (some .int), Cond.methodLink RX0 143 yX0_isLent, Cond.instanceMethod yX0_isLent, Cond.selects RX0 yX0_isLent yX0_isLent, Cond.code yX0_isLent cX0_isLent 2 (some .boolean), Cond.methodLink RX0 147 yX0_lookOf, Cond.instanceMethod yX0_lookOf, Cond.selects RX0 yX0_lookOf yX0_lookOf, Cond.code yX0_lookOf cX0_lookOf 4 (some .int), Cond.methodLink RX0 137 yX0_colourOfRow, Cond.instanceMethod yX0_colourOfRow, Cond.selects RX0 yX0_colourOfRow yX0_colourOfRow, Cond.code yX0_colourOfRow cX0_colourOfRow 7 (some .int), Cond.methodLink RX0 170 yX0_colourOfTube, Cond.instanceMethod yX0_colourOfTube, Cond.selects RX0 yX0_colourOfTube yX0_colourOfTube, Cond.code yX0_colourOfTube cX0_colourOfTube 3 (some .int), Cond.fieldLink RX0 9 "AtelierBook" "pigmentColours" "[I"]
def wsX0_of : List Cond := .code yX0_of cX0_of 3 (some .int) :: ((wsX0_of_r1 ++ (wsX0_of_r2 ++ wsX0_of_r3)) ++ wsX00 ++ (vx_atS RX0 165 "java/lang/IndexOutOfBoundsException" ["java/lang/RuntimeException", "java/lang/Exception"]).filter goodWord ++ (vx_atS RX0 92 "java/lang/IllegalArgumentException" ["java/lang/RuntimeException", "java/lang/Exception"]).filter goodWord)
def wsX0_layer : List Cond := .code yX0_layer cX0_layer 4 (some .int) :: ([.fieldLink RX0 105 "AtelierBook" "pictureCount" "I", .fieldLink RX0 22 "AtelierBook" "layerCounts" "[I", .fieldLink RX0 68 "AtelierBook" "tubeCount" "I", .fieldLink RX0 19 "AtelierBook" "ledger" "[I", .methodLink RX0 61 yX0_checkNumber, .static yX0_checkNumber, .initialized RX0, .code yX0_checkNumber cX0_checkNumber 2 none, .classLink RX0 161 "java/lang/IndexOutOfBoundsException", .initialized "java/lang/IndexOutOfBoundsException", .methodLink RX0 116 yX0_layerRow, .static yX0_layerRow, .code yX0_layerRow cX0_layerRow 2 (some .int), .methodLink RX0 84 yX0_place, .static yX0_place, .code yX0_place cX0_place 2 (some .int)] ++ wsX00 ++ (vx_atS RX0 165 "java/lang/IndexOutOfBoundsException" ["java/lang/RuntimeException", "java/lang/Exception"]).filter goodWord)
def wsX0_sumOfTube : List Cond := .code yX0_sumOfTube cX0_sumOfTube 6 (some .int) :: ([.fieldLink RX0 19 "AtelierBook" "ledger" "[I", .methodLink RX0 84 yX0_place, .static yX0_place, .initialized RX0, .code yX0_place cX0_place 2 (some .int)] ++ wsX00)
def wsX0_where : List Cond := .code yX0_where cX0_where 3 (some .int) :: ([.fieldLink RX0 68 "AtelierBook" "tubeCount" "I", .fieldLink RX0 16 "AtelierBook" "gramsInTube" "[I", .methodLink RX0 61 yX0_checkNumber, .static yX0_checkNumber, .initialized RX0, .code yX0_checkNumber cX0_checkNumber 2 none, .classLink RX0 161 "java/lang/IndexOutOfBoundsException", .initialized "java/lang/IndexOutOfBoundsException", .methodLink RX0 65 yX0_checkRange, .static yX0_checkRange, .code yX0_checkRange cX0_checkRange 3 none, .classLink RX0 88 "java/lang/IllegalArgumentException", .initialized "java/lang/IllegalArgumentException", .methodLink RX0 150 yX0_sumOfTube, .instanceMethod yX0_sumOfTube, .selects RX0 yX0_sumOfTube yX0_sumOfTube, .code yX0_sumOfTube cX0_sumOfTube 6 (some .int), .fieldLink RX0 19 "AtelierBook" "ledger" "[I", .methodLink RX0 84 yX0_place, .static yX0_place, .code yX0_place cX0_place 2 (some .int)] ++ wsX00 ++ (vx_atS RX0 165 "java/lang/IndexOutOfBoundsException" ["java/lang/RuntimeException", "java/lang/Exception"]).filter goodWord ++ (vx_atS RX0 92 "java/lang/IllegalArgumentException" ["java/lang/RuntimeException", "java/lang/Exception"]).filter goodWord)
def wsX0_mixed : List Cond := .code yX0_mixed cX0_mixed 5 (some .int) :: ([.methodLink RX0 170 yX0_colourOfTube, .instanceMethod yX0_colourOfTube, .selects RX0 yX0_colourOfTube yX0_colourOfTube, .initialized RX0, .code yX0_colourOfTube cX0_colourOfTube 3 (some .int), .fieldLink RX0 9 "AtelierBook" "pigmentColours" "[I", .fieldLink RX0 13 "AtelierBook" "pigmentOfTube" "[I"] ++ wsX00)
def wsX0_square : List Cond := .code yX0_square cX0_square 1 (some .int) :: ([])
def wsX0_recipe : List Cond := .code yX0_recipe cX0_recipe 10 (some .int) :: ([.fieldLink RX0 68 "AtelierBook" "tubeCount" "I", .fieldLink RX0 16 "AtelierBook" "gramsInTube" "[I", .methodLink RX0 46 yX0_checkColour, .static yX0_checkColour, .initialized RX0, .code yX0_checkColour cX0_checkColour 3 none, .methodLink RX0 65 yX0_checkRange, .static yX0_checkRange, .code yX0_checkRange cX0_checkRange 3 none, .classLink RX0 88 "java/lang/IllegalArgumentException", .initialized "java/lang/IllegalArgumentException", .methodLink RX0 154 yX0_mixed, .instanceMethod yX0_mixed, .selects RX0 yX0_mixed yX0_mixed, .code yX0_mixed cX0_mixed 5 (some .int), .methodLink RX0 170 yX0_colourOfTube, .instanceMethod yX0_colourOfTube, .selects RX0 yX0_colourOfTube yX0_colourOfTube, .code yX0_colourOfTube cX0_colourOfTube 3 (some .int), .fieldLink RX0 9 "AtelierBook" "pigmentColours" "[I", .fieldLink RX0 13 "AtelierBook" "pigmentOfTube" "[I", .methodLink RX0 158 yX0_square, .static yX0_square, .code yX0_square cX0_square 1 (some .int)] ++ wsX00 ++ (vx_atS RX0 92 "java/lang/IllegalArgumentException" ["java/lang/RuntimeException", "java/lang/Exception"]).filter goodWord)
def wsX0_paid : List Cond := .code yX0_paid cX0_paid 2 (some .int) :: ([.fieldLink RX0 43 "AtelierBook" "housePayments" "[I", .methodLink RX0 61 yX0_checkNumber, .static yX0_checkNumber, .initialized RX0, .code yX0_checkNumber cX0_checkNumber 2 none, .classLink RX0 161 "java/lang/IndexOutOfBoundsException", .initialized "java/lang/IndexOutOfBoundsException"] ++ wsX00 ++ (vx_atS RX0 165 "java/lang/IndexOutOfBoundsException" ["java/lang/RuntimeException", "java/lang/Exception"]).filter goodWord)
def wsJ9_abs_0f7a4 : List Cond := .code yJ9_abs_0f7a4 cJ9_abs_0f7a4 1 (some .int) :: ([])
def wsJ9_max_7cf53 : List Cond := .code yJ9_max_7cf53 cJ9_max_7cf53 2 (some .int) :: ([])
def wsJ9_min_7cf53 : List Cond := .code yJ9_min_7cf53 cJ9_min_7cf53 2 (some .int) :: ([])
def wsL_cell : List Cond := .code yL_cell cL_cell 2 (some .int) :: ([.constant RL 7 (51257), .constant RL 8 (3087707)])
def wsL_low : List Cond := .code yL_low cL_low 2 (some .int) :: ([.constant RL 9 (2147483647)])
def wsL_calls_r1 : List Cond := [Cond.classLink RL 32 "java/lang/IllegalStateException", Cond.methodLink RL 10 yX0_squeeze, Cond.instanceMethod yX0_squeeze, Cond.selects RX0 yX0_squeeze yX0_squeeze, Cond.initialized RX0, Cond.code yX0_squeeze cX0_squeeze 4 (some .int), Cond.classLink RX0 54 "java/lang/IllegalStateException", Cond.initialized "java/lang/IllegalStateException", Cond.fieldLink RX0 73 "AtelierBook" "potCount" "I", Cond.fieldLink RX0 68 "AtelierBook" "tubeCount" "I", Cond.fieldLink RX0 16 "AtelierBook" "gramsInTube" "[I", Cond.fieldLink RX0 19 "AtelierBook" "ledger" "[I", Cond.methodLink RX0 61 yX0_checkNumber, Cond.static yX0_checkNumber, Cond.code yX0_checkNumber cX0_checkNumber 2 none, Cond.classLink RX0 161 "java/lang/IndexOutOfBoundsException", Cond.initialized "java/lang/IndexOutOfBoundsException", Cond.methodLink RX0 65 yX0_checkRange, Cond.static yX0_checkRange, Cond.code yX0_checkRange cX0_checkRange 3 none, Cond.classLink RX0 88 "java/lang/IllegalArgumentException", Cond.initialized "java/lang/IllegalArgumentException", Cond.methodLink RX0 80 yX0_potRow, Cond.static yX0_potRow]
def wsL_calls_r2 : List Cond := [Cond.code yX0_potRow cX0_potRow 1 (some .int), Cond.methodLink RX0 84 yX0_place, Cond.static yX0_place, Cond.code yX0_place cX0_place 2 (some .int), Cond.methodLink RL 16 yX0_pour, Cond.instanceMethod yX0_pour, Cond.selects RX0 yX0_pour yX0_pour, Cond.code yX0_pour cX0_pour 4 (some .int), Cond.methodLink RX0 93 yX0_move, Cond.instanceMethod yX0_move, Cond.selects RX0 yX0_move yX0_move, Cond.code yX0_move cX0_move 9 (some .boolean), Cond.methodLink RX0 99 yX0_sumOfRow, Cond.instanceMethod yX0_sumOfRow, Cond.selects RX0 yX0_sumOfRow yX0_sumOfRow, Cond.code yX0_sumOfRow cX0_sumOfRow 4 (some .int), Cond.methodLink RL 19 yX0_paint, Cond.instanceMethod yX0_paint, Cond.selects RX0 yX0_paint yX0_paint, Cond.code yX0_paint cX0_paint 4 (some .int), Cond.fieldLink RX0 105 "AtelierBook" "pictureCount" "I", Cond.fieldLink RX0 22 "AtelierBook" "layerCounts" "[I", Cond.methodLink RX0 110 yX0_checkAtHome, Cond.instanceMethod yX0_checkAtHome]
def wsL_calls_r3 : List Cond := [Cond.selects RX0 yX0_checkAtHome yX0_checkAtHome, Cond.code yX0_checkAtHome cX0_checkAtHome 2 none, Cond.methodLink RX0 143 yX0_isLent, Cond.instanceMethod yX0_isLent, Cond.selects RX0 yX0_isLent yX0_isLent, Cond.code yX0_isLent cX0_isLent 2 (some .boolean), Cond.fieldLink RX0 31 "AtelierBook" "loanDays" "[I", Cond.methodLink RX0 116 yX0_layerRow, Cond.static yX0_layerRow, Cond.code yX0_layerRow cX0_layerRow 2 (some .int), Cond.methodLink RL 22 yX0_clean, Cond.instanceMethod yX0_clean, Cond.selects RX0 yX0_clean yX0_clean, Cond.code yX0_clean cX0_clean 5 (some .int), Cond.methodLink RX0 102 yX0_waste, Cond.instanceMethod yX0_waste, Cond.selects RX0 yX0_waste yX0_waste, Cond.code yX0_waste cX0_waste 5 (some .int), Cond.methodLink RL 26 yX0_lend, Cond.instanceMethod yX0_lend, Cond.selects RX0 yX0_lend yX0_lend, Cond.code yX0_lend cX0_lend 4 (some .int), Cond.fieldLink RX0 25 "AtelierBook" "crackCounts" "[I", Cond.fieldLink RX0 37 "AtelierBook" "loanCosts" "[I"]
def wsL_calls_r4 : List Cond := [Cond.fieldLink RX0 34 "AtelierBook" "loanHouses" "[I", Cond.methodLink RX0 123 yX0_valueOf, Cond.instanceMethod yX0_valueOf, Cond.selects RX0 yX0_valueOf yX0_valueOf, Cond.code yX0_valueOf cX0_valueOf 3 (some .int), Cond.methodLink RX0 182 Lib.Math.max.name, Cond.static Lib.Math.max.name, Cond.initialized "java/lang/Math", Cond.code Lib.Math.max.name Lib.Math.max.code 2 (some .int), Cond.methodLink RX0 179 yX0_averagePriceOfAlike, Cond.instanceMethod yX0_averagePriceOfAlike, Cond.selects RX0 yX0_averagePriceOfAlike yX0_averagePriceOfAlike, Cond.code yX0_averagePriceOfAlike cX0_averagePriceOfAlike 6 (some .int), Cond.fieldLink RX0 28 "AtelierBook" "latestPrices" "[I", Cond.methodLink RX0 140 yX0_mainPigmentOf, Cond.instanceMethod yX0_mainPigmentOf, Cond.selects RX0 yX0_mainPigmentOf yX0_mainPigmentOf, Cond.code yX0_mainPigmentOf cX0_mainPigmentOf 3 (some .int), Cond.methodLink RX0 176 yX0_mainPigmentOfRow, Cond.instanceMethod yX0_mainPigmentOfRow, Cond.selects RX0 yX0_mainPigmentOfRow yX0_mainPigmentOfRow, Cond.code yX0_mainPigmentOfRow cX0_mainPigmentOfRow 6 (some .int), Cond.fieldLink RX0 50 "AtelierBook" "pigmentCount" "I", Cond.methodLink RX0 173 yX0_gramsOfPigment]
def wsL_calls_r5 : List Cond := [Cond.instanceMethod yX0_gramsOfPigment, Cond.selects RX0 yX0_gramsOfPigment yX0_gramsOfPigment, Cond.code yX0_gramsOfPigment cX0_gramsOfPigment 5 (some .int), Cond.fieldLink RX0 13 "AtelierBook" "pigmentOfTube" "[I", Cond.methodLink RL 29 yX0_sell, Cond.instanceMethod yX0_sell, Cond.selects RX0 yX0_sell yX0_sell, Cond.code yX0_sell cX0_sell 3 (some .int), Cond.constant RX0 126 (100000)]
def wsL_calls : List Cond := .codeWith yL_calls cL_calls 6 (some .int) [(0, 83, 84, 32)] :: ((wsL_calls_r1 ++ (wsL_calls_r2 ++ (wsL_calls_r3 ++ (wsL_calls_r4 ++ wsL_calls_r5)))) ++ wsX00 ++ (vx_atS RX0 58 "java/lang/IllegalStateException" ["java/lang/RuntimeException", "java/lang/Exception"]).filter goodWord ++ (vx_atS RX0 165 "java/lang/IndexOutOfBoundsException" ["java/lang/RuntimeException", "java/lang/Exception"]).filter goodWord ++ (vx_atS RX0 92 "java/lang/IllegalArgumentException" ["java/lang/RuntimeException", "java/lang/Exception"]).filter goodWord)
def wsL_at : List Cond := .code yL_at cL_at 2 (some .int) :: ([])
def wsL_grams : List Cond := .code yL_grams cL_grams 5 (some .int) :: ([])
def wsL_total : List Cond := .code yL_total cL_total 4 (some .int) :: ([])
def wsL_flows : List Cond := .code yL_flows cL_flows 9 none :: ([.methodLink RL 34 yL_total, .static yL_total, .initialized RL, .code yL_total cL_total 4 (some .int)])
def wsL_main : List Cond := .code yL_main cL_main 10 (some .int) :: ([.methodLink RL 40 yL_at, .static yL_at, .initialized RL, .code yL_at cL_at 2 (some .int), .methodLink RL 43 yL_grams, .static yL_grams, .code yL_grams cL_grams 5 (some .int)])
def wsL_value : List Cond := .code yL_value cL_value 11 (some .int) :: ([.methodLink RL 47 yL_main, .static yL_main, .initialized RL, .code yL_main cL_main 10 (some .int), .methodLink RL 40 yL_at, .static yL_at, .code yL_at cL_at 2 (some .int), .methodLink RL 43 yL_grams, .static yL_grams, .code yL_grams cL_grams 5 (some .int)])
def wsL_shade : List Cond := .code yL_shade cL_shade 2 (some .int) :: ([])
def wsL_recipe : List Cond := .code yL_recipe cL_recipe 16 (some .int) :: ([.constant RL 9 (2147483647)])
def wsL_mixes_r1 : List Cond := [Cond.constant RL 66 (1048576), Cond.methodLink RL 51 yL_low, Cond.static yL_low, Cond.initialized RL, Cond.code yL_low cL_low 2 (some .int), Cond.constant RL 9 (2147483647), Cond.methodLink RL 54 yL_calls, Cond.static yL_calls, Cond.codeWith yL_calls cL_calls 6 (some .int) [(0, 83, 84, 32)], Cond.classLink RL 32 "java/lang/IllegalStateException", Cond.methodLink RL 10 yX0_squeeze, Cond.instanceMethod yX0_squeeze, Cond.selects RX0 yX0_squeeze yX0_squeeze, Cond.initialized RX0, Cond.code yX0_squeeze cX0_squeeze 4 (some .int), Cond.classLink RX0 54 "java/lang/IllegalStateException", Cond.initialized "java/lang/IllegalStateException", Cond.fieldLink RX0 73 "AtelierBook" "potCount" "I", Cond.fieldLink RX0 68 "AtelierBook" "tubeCount" "I", Cond.fieldLink RX0 16 "AtelierBook" "gramsInTube" "[I", Cond.fieldLink RX0 19 "AtelierBook" "ledger" "[I", Cond.methodLink RX0 61 yX0_checkNumber, Cond.static yX0_checkNumber, Cond.code yX0_checkNumber cX0_checkNumber 2 none]
def wsL_mixes_r2 : List Cond := [Cond.classLink RX0 161 "java/lang/IndexOutOfBoundsException", Cond.initialized "java/lang/IndexOutOfBoundsException", Cond.methodLink RX0 65 yX0_checkRange, Cond.static yX0_checkRange, Cond.code yX0_checkRange cX0_checkRange 3 none, Cond.classLink RX0 88 "java/lang/IllegalArgumentException", Cond.initialized "java/lang/IllegalArgumentException", Cond.methodLink RX0 80 yX0_potRow, Cond.static yX0_potRow, Cond.code yX0_potRow cX0_potRow 1 (some .int), Cond.methodLink RX0 84 yX0_place, Cond.static yX0_place, Cond.code yX0_place cX0_place 2 (some .int), Cond.methodLink RL 16 yX0_pour, Cond.instanceMethod yX0_pour, Cond.selects RX0 yX0_pour yX0_pour, Cond.code yX0_pour cX0_pour 4 (some .int), Cond.methodLink RX0 93 yX0_move, Cond.instanceMethod yX0_move, Cond.selects RX0 yX0_move yX0_move, Cond.code yX0_move cX0_move 9 (some .boolean), Cond.methodLink RX0 99 yX0_sumOfRow, Cond.instanceMethod yX0_sumOfRow, Cond.selects RX0 yX0_sumOfRow yX0_sumOfRow]
def wsL_mixes_r3 : List Cond := [Cond.code yX0_sumOfRow cX0_sumOfRow 4 (some .int), Cond.methodLink RL 19 yX0_paint, Cond.instanceMethod yX0_paint, Cond.selects RX0 yX0_paint yX0_paint, Cond.code yX0_paint cX0_paint 4 (some .int), Cond.fieldLink RX0 105 "AtelierBook" "pictureCount" "I", Cond.fieldLink RX0 22 "AtelierBook" "layerCounts" "[I", Cond.methodLink RX0 110 yX0_checkAtHome, Cond.instanceMethod yX0_checkAtHome, Cond.selects RX0 yX0_checkAtHome yX0_checkAtHome, Cond.code yX0_checkAtHome cX0_checkAtHome 2 none, Cond.methodLink RX0 143 yX0_isLent, Cond.instanceMethod yX0_isLent, Cond.selects RX0 yX0_isLent yX0_isLent, Cond.code yX0_isLent cX0_isLent 2 (some .boolean), Cond.fieldLink RX0 31 "AtelierBook" "loanDays" "[I", Cond.methodLink RX0 116 yX0_layerRow, Cond.static yX0_layerRow, Cond.code yX0_layerRow cX0_layerRow 2 (some .int), Cond.methodLink RL 22 yX0_clean, Cond.instanceMethod yX0_clean, Cond.selects RX0 yX0_clean yX0_clean, Cond.code yX0_clean cX0_clean 5 (some .int), Cond.methodLink RX0 102 yX0_waste]
def wsL_mixes_r4 : List Cond := [Cond.instanceMethod yX0_waste, Cond.selects RX0 yX0_waste yX0_waste, Cond.code yX0_waste cX0_waste 5 (some .int), Cond.methodLink RL 26 yX0_lend, Cond.instanceMethod yX0_lend, Cond.selects RX0 yX0_lend yX0_lend, Cond.code yX0_lend cX0_lend 4 (some .int), Cond.fieldLink RX0 25 "AtelierBook" "crackCounts" "[I", Cond.fieldLink RX0 37 "AtelierBook" "loanCosts" "[I", Cond.fieldLink RX0 34 "AtelierBook" "loanHouses" "[I", Cond.methodLink RX0 123 yX0_valueOf, Cond.instanceMethod yX0_valueOf, Cond.selects RX0 yX0_valueOf yX0_valueOf, Cond.code yX0_valueOf cX0_valueOf 3 (some .int), Cond.methodLink RX0 182 Lib.Math.max.name, Cond.static Lib.Math.max.name, Cond.initialized "java/lang/Math", Cond.code Lib.Math.max.name Lib.Math.max.code 2 (some .int), Cond.methodLink RX0 179 yX0_averagePriceOfAlike, Cond.instanceMethod yX0_averagePriceOfAlike, Cond.selects RX0 yX0_averagePriceOfAlike yX0_averagePriceOfAlike, Cond.code yX0_averagePriceOfAlike cX0_averagePriceOfAlike 6 (some .int), Cond.fieldLink RX0 28 "AtelierBook" "latestPrices" "[I", Cond.methodLink RX0 140 yX0_mainPigmentOf]
def wsL_mixes_r5 : List Cond := [Cond.instanceMethod yX0_mainPigmentOf, Cond.selects RX0 yX0_mainPigmentOf yX0_mainPigmentOf, Cond.code yX0_mainPigmentOf cX0_mainPigmentOf 3 (some .int), Cond.methodLink RX0 176 yX0_mainPigmentOfRow, Cond.instanceMethod yX0_mainPigmentOfRow, Cond.selects RX0 yX0_mainPigmentOfRow yX0_mainPigmentOfRow, Cond.code yX0_mainPigmentOfRow cX0_mainPigmentOfRow 6 (some .int), Cond.fieldLink RX0 50 "AtelierBook" "pigmentCount" "I", Cond.methodLink RX0 173 yX0_gramsOfPigment, Cond.instanceMethod yX0_gramsOfPigment, Cond.selects RX0 yX0_gramsOfPigment yX0_gramsOfPigment, Cond.code yX0_gramsOfPigment cX0_gramsOfPigment 5 (some .int), Cond.fieldLink RX0 13 "AtelierBook" "pigmentOfTube" "[I", Cond.methodLink RL 29 yX0_sell, Cond.instanceMethod yX0_sell, Cond.selects RX0 yX0_sell yX0_sell, Cond.code yX0_sell cX0_sell 3 (some .int), Cond.constant RX0 126 (100000), Cond.methodLink RL 34 yL_total, Cond.static yL_total, Cond.code yL_total cL_total 4 (some .int), Cond.methodLink RL 58 yL_flows, Cond.static yL_flows, Cond.code yL_flows cL_flows 9 none]
def wsL_mixes_r6 : List Cond := [Cond.methodLink RL 62 yX0_scrape, Cond.instanceMethod yX0_scrape, Cond.selects RX0 yX0_scrape yX0_scrape, Cond.code yX0_scrape cX0_scrape 2 (some .int), Cond.methodLink RL 40 yL_at, Cond.static yL_at, Cond.code yL_at cL_at 2 (some .int), Cond.methodLink RL 43 yL_grams, Cond.static yL_grams, Cond.code yL_grams cL_grams 5 (some .int)]
def wsL_mixes : List Cond := .code yL_mixes cL_mixes 19 (some .boolean) :: ((wsL_mixes_r1 ++ (wsL_mixes_r2 ++ (wsL_mixes_r3 ++ (wsL_mixes_r4 ++ (wsL_mixes_r5 ++ wsL_mixes_r6))))) ++ wsX00 ++ (vx_atS RX0 58 "java/lang/IllegalStateException" ["java/lang/RuntimeException", "java/lang/Exception"]).filter goodWord ++ (vx_atS RX0 165 "java/lang/IndexOutOfBoundsException" ["java/lang/RuntimeException", "java/lang/Exception"]).filter goodWord ++ (vx_atS RX0 92 "java/lang/IllegalArgumentException" ["java/lang/RuntimeException", "java/lang/Exception"]).filter goodWord)
def wsL_trades_r1 : List Cond := [Cond.methodLink RL 51 yL_low, Cond.static yL_low, Cond.initialized RL, Cond.code yL_low cL_low 2 (some .int), Cond.constant RL 9 (2147483647), Cond.methodLink RL 67 yL_value, Cond.static yL_value, Cond.code yL_value cL_value 11 (some .int), Cond.methodLink RL 47 yL_main, Cond.static yL_main, Cond.code yL_main cL_main 10 (some .int), Cond.methodLink RL 40 yL_at, Cond.static yL_at, Cond.code yL_at cL_at 2 (some .int), Cond.methodLink RL 43 yL_grams, Cond.static yL_grams, Cond.code yL_grams cL_grams 5 (some .int), Cond.methodLink RL 54 yL_calls, Cond.static yL_calls, Cond.codeWith yL_calls cL_calls 6 (some .int) [(0, 83, 84, 32)], Cond.classLink RL 32 "java/lang/IllegalStateException", Cond.methodLink RL 10 yX0_squeeze, Cond.instanceMethod yX0_squeeze, Cond.selects RX0 yX0_squeeze yX0_squeeze]
def wsL_trades_r2 : List Cond := [Cond.initialized RX0, Cond.code yX0_squeeze cX0_squeeze 4 (some .int), Cond.classLink RX0 54 "java/lang/IllegalStateException", Cond.initialized "java/lang/IllegalStateException", Cond.fieldLink RX0 73 "AtelierBook" "potCount" "I", Cond.fieldLink RX0 68 "AtelierBook" "tubeCount" "I", Cond.fieldLink RX0 16 "AtelierBook" "gramsInTube" "[I", Cond.fieldLink RX0 19 "AtelierBook" "ledger" "[I", Cond.methodLink RX0 61 yX0_checkNumber, Cond.static yX0_checkNumber, Cond.code yX0_checkNumber cX0_checkNumber 2 none, Cond.classLink RX0 161 "java/lang/IndexOutOfBoundsException", Cond.initialized "java/lang/IndexOutOfBoundsException", Cond.methodLink RX0 65 yX0_checkRange, Cond.static yX0_checkRange, Cond.code yX0_checkRange cX0_checkRange 3 none, Cond.classLink RX0 88 "java/lang/IllegalArgumentException", Cond.initialized "java/lang/IllegalArgumentException", Cond.methodLink RX0 80 yX0_potRow, Cond.static yX0_potRow, Cond.code yX0_potRow cX0_potRow 1 (some .int), Cond.methodLink RX0 84 yX0_place, Cond.static yX0_place, Cond.code yX0_place cX0_place 2 (some .int)]
def wsL_trades_r3 : List Cond := [Cond.methodLink RL 16 yX0_pour, Cond.instanceMethod yX0_pour, Cond.selects RX0 yX0_pour yX0_pour, Cond.code yX0_pour cX0_pour 4 (some .int), Cond.methodLink RX0 93 yX0_move, Cond.instanceMethod yX0_move, Cond.selects RX0 yX0_move yX0_move, Cond.code yX0_move cX0_move 9 (some .boolean), Cond.methodLink RX0 99 yX0_sumOfRow, Cond.instanceMethod yX0_sumOfRow, Cond.selects RX0 yX0_sumOfRow yX0_sumOfRow, Cond.code yX0_sumOfRow cX0_sumOfRow 4 (some .int), Cond.methodLink RL 19 yX0_paint, Cond.instanceMethod yX0_paint, Cond.selects RX0 yX0_paint yX0_paint, Cond.code yX0_paint cX0_paint 4 (some .int), Cond.fieldLink RX0 105 "AtelierBook" "pictureCount" "I", Cond.fieldLink RX0 22 "AtelierBook" "layerCounts" "[I", Cond.methodLink RX0 110 yX0_checkAtHome, Cond.instanceMethod yX0_checkAtHome, Cond.selects RX0 yX0_checkAtHome yX0_checkAtHome, Cond.code yX0_checkAtHome cX0_checkAtHome 2 none, Cond.methodLink RX0 143 yX0_isLent, Cond.instanceMethod yX0_isLent]
def wsL_trades_r4 : List Cond := [Cond.selects RX0 yX0_isLent yX0_isLent, Cond.code yX0_isLent cX0_isLent 2 (some .boolean), Cond.fieldLink RX0 31 "AtelierBook" "loanDays" "[I", Cond.methodLink RX0 116 yX0_layerRow, Cond.static yX0_layerRow, Cond.code yX0_layerRow cX0_layerRow 2 (some .int), Cond.methodLink RL 22 yX0_clean, Cond.instanceMethod yX0_clean, Cond.selects RX0 yX0_clean yX0_clean, Cond.code yX0_clean cX0_clean 5 (some .int), Cond.methodLink RX0 102 yX0_waste, Cond.instanceMethod yX0_waste, Cond.selects RX0 yX0_waste yX0_waste, Cond.code yX0_waste cX0_waste 5 (some .int), Cond.methodLink RL 26 yX0_lend, Cond.instanceMethod yX0_lend, Cond.selects RX0 yX0_lend yX0_lend, Cond.code yX0_lend cX0_lend 4 (some .int), Cond.fieldLink RX0 25 "AtelierBook" "crackCounts" "[I", Cond.fieldLink RX0 37 "AtelierBook" "loanCosts" "[I", Cond.fieldLink RX0 34 "AtelierBook" "loanHouses" "[I", Cond.methodLink RX0 123 yX0_valueOf, Cond.instanceMethod yX0_valueOf, Cond.selects RX0 yX0_valueOf yX0_valueOf]
def wsL_trades_r5 : List Cond := [Cond.code yX0_valueOf cX0_valueOf 3 (some .int), Cond.methodLink RX0 182 Lib.Math.max.name, Cond.static Lib.Math.max.name, Cond.initialized "java/lang/Math", Cond.code Lib.Math.max.name Lib.Math.max.code 2 (some .int), Cond.methodLink RX0 179 yX0_averagePriceOfAlike, Cond.instanceMethod yX0_averagePriceOfAlike, Cond.selects RX0 yX0_averagePriceOfAlike yX0_averagePriceOfAlike, Cond.code yX0_averagePriceOfAlike cX0_averagePriceOfAlike 6 (some .int), Cond.fieldLink RX0 28 "AtelierBook" "latestPrices" "[I", Cond.methodLink RX0 140 yX0_mainPigmentOf, Cond.instanceMethod yX0_mainPigmentOf, Cond.selects RX0 yX0_mainPigmentOf yX0_mainPigmentOf, Cond.code yX0_mainPigmentOf cX0_mainPigmentOf 3 (some .int), Cond.methodLink RX0 176 yX0_mainPigmentOfRow, Cond.instanceMethod yX0_mainPigmentOfRow, Cond.selects RX0 yX0_mainPigmentOfRow yX0_mainPigmentOfRow, Cond.code yX0_mainPigmentOfRow cX0_mainPigmentOfRow 6 (some .int), Cond.fieldLink RX0 50 "AtelierBook" "pigmentCount" "I", Cond.methodLink RX0 173 yX0_gramsOfPigment, Cond.instanceMethod yX0_gramsOfPigment, Cond.selects RX0 yX0_gramsOfPigment yX0_gramsOfPigment, Cond.code yX0_gramsOfPigment cX0_gramsOfPigment 5 (some .int), Cond.fieldLink RX0 13 "AtelierBook" "pigmentOfTube" "[I"]
def wsL_trades_r6 : List Cond := [Cond.methodLink RL 29 yX0_sell, Cond.instanceMethod yX0_sell, Cond.selects RX0 yX0_sell yX0_sell, Cond.code yX0_sell cX0_sell 3 (some .int), Cond.constant RX0 126 (100000), Cond.methodLink RL 70 yX0_damp, Cond.instanceMethod yX0_damp, Cond.selects RX0 yX0_damp yX0_damp, Cond.code yX0_damp cX0_damp 4 (some .int), Cond.fieldLink RX0 40 "AtelierBook" "houseDamps" "[I"]
def wsL_trades : List Cond := .code yL_trades cL_trades 13 (some .boolean) :: ((wsL_trades_r1 ++ (wsL_trades_r2 ++ (wsL_trades_r3 ++ (wsL_trades_r4 ++ (wsL_trades_r5 ++ wsL_trades_r6))))) ++ wsX00 ++ (vx_atS RX0 58 "java/lang/IllegalStateException" ["java/lang/RuntimeException", "java/lang/Exception"]).filter goodWord ++ (vx_atS RX0 165 "java/lang/IndexOutOfBoundsException" ["java/lang/RuntimeException", "java/lang/Exception"]).filter goodWord ++ (vx_atS RX0 92 "java/lang/IllegalArgumentException" ["java/lang/RuntimeException", "java/lang/Exception"]).filter goodWord)
def wsL_day : List Cond := .code yL_day cL_day 4 none :: ([])
def wsL_same_r1 : List Cond := [Cond.methodLink RL 51 yL_low, Cond.static yL_low, Cond.initialized RL, Cond.code yL_low cL_low 2 (some .int), Cond.constant RL 9 (2147483647), Cond.methodLink RL 40 yL_at, Cond.static yL_at, Cond.code yL_at cL_at 2 (some .int), Cond.methodLink RL 43 yL_grams, Cond.static yL_grams, Cond.code yL_grams cL_grams 5 (some .int), Cond.methodLink RL 73 yX0_has, Cond.instanceMethod yX0_has, Cond.selects RX0 yX0_has yX0_has, Cond.initialized RX0, Cond.code yX0_has cX0_has 3 (some .int), Cond.fieldLink RX0 73 "AtelierBook" "potCount" "I", Cond.fieldLink RX0 68 "AtelierBook" "tubeCount" "I", Cond.fieldLink RX0 19 "AtelierBook" "ledger" "[I", Cond.methodLink RX0 61 yX0_checkNumber, Cond.static yX0_checkNumber, Cond.code yX0_checkNumber cX0_checkNumber 2 none, Cond.classLink RX0 161 "java/lang/IndexOutOfBoundsException", Cond.initialized "java/lang/IndexOutOfBoundsException"]
def wsL_same_r2 : List Cond := [Cond.methodLink RX0 80 yX0_potRow, Cond.static yX0_potRow, Cond.code yX0_potRow cX0_potRow 1 (some .int), Cond.methodLink RX0 99 yX0_sumOfRow, Cond.instanceMethod yX0_sumOfRow, Cond.selects RX0 yX0_sumOfRow yX0_sumOfRow, Cond.code yX0_sumOfRow cX0_sumOfRow 4 (some .int), Cond.methodLink RX0 84 yX0_place, Cond.static yX0_place, Cond.code yX0_place cX0_place 2 (some .int), Cond.methodLink RL 76 yX0_layer, Cond.instanceMethod yX0_layer, Cond.selects RX0 yX0_layer yX0_layer, Cond.code yX0_layer cX0_layer 4 (some .int), Cond.fieldLink RX0 105 "AtelierBook" "pictureCount" "I", Cond.fieldLink RX0 22 "AtelierBook" "layerCounts" "[I", Cond.methodLink RX0 116 yX0_layerRow, Cond.static yX0_layerRow, Cond.code yX0_layerRow cX0_layerRow 2 (some .int), Cond.methodLink RL 34 yL_total, Cond.static yL_total, Cond.code yL_total cL_total 4 (some .int), Cond.methodLink RL 79 yX0_colour, Cond.instanceMethod yX0_colour]
def wsL_same_r3 : List Cond := [Cond.selects RX0 yX0_colour yX0_colour, Cond.code yX0_colour cX0_colour 3 (some .int), Cond.methodLink RX0 65 yX0_checkRange, Cond.static yX0_checkRange, Cond.code yX0_checkRange cX0_checkRange 3 none, Cond.classLink RX0 88 "java/lang/IllegalArgumentException", Cond.initialized "java/lang/IllegalArgumentException", Cond.methodLink RX0 137 yX0_colourOfRow, Cond.instanceMethod yX0_colourOfRow, Cond.selects RX0 yX0_colourOfRow yX0_colourOfRow, Cond.code yX0_colourOfRow cX0_colourOfRow 7 (some .int), Cond.methodLink RX0 170 yX0_colourOfTube, Cond.instanceMethod yX0_colourOfTube, Cond.selects RX0 yX0_colourOfTube yX0_colourOfTube, Cond.code yX0_colourOfTube cX0_colourOfTube 3 (some .int), Cond.fieldLink RX0 9 "AtelierBook" "pigmentColours" "[I", Cond.fieldLink RX0 13 "AtelierBook" "pigmentOfTube" "[I", Cond.methodLink RL 82 yL_shade, Cond.static yL_shade, Cond.code yL_shade cL_shade 2 (some .int), Cond.methodLink RL 85 yX0_of, Cond.instanceMethod yX0_of, Cond.selects RX0 yX0_of yX0_of, Cond.code yX0_of cX0_of 3 (some .int)]
def wsL_same_r4 : List Cond := [Cond.fieldLink RX0 25 "AtelierBook" "crackCounts" "[I", Cond.fieldLink RX0 34 "AtelierBook" "loanHouses" "[I", Cond.fieldLink RX0 31 "AtelierBook" "loanDays" "[I", Cond.methodLink RX0 123 yX0_valueOf, Cond.instanceMethod yX0_valueOf, Cond.selects RX0 yX0_valueOf yX0_valueOf, Cond.code yX0_valueOf cX0_valueOf 3 (some .int), Cond.methodLink RX0 182 Lib.Math.max.name, Cond.static Lib.Math.max.name, Cond.initialized "java/lang/Math", Cond.code Lib.Math.max.name Lib.Math.max.code 2 (some .int), Cond.methodLink RX0 179 yX0_averagePriceOfAlike, Cond.instanceMethod yX0_averagePriceOfAlike, Cond.selects RX0 yX0_averagePriceOfAlike yX0_averagePriceOfAlike, Cond.code yX0_averagePriceOfAlike cX0_averagePriceOfAlike 6 (some .int), Cond.fieldLink RX0 28 "AtelierBook" "latestPrices" "[I", Cond.methodLink RX0 140 yX0_mainPigmentOf, Cond.instanceMethod yX0_mainPigmentOf, Cond.selects RX0 yX0_mainPigmentOf yX0_mainPigmentOf, Cond.code yX0_mainPigmentOf cX0_mainPigmentOf 3 (some .int), Cond.methodLink RX0 176 yX0_mainPigmentOfRow, Cond.instanceMethod yX0_mainPigmentOfRow, Cond.selects RX0 yX0_mainPigmentOfRow yX0_mainPigmentOfRow, Cond.code yX0_mainPigmentOfRow cX0_mainPigmentOfRow 6 (some .int)]
def wsL_same_r5 : List Cond := [Cond.fieldLink RX0 50 "AtelierBook" "pigmentCount" "I", Cond.methodLink RX0 173 yX0_gramsOfPigment, Cond.instanceMethod yX0_gramsOfPigment, Cond.selects RX0 yX0_gramsOfPigment yX0_gramsOfPigment, Cond.code yX0_gramsOfPigment cX0_gramsOfPigment 5 (some .int), Cond.methodLink RX0 143 yX0_isLent, Cond.instanceMethod yX0_isLent, Cond.selects RX0 yX0_isLent yX0_isLent, Cond.code yX0_isLent cX0_isLent 2 (some .boolean), Cond.methodLink RX0 147 yX0_lookOf, Cond.instanceMethod yX0_lookOf, Cond.selects RX0 yX0_lookOf yX0_lookOf, Cond.code yX0_lookOf cX0_lookOf 4 (some .int), Cond.methodLink RL 67 yL_value, Cond.static yL_value, Cond.code yL_value cL_value 11 (some .int), Cond.methodLink RL 47 yL_main, Cond.static yL_main, Cond.code yL_main cL_main 10 (some .int), Cond.methodLink RL 88 yX0_paid, Cond.instanceMethod yX0_paid, Cond.selects RX0 yX0_paid yX0_paid, Cond.code yX0_paid cX0_paid 2 (some .int), Cond.fieldLink RX0 43 "AtelierBook" "housePayments" "[I"]
def wsL_same_r6 : List Cond := [Cond.methodLink RL 91 yX0_left, Cond.instanceMethod yX0_left, Cond.selects RX0 yX0_left yX0_left, Cond.code yX0_left cX0_left 2 (some .int), Cond.fieldLink RX0 16 "AtelierBook" "gramsInTube" "[I", Cond.methodLink RL 94 yX0_where, Cond.instanceMethod yX0_where, Cond.selects RX0 yX0_where yX0_where, Cond.code yX0_where cX0_where 3 (some .int), Cond.methodLink RX0 150 yX0_sumOfTube, Cond.instanceMethod yX0_sumOfTube, Cond.selects RX0 yX0_sumOfTube yX0_sumOfTube, Cond.code yX0_sumOfTube cX0_sumOfTube 6 (some .int), Cond.methodLink RL 97 yX0_recipe, Cond.instanceMethod yX0_recipe, Cond.selects RX0 yX0_recipe yX0_recipe, Cond.code yX0_recipe cX0_recipe 10 (some .int), Cond.methodLink RX0 46 yX0_checkColour, Cond.static yX0_checkColour, Cond.code yX0_checkColour cX0_checkColour 3 none, Cond.methodLink RX0 154 yX0_mixed, Cond.instanceMethod yX0_mixed, Cond.selects RX0 yX0_mixed yX0_mixed, Cond.code yX0_mixed cX0_mixed 5 (some .int)]
def wsL_same_r7 : List Cond := [Cond.methodLink RX0 158 yX0_square, Cond.static yX0_square, Cond.code yX0_square cX0_square 1 (some .int), Cond.methodLink RL 100 yL_recipe, Cond.static yL_recipe, Cond.code yL_recipe cL_recipe 16 (some .int)]
def wsL_same : List Cond := .code yL_same cL_same 17 (some .boolean) :: ((wsL_same_r1 ++ (wsL_same_r2 ++ (wsL_same_r3 ++ (wsL_same_r4 ++ (wsL_same_r5 ++ (wsL_same_r6 ++ wsL_same_r7)))))) ++ wsX00 ++ (vx_atS RX0 165 "java/lang/IndexOutOfBoundsException" ["java/lang/RuntimeException", "java/lang/Exception"]).filter goodWord ++ (vx_atS RX0 92 "java/lang/IllegalArgumentException" ["java/lang/RuntimeException", "java/lang/Exception"]).filter goodWord)
def wsL_law0_r1 : List Cond := [Cond.classLink RL 11 RX0, Cond.instantiable RX0 17, Cond.initialized RX0, Cond.arrayClass .int, Cond.methodLink RL 103 yX0_init, Cond.instanceMethod yX0_init, Cond.code yX0_init cX0_init 2 none, Cond.methodLink RX0 3 objectInit, Cond.instanceMethod objectInit, Cond.code objectInit ⟨#[0xb1]⟩ 1 none, Cond.fieldLink RX0 9 "AtelierBook" "pigmentColours" "[I", Cond.fieldLink RX0 13 "AtelierBook" "pigmentOfTube" "[I", Cond.fieldLink RX0 16 "AtelierBook" "gramsInTube" "[I", Cond.fieldLink RX0 19 "AtelierBook" "ledger" "[I", Cond.fieldLink RX0 22 "AtelierBook" "layerCounts" "[I", Cond.fieldLink RX0 25 "AtelierBook" "crackCounts" "[I", Cond.fieldLink RX0 28 "AtelierBook" "latestPrices" "[I", Cond.fieldLink RX0 31 "AtelierBook" "loanDays" "[I", Cond.fieldLink RX0 34 "AtelierBook" "loanHouses" "[I", Cond.fieldLink RX0 37 "AtelierBook" "loanCosts" "[I", Cond.fieldLink RX0 40 "AtelierBook" "houseDamps" "[I", Cond.fieldLink RX0 43 "AtelierBook" "housePayments" "[I", Cond.methodLink RL 104 yL_cell, Cond.static yL_cell]
def wsL_law0_r2 : List Cond := [Cond.initialized RL, Cond.code yL_cell cL_cell 2 (some .int), Cond.constant RL 7 (51257), Cond.constant RL 8 (3087707), Cond.methodLink RL 51 yL_low, Cond.static yL_low, Cond.code yL_low cL_low 2 (some .int), Cond.constant RL 9 (2147483647), Cond.methodLink RL 108 yX0_pigment, Cond.instanceMethod yX0_pigment, Cond.selects RX0 yX0_pigment yX0_pigment, Cond.code yX0_pigment cX0_pigment 5 (some .int), Cond.classLink RX0 54 "java/lang/IllegalStateException", Cond.initialized "java/lang/IllegalStateException", Cond.fieldLink RX0 50 "AtelierBook" "pigmentCount" "I", Cond.methodLink RX0 46 yX0_checkColour, Cond.static yX0_checkColour, Cond.code yX0_checkColour cX0_checkColour 3 none, Cond.methodLink RX0 65 yX0_checkRange, Cond.static yX0_checkRange, Cond.code yX0_checkRange cX0_checkRange 3 none, Cond.classLink RX0 88 "java/lang/IllegalArgumentException", Cond.initialized "java/lang/IllegalArgumentException", Cond.methodLink RL 111 yX0_pot]
def wsL_law0_r3 : List Cond := [Cond.instanceMethod yX0_pot, Cond.selects RX0 yX0_pot yX0_pot, Cond.code yX0_pot cX0_pot 1 (some .int), Cond.fieldLink RX0 73 "AtelierBook" "potCount" "I", Cond.methodLink RL 115 yX0_picture, Cond.instanceMethod yX0_picture, Cond.selects RX0 yX0_picture yX0_picture, Cond.code yX0_picture cX0_picture 1 (some .int), Cond.fieldLink RX0 105 "AtelierBook" "pictureCount" "I", Cond.methodLink RL 118 yX0_tube, Cond.instanceMethod yX0_tube, Cond.selects RX0 yX0_tube yX0_tube, Cond.code yX0_tube cX0_tube 3 (some .int), Cond.fieldLink RX0 68 "AtelierBook" "tubeCount" "I", Cond.methodLink RX0 61 yX0_checkNumber, Cond.static yX0_checkNumber, Cond.code yX0_checkNumber cX0_checkNumber 2 none, Cond.classLink RX0 161 "java/lang/IndexOutOfBoundsException", Cond.initialized "java/lang/IndexOutOfBoundsException", Cond.methodLink RL 121 yL_mixes, Cond.static yL_mixes, Cond.code yL_mixes cL_mixes 19 (some .boolean), Cond.constant RL 66 (1048576), Cond.methodLink RL 54 yL_calls]
def wsL_law0_r4 : List Cond := [Cond.static yL_calls, Cond.codeWith yL_calls cL_calls 6 (some .int) [(0, 83, 84, 32)], Cond.classLink RL 32 "java/lang/IllegalStateException", Cond.methodLink RL 10 yX0_squeeze, Cond.instanceMethod yX0_squeeze, Cond.selects RX0 yX0_squeeze yX0_squeeze, Cond.code yX0_squeeze cX0_squeeze 4 (some .int), Cond.methodLink RX0 80 yX0_potRow, Cond.static yX0_potRow, Cond.code yX0_potRow cX0_potRow 1 (some .int), Cond.methodLink RX0 84 yX0_place, Cond.static yX0_place, Cond.code yX0_place cX0_place 2 (some .int), Cond.methodLink RL 16 yX0_pour, Cond.instanceMethod yX0_pour, Cond.selects RX0 yX0_pour yX0_pour, Cond.code yX0_pour cX0_pour 4 (some .int), Cond.methodLink RX0 93 yX0_move, Cond.instanceMethod yX0_move, Cond.selects RX0 yX0_move yX0_move, Cond.code yX0_move cX0_move 9 (some .boolean), Cond.methodLink RX0 99 yX0_sumOfRow, Cond.instanceMethod yX0_sumOfRow, Cond.selects RX0 yX0_sumOfRow yX0_sumOfRow]
def wsL_law0_r5 : List Cond := [Cond.code yX0_sumOfRow cX0_sumOfRow 4 (some .int), Cond.methodLink RL 19 yX0_paint, Cond.instanceMethod yX0_paint, Cond.selects RX0 yX0_paint yX0_paint, Cond.code yX0_paint cX0_paint 4 (some .int), Cond.methodLink RX0 110 yX0_checkAtHome, Cond.instanceMethod yX0_checkAtHome, Cond.selects RX0 yX0_checkAtHome yX0_checkAtHome, Cond.code yX0_checkAtHome cX0_checkAtHome 2 none, Cond.methodLink RX0 143 yX0_isLent, Cond.instanceMethod yX0_isLent, Cond.selects RX0 yX0_isLent yX0_isLent, Cond.code yX0_isLent cX0_isLent 2 (some .boolean), Cond.methodLink RX0 116 yX0_layerRow, Cond.static yX0_layerRow, Cond.code yX0_layerRow cX0_layerRow 2 (some .int), Cond.methodLink RL 22 yX0_clean, Cond.instanceMethod yX0_clean, Cond.selects RX0 yX0_clean yX0_clean, Cond.code yX0_clean cX0_clean 5 (some .int), Cond.methodLink RX0 102 yX0_waste, Cond.instanceMethod yX0_waste, Cond.selects RX0 yX0_waste yX0_waste, Cond.code yX0_waste cX0_waste 5 (some .int)]
def wsL_law0_r6 : List Cond := [Cond.methodLink RL 26 yX0_lend, Cond.instanceMethod yX0_lend, Cond.selects RX0 yX0_lend yX0_lend, Cond.code yX0_lend cX0_lend 4 (some .int), Cond.methodLink RX0 123 yX0_valueOf, Cond.instanceMethod yX0_valueOf, Cond.selects RX0 yX0_valueOf yX0_valueOf, Cond.code yX0_valueOf cX0_valueOf 3 (some .int), Cond.methodLink RX0 182 Lib.Math.max.name, Cond.static Lib.Math.max.name, Cond.initialized "java/lang/Math", Cond.code Lib.Math.max.name Lib.Math.max.code 2 (some .int), Cond.methodLink RX0 179 yX0_averagePriceOfAlike, Cond.instanceMethod yX0_averagePriceOfAlike, Cond.selects RX0 yX0_averagePriceOfAlike yX0_averagePriceOfAlike, Cond.code yX0_averagePriceOfAlike cX0_averagePriceOfAlike 6 (some .int), Cond.methodLink RX0 140 yX0_mainPigmentOf, Cond.instanceMethod yX0_mainPigmentOf, Cond.selects RX0 yX0_mainPigmentOf yX0_mainPigmentOf, Cond.code yX0_mainPigmentOf cX0_mainPigmentOf 3 (some .int), Cond.methodLink RX0 176 yX0_mainPigmentOfRow, Cond.instanceMethod yX0_mainPigmentOfRow, Cond.selects RX0 yX0_mainPigmentOfRow yX0_mainPigmentOfRow, Cond.code yX0_mainPigmentOfRow cX0_mainPigmentOfRow 6 (some .int)]
def wsL_law0_r7 : List Cond := [Cond.methodLink RX0 173 yX0_gramsOfPigment, Cond.instanceMethod yX0_gramsOfPigment, Cond.selects RX0 yX0_gramsOfPigment yX0_gramsOfPigment, Cond.code yX0_gramsOfPigment cX0_gramsOfPigment 5 (some .int), Cond.methodLink RL 29 yX0_sell, Cond.instanceMethod yX0_sell, Cond.selects RX0 yX0_sell yX0_sell, Cond.code yX0_sell cX0_sell 3 (some .int), Cond.constant RX0 126 (100000), Cond.methodLink RL 34 yL_total, Cond.static yL_total, Cond.code yL_total cL_total 4 (some .int), Cond.methodLink RL 58 yL_flows, Cond.static yL_flows, Cond.code yL_flows cL_flows 9 none, Cond.methodLink RL 62 yX0_scrape, Cond.instanceMethod yX0_scrape, Cond.selects RX0 yX0_scrape yX0_scrape, Cond.code yX0_scrape cX0_scrape 2 (some .int), Cond.methodLink RL 40 yL_at, Cond.static yL_at, Cond.code yL_at cL_at 2 (some .int), Cond.methodLink RL 43 yL_grams, Cond.static yL_grams]
def wsL_law0_r8 : List Cond := [Cond.code yL_grams cL_grams 5 (some .int), Cond.methodLink RL 125 yL_trades, Cond.static yL_trades, Cond.code yL_trades cL_trades 13 (some .boolean), Cond.methodLink RL 67 yL_value, Cond.static yL_value, Cond.code yL_value cL_value 11 (some .int), Cond.methodLink RL 47 yL_main, Cond.static yL_main, Cond.code yL_main cL_main 10 (some .int), Cond.methodLink RL 70 yX0_damp, Cond.instanceMethod yX0_damp, Cond.selects RX0 yX0_damp yX0_damp, Cond.code yX0_damp cX0_damp 4 (some .int), Cond.methodLink RL 129 yL_day, Cond.static yL_day, Cond.code yL_day cL_day 4 none, Cond.methodLink RL 133 yX0_pass, Cond.instanceMethod yX0_pass, Cond.selects RX0 yX0_pass yX0_pass, Cond.code yX0_pass cX0_pass 3 (some .int), Cond.fieldLink RX0 129 "AtelierBook" "today" "I", Cond.methodLink RX0 134 yX0_passForLoan, Cond.instanceMethod yX0_passForLoan]
def wsL_law0_r9 : List Cond := [Cond.selects RX0 yX0_passForLoan yX0_passForLoan, Cond.code yX0_passForLoan cX0_passForLoan 5 none, Cond.methodLink RX0 187 Lib.Math.min.name, Cond.static Lib.Math.min.name, Cond.code Lib.Math.min.name Lib.Math.min.code 2 (some .int), Cond.methodLink RX0 190 Lib.Math.abs.name, Cond.static Lib.Math.abs.name, Cond.code Lib.Math.abs.name Lib.Math.abs.code 1 (some .int), Cond.methodLink RL 136 yL_same, Cond.static yL_same, Cond.code yL_same cL_same 17 (some .boolean), Cond.methodLink RL 73 yX0_has, Cond.instanceMethod yX0_has, Cond.selects RX0 yX0_has yX0_has, Cond.code yX0_has cX0_has 3 (some .int), Cond.methodLink RL 76 yX0_layer, Cond.instanceMethod yX0_layer, Cond.selects RX0 yX0_layer yX0_layer, Cond.code yX0_layer cX0_layer 4 (some .int), Cond.methodLink RL 79 yX0_colour, Cond.instanceMethod yX0_colour, Cond.selects RX0 yX0_colour yX0_colour, Cond.code yX0_colour cX0_colour 3 (some .int), Cond.methodLink RX0 137 yX0_colourOfRow]
def wsL_law0_r10 : List Cond := [Cond.instanceMethod yX0_colourOfRow, Cond.selects RX0 yX0_colourOfRow yX0_colourOfRow, Cond.code yX0_colourOfRow cX0_colourOfRow 7 (some .int), Cond.methodLink RX0 170 yX0_colourOfTube, Cond.instanceMethod yX0_colourOfTube, Cond.selects RX0 yX0_colourOfTube yX0_colourOfTube, Cond.code yX0_colourOfTube cX0_colourOfTube 3 (some .int), Cond.methodLink RL 82 yL_shade, Cond.static yL_shade, Cond.code yL_shade cL_shade 2 (some .int), Cond.methodLink RL 85 yX0_of, Cond.instanceMethod yX0_of, Cond.selects RX0 yX0_of yX0_of, Cond.code yX0_of cX0_of 3 (some .int), Cond.methodLink RX0 147 yX0_lookOf, Cond.instanceMethod yX0_lookOf, Cond.selects RX0 yX0_lookOf yX0_lookOf, Cond.code yX0_lookOf cX0_lookOf 4 (some .int), Cond.methodLink RL 88 yX0_paid, Cond.instanceMethod yX0_paid, Cond.selects RX0 yX0_paid yX0_paid, Cond.code yX0_paid cX0_paid 2 (some .int), Cond.methodLink RL 91 yX0_left, Cond.instanceMethod yX0_left]
def wsL_law0_r11 : List Cond := [Cond.selects RX0 yX0_left yX0_left, Cond.code yX0_left cX0_left 2 (some .int), Cond.methodLink RL 94 yX0_where, Cond.instanceMethod yX0_where, Cond.selects RX0 yX0_where yX0_where, Cond.code yX0_where cX0_where 3 (some .int), Cond.methodLink RX0 150 yX0_sumOfTube, Cond.instanceMethod yX0_sumOfTube, Cond.selects RX0 yX0_sumOfTube yX0_sumOfTube, Cond.code yX0_sumOfTube cX0_sumOfTube 6 (some .int), Cond.methodLink RL 97 yX0_recipe, Cond.instanceMethod yX0_recipe, Cond.selects RX0 yX0_recipe yX0_recipe, Cond.code yX0_recipe cX0_recipe 10 (some .int), Cond.methodLink RX0 154 yX0_mixed, Cond.instanceMethod yX0_mixed, Cond.selects RX0 yX0_mixed yX0_mixed, Cond.code yX0_mixed cX0_mixed 5 (some .int), Cond.methodLink RX0 158 yX0_square, Cond.static yX0_square, Cond.code yX0_square cX0_square 1 (some .int), Cond.methodLink RL 100 yL_recipe, Cond.static yL_recipe, Cond.code yL_recipe cL_recipe 16 (some .int)]
def wsL_law0 : List Cond := (wsL_law0_r1 ++ (wsL_law0_r2 ++ (wsL_law0_r3 ++ (wsL_law0_r4 ++ (wsL_law0_r5 ++ (wsL_law0_r6 ++ (wsL_law0_r7 ++ (wsL_law0_r8 ++ (wsL_law0_r9 ++ (wsL_law0_r10 ++ wsL_law0_r11)))))))))) ++ wsX00 ++ ([] : List Cond)
def wsL_law : List Cond := wsL_law0 ++ (vx_atS RX0 58 "java/lang/IllegalStateException" ["java/lang/RuntimeException", "java/lang/Exception"]).filter goodWord ++ (vx_atS RX0 92 "java/lang/IllegalArgumentException" ["java/lang/RuntimeException", "java/lang/Exception"]).filter goodWord ++ (vx_atS RX0 165 "java/lang/IndexOutOfBoundsException" ["java/lang/RuntimeException", "java/lang/Exception"]).filter goodWord
set_option maxRecDepth 20000 in
theorem ggX0_pigment_X0_checkColour : GoodIn wsX0_pigment wsX0_checkColour := goodIn_ca (goodIn_r _ [8, 9, 10, 7, 11, 12, 13] (by decide +kernel) (by decide +kernel)) (goodIn_sub (fun _ h => List.mem_cons_of_mem _ (List.mem_append_right _ h)) (by decide +kernel))
set_option maxRecDepth 20000 in
theorem gX0_pigment_X0_checkColour : GoodIn wsX0_pigment (va_wsS RX0 46 yX0_checkColour wsX0_checkColour) := goodIn_app (goodIn_of _ (by decide +kernel)) ggX0_pigment_X0_checkColour
set_option maxRecDepth 20000 in
theorem ggX0_tube_X0_checkNumber : GoodIn wsX0_tube wsX0_checkNumber := goodIn_ca (goodIn_r _ [10, 11, 12] (by decide +kernel) (by decide +kernel)) (goodIn_sub (fun _ h => List.mem_cons_of_mem _ (List.mem_append_left _ (List.mem_append_right _ h))) (by decide +kernel))
set_option maxRecDepth 20000 in
theorem gX0_tube_X0_checkNumber : GoodIn wsX0_tube (va_wsS RX0 61 yX0_checkNumber wsX0_checkNumber) := goodIn_app (goodIn_of _ (by decide +kernel)) ggX0_tube_X0_checkNumber
set_option maxRecDepth 20000 in
theorem ggX0_tube_X0_checkRange : GoodIn wsX0_tube wsX0_checkRange := goodIn_ca (goodIn_r _ [15, 16, 17] (by decide +kernel) (by decide +kernel)) (goodIn_sub (fun _ h => List.mem_cons_of_mem _ (List.mem_append_right _ h)) (by decide +kernel))
set_option maxRecDepth 20000 in
theorem gX0_tube_X0_checkRange : GoodIn wsX0_tube (va_wsS RX0 65 yX0_checkRange wsX0_checkRange) := goodIn_app (goodIn_of _ (by decide +kernel)) ggX0_tube_X0_checkRange
set_option maxRecDepth 20000 in
theorem ggX0_squeeze_X0_checkNumber : GoodIn wsX0_squeeze wsX0_checkNumber := goodIn_ca (goodIn_r _ [10, 11, 12] (by decide +kernel) (by decide +kernel)) (goodIn_sub (fun _ h => List.mem_cons_of_mem _ (List.mem_append_left _ (List.mem_append_right _ h))) (by decide +kernel))
set_option maxRecDepth 20000 in
theorem gX0_squeeze_X0_checkNumber : GoodIn wsX0_squeeze (va_wsS RX0 61 yX0_checkNumber wsX0_checkNumber) := goodIn_app (goodIn_of _ (by decide +kernel)) ggX0_squeeze_X0_checkNumber
set_option maxRecDepth 20000 in
theorem ggX0_squeeze_X0_checkRange : GoodIn wsX0_squeeze wsX0_checkRange := goodIn_ca (goodIn_r _ [15, 16, 17] (by decide +kernel) (by decide +kernel)) (goodIn_sub (fun _ h => List.mem_cons_of_mem _ (List.mem_append_right _ h)) (by decide +kernel))
set_option maxRecDepth 20000 in
theorem gX0_squeeze_X0_checkRange : GoodIn wsX0_squeeze (va_wsS RX0 65 yX0_checkRange wsX0_checkRange) := goodIn_app (goodIn_of _ (by decide +kernel)) ggX0_squeeze_X0_checkRange
set_option maxRecDepth 20000 in
theorem ggX0_squeeze_X0_potRow : GoodIn wsX0_squeeze wsX0_potRow := goodIn_r _ [20] (by decide +kernel) (by decide +kernel)
set_option maxRecDepth 20000 in
theorem gX0_squeeze_X0_potRow : GoodIn wsX0_squeeze (va_wsS RX0 80 yX0_potRow wsX0_potRow) := goodIn_app (goodIn_of _ (by decide +kernel)) ggX0_squeeze_X0_potRow
set_option maxRecDepth 20000 in
theorem ggX0_squeeze_X0_place : GoodIn wsX0_squeeze wsX0_place := goodIn_r _ [23] (by decide +kernel) (by decide +kernel)
set_option maxRecDepth 20000 in
theorem gX0_squeeze_X0_place : GoodIn wsX0_squeeze (va_wsS RX0 84 yX0_place wsX0_place) := goodIn_app (goodIn_of _ (by decide +kernel)) ggX0_squeeze_X0_place
set_option maxRecDepth 20000 in
theorem ggX0_pour_X0_checkNumber : GoodIn wsX0_pour wsX0_checkNumber := goodIn_ca (goodIn_r _ [9, 10, 11] (by decide +kernel) (by decide +kernel)) (goodIn_sub (fun _ h => List.mem_cons_of_mem _ (List.mem_append_right _ h)) (by decide +kernel))
set_option maxRecDepth 20000 in
theorem gX0_pour_X0_checkNumber : GoodIn wsX0_pour (va_wsS RX0 61 yX0_checkNumber wsX0_checkNumber) := goodIn_app (goodIn_of _ (by decide +kernel)) ggX0_pour_X0_checkNumber
set_option maxRecDepth 20000 in
theorem ggX0_pour_X0_checkRange : GoodIn wsX0_pour wsX0_checkRange := goodIn_ca (goodIn_r _ [14, 1, 2] (by decide +kernel) (by decide +kernel)) (goodIn_sub (fun _ h => List.mem_cons_of_mem _ (List.mem_append_left _ (List.mem_append_left _ (List.mem_append_right _ h)))) (by decide +kernel))
set_option maxRecDepth 20000 in
theorem gX0_pour_X0_checkRange : GoodIn wsX0_pour (va_wsS RX0 65 yX0_checkRange wsX0_checkRange) := goodIn_app (goodIn_of _ (by decide +kernel)) ggX0_pour_X0_checkRange
set_option maxRecDepth 20000 in
theorem ggX0_pour_X0_potRow : GoodIn wsX0_pour wsX0_potRow := goodIn_r _ [17] (by decide +kernel) (by decide +kernel)
set_option maxRecDepth 20000 in
theorem gX0_pour_X0_potRow : GoodIn wsX0_pour (va_wsS RX0 80 yX0_potRow wsX0_potRow) := goodIn_app (goodIn_of _ (by decide +kernel)) ggX0_pour_X0_potRow
set_option maxRecDepth 20000 in
theorem ggX0_pour_X0_move : GoodIn wsX0_pour wsX0_move := goodIn_r _ [21, 22, 23, 24, 25, 26, 8, 27, 28, 29, 30, 31, 32, 33, 34, 35, 36, 37, 38, 39, 40, 41, 42, 43, 44, 45, 46, 47] (by decide +kernel) (by decide +kernel)
set_option maxRecDepth 20000 in
theorem gX0_pour_X0_move : GoodIn wsX0_pour (wsV RX0 93 RX0 yX0_move wsX0_move) := goodIn_app (goodIn_of _ (by decide +kernel)) ggX0_pour_X0_move
set_option maxRecDepth 20000 in
theorem ggX0_pour_X0_sumOfRow : GoodIn wsX0_pour wsX0_sumOfRow := goodIn_r _ [27, 22, 23, 28, 29, 8, 30, 31, 32, 33, 34, 35, 36, 37, 38, 39, 40, 41, 42, 43, 44, 45, 46, 47] (by decide +kernel) (by decide +kernel)
set_option maxRecDepth 20000 in
theorem gX0_pour_X0_sumOfRow : GoodIn wsX0_pour (wsV RX0 99 RX0 yX0_sumOfRow wsX0_sumOfRow) := goodIn_app (goodIn_of _ (by decide +kernel)) ggX0_pour_X0_sumOfRow
set_option maxRecDepth 20000 in
theorem ggX0_scrape_X0_checkNumber : GoodIn wsX0_scrape wsX0_checkNumber := goodIn_ca (goodIn_r _ [5, 6, 7] (by decide +kernel) (by decide +kernel)) (goodIn_sub (fun _ h => List.mem_cons_of_mem _ (List.mem_append_right _ h)) (by decide +kernel))
set_option maxRecDepth 20000 in
theorem gX0_scrape_X0_checkNumber : GoodIn wsX0_scrape (va_wsS RX0 61 yX0_checkNumber wsX0_checkNumber) := goodIn_app (goodIn_of _ (by decide +kernel)) ggX0_scrape_X0_checkNumber
set_option maxRecDepth 20000 in
theorem ggX0_scrape_X0_potRow : GoodIn wsX0_scrape wsX0_potRow := goodIn_r _ [10] (by decide +kernel) (by decide +kernel)
set_option maxRecDepth 20000 in
theorem gX0_scrape_X0_potRow : GoodIn wsX0_scrape (va_wsS RX0 80 yX0_potRow wsX0_potRow) := goodIn_app (goodIn_of _ (by decide +kernel)) ggX0_scrape_X0_potRow
set_option maxRecDepth 20000 in
theorem ggX0_scrape_X0_waste : GoodIn wsX0_scrape wsX0_waste := goodIn_r _ [14, 15, 16, 17, 18, 4, 19, 20, 21, 22, 23, 24, 25, 26, 27, 28, 29, 30, 31, 32, 33, 34, 35, 36] (by decide +kernel) (by decide +kernel)
set_option maxRecDepth 20000 in
theorem gX0_scrape_X0_waste : GoodIn wsX0_scrape (wsV RX0 102 RX0 yX0_waste wsX0_waste) := goodIn_app (goodIn_of _ (by decide +kernel)) ggX0_scrape_X0_waste
set_option maxRecDepth 20000 in
theorem ggX0_paint_X0_checkNumber : GoodIn wsX0_paint wsX0_checkNumber := goodIn_ca (goodIn_r _ [9, 10, 11] (by decide +kernel) (by decide +kernel)) (goodIn_sub (fun _ h => List.mem_cons_of_mem _ (List.mem_append_left _ (List.mem_append_right _ h))) (by decide +kernel))
set_option maxRecDepth 20000 in
theorem gX0_paint_X0_checkNumber : GoodIn wsX0_paint (va_wsS RX0 61 yX0_checkNumber wsX0_checkNumber) := goodIn_app (goodIn_of _ (by decide +kernel)) ggX0_paint_X0_checkNumber
set_option maxRecDepth 20000 in
theorem ggX0_paint_X0_checkRange : GoodIn wsX0_paint wsX0_checkRange := goodIn_ca (goodIn_r _ [14, 15, 16] (by decide +kernel) (by decide +kernel)) (goodIn_sub (fun _ h => List.mem_cons_of_mem _ (List.mem_append_right _ h)) (by decide +kernel))
set_option maxRecDepth 20000 in
theorem gX0_paint_X0_checkRange : GoodIn wsX0_paint (va_wsS RX0 65 yX0_checkRange wsX0_checkRange) := goodIn_app (goodIn_of _ (by decide +kernel)) ggX0_paint_X0_checkRange
set_option maxRecDepth 20000 in
theorem ggX0_paint_X0_checkAtHome : GoodIn wsX0_paint wsX0_checkAtHome := goodIn_ca (goodIn_r _ [20, 1, 2, 21, 22, 23, 8, 24, 25, 45, 46, 47, 48, 49, 50, 51, 52, 53, 54, 55, 56, 57, 58, 59, 60, 61] (by decide +kernel) (by decide +kernel)) (goodIn_sub (fun _ h => List.mem_cons_of_mem _ (List.mem_append_left _ (List.mem_append_left _ (List.mem_append_right _ h)))) (by decide +kernel))
set_option maxRecDepth 20000 in
theorem gX0_paint_X0_checkAtHome : GoodIn wsX0_paint (wsV RX0 110 RX0 yX0_checkAtHome wsX0_checkAtHome) := goodIn_app (goodIn_of _ (by decide +kernel)) ggX0_paint_X0_checkAtHome
set_option maxRecDepth 20000 in
theorem ggX0_paint_X0_potRow : GoodIn wsX0_paint wsX0_potRow := goodIn_r _ [28] (by decide +kernel) (by decide +kernel)
set_option maxRecDepth 20000 in
theorem gX0_paint_X0_potRow : GoodIn wsX0_paint (va_wsS RX0 80 yX0_potRow wsX0_potRow) := goodIn_app (goodIn_of _ (by decide +kernel)) ggX0_paint_X0_potRow
set_option maxRecDepth 20000 in
theorem ggX0_paint_X0_layerRow : GoodIn wsX0_paint wsX0_layerRow := goodIn_r _ [31] (by decide +kernel) (by decide +kernel)
set_option maxRecDepth 20000 in
theorem gX0_paint_X0_layerRow : GoodIn wsX0_paint (va_wsS RX0 116 yX0_layerRow wsX0_layerRow) := goodIn_app (goodIn_of _ (by decide +kernel)) ggX0_paint_X0_layerRow
set_option maxRecDepth 20000 in
theorem ggX0_paint_X0_move : GoodIn wsX0_paint wsX0_move := goodIn_r _ [35, 36, 37, 38, 39, 40, 8, 41, 42, 43, 44, 45, 46, 47, 48, 49, 50, 51, 52, 53, 54, 55, 56, 57, 58, 59, 60, 61] (by decide +kernel) (by decide +kernel)
set_option maxRecDepth 20000 in
theorem gX0_paint_X0_move : GoodIn wsX0_paint (wsV RX0 93 RX0 yX0_move wsX0_move) := goodIn_app (goodIn_of _ (by decide +kernel)) ggX0_paint_X0_move
set_option maxRecDepth 20000 in
theorem ggX0_clean_X0_checkNumber : GoodIn wsX0_clean wsX0_checkNumber := goodIn_ca (goodIn_r _ [8, 9, 10] (by decide +kernel) (by decide +kernel)) (goodIn_sub (fun _ h => List.mem_cons_of_mem _ (List.mem_append_left _ (List.mem_append_right _ h))) (by decide +kernel))
set_option maxRecDepth 20000 in
theorem gX0_clean_X0_checkNumber : GoodIn wsX0_clean (va_wsS RX0 61 yX0_checkNumber wsX0_checkNumber) := goodIn_app (goodIn_of _ (by decide +kernel)) ggX0_clean_X0_checkNumber
set_option maxRecDepth 20000 in
theorem ggX0_clean_X0_checkRange : GoodIn wsX0_clean wsX0_checkRange := goodIn_ca (goodIn_r _ [13, 14, 15] (by decide +kernel) (by decide +kernel)) (goodIn_sub (fun _ h => List.mem_cons_of_mem _ (List.mem_append_right _ h)) (by decide +kernel))
set_option maxRecDepth 20000 in
theorem gX0_clean_X0_checkRange : GoodIn wsX0_clean (va_wsS RX0 65 yX0_checkRange wsX0_checkRange) := goodIn_app (goodIn_of _ (by decide +kernel)) ggX0_clean_X0_checkRange
set_option maxRecDepth 20000 in
theorem ggX0_clean_X0_checkAtHome : GoodIn wsX0_clean wsX0_checkAtHome := goodIn_ca (goodIn_r _ [19, 1, 2, 20, 21, 22, 7, 23, 24, 37, 38, 39, 40, 41, 42, 43, 44, 45, 46, 47, 48, 49, 50, 51, 52, 53] (by decide +kernel) (by decide +kernel)) (goodIn_sub (fun _ h => List.mem_cons_of_mem _ (List.mem_append_left _ (List.mem_append_left _ (List.mem_append_right _ h)))) (by decide +kernel))
set_option maxRecDepth 20000 in
theorem gX0_clean_X0_checkAtHome : GoodIn wsX0_clean (wsV RX0 110 RX0 yX0_checkAtHome wsX0_checkAtHome) := goodIn_app (goodIn_of _ (by decide +kernel)) ggX0_clean_X0_checkAtHome
set_option maxRecDepth 20000 in
theorem ggX0_clean_X0_layerRow : GoodIn wsX0_clean wsX0_layerRow := goodIn_r _ [27] (by decide +kernel) (by decide +kernel)
set_option maxRecDepth 20000 in
theorem gX0_clean_X0_layerRow : GoodIn wsX0_clean (va_wsS RX0 116 yX0_layerRow wsX0_layerRow) := goodIn_app (goodIn_of _ (by decide +kernel)) ggX0_clean_X0_layerRow
set_option maxRecDepth 20000 in
theorem ggX0_clean_X0_waste : GoodIn wsX0_clean wsX0_waste := goodIn_r _ [31, 32, 33, 34, 35, 7, 36, 37, 38, 39, 40, 41, 42, 43, 44, 45, 46, 47, 48, 49, 50, 51, 52, 53] (by decide +kernel) (by decide +kernel)
set_option maxRecDepth 20000 in
theorem gX0_clean_X0_waste : GoodIn wsX0_clean (wsV RX0 102 RX0 yX0_waste wsX0_waste) := goodIn_app (goodIn_of _ (by decide +kernel)) ggX0_clean_X0_waste
set_option maxRecDepth 20000 in
theorem ggX0_damp_X0_checkNumber : GoodIn wsX0_damp wsX0_checkNumber := goodIn_ca (goodIn_r _ [5, 6, 7] (by decide +kernel) (by decide +kernel)) (goodIn_sub (fun _ h => List.mem_cons_of_mem _ (List.mem_append_left _ (List.mem_append_right _ h))) (by decide +kernel))
set_option maxRecDepth 20000 in
theorem gX0_damp_X0_checkNumber : GoodIn wsX0_damp (va_wsS RX0 61 yX0_checkNumber wsX0_checkNumber) := goodIn_app (goodIn_of _ (by decide +kernel)) ggX0_damp_X0_checkNumber
set_option maxRecDepth 20000 in
theorem ggX0_damp_X0_checkRange : GoodIn wsX0_damp wsX0_checkRange := goodIn_ca (goodIn_r _ [10, 11, 12] (by decide +kernel) (by decide +kernel)) (goodIn_sub (fun _ h => List.mem_cons_of_mem _ (List.mem_append_right _ h)) (by decide +kernel))
set_option maxRecDepth 20000 in
theorem gX0_damp_X0_checkRange : GoodIn wsX0_damp (va_wsS RX0 65 yX0_checkRange wsX0_checkRange) := goodIn_app (goodIn_of _ (by decide +kernel)) ggX0_damp_X0_checkRange
set_option maxRecDepth 20000 in
theorem ggX0_lend_X0_checkNumber : GoodIn wsX0_lend wsX0_checkNumber := goodIn_ca (goodIn_r _ [11, 12, 13] (by decide +kernel) (by decide +kernel)) (goodIn_sub (fun _ h => List.mem_cons_of_mem _ (List.mem_append_left _ (List.mem_append_right _ h))) (by decide +kernel))
set_option maxRecDepth 20000 in
theorem gX0_lend_X0_checkNumber : GoodIn wsX0_lend (va_wsS RX0 61 yX0_checkNumber wsX0_checkNumber) := goodIn_app (goodIn_of _ (by decide +kernel)) ggX0_lend_X0_checkNumber
set_option maxRecDepth 20000 in
theorem ggX0_lend_X0_checkRange : GoodIn wsX0_lend wsX0_checkRange := goodIn_ca (goodIn_r _ [16, 17, 18] (by decide +kernel) (by decide +kernel)) (goodIn_sub (fun _ h => List.mem_cons_of_mem _ (List.mem_append_right _ h)) (by decide +kernel))
set_option maxRecDepth 20000 in
theorem gX0_lend_X0_checkRange : GoodIn wsX0_lend (va_wsS RX0 65 yX0_checkRange wsX0_checkRange) := goodIn_app (goodIn_of _ (by decide +kernel)) ggX0_lend_X0_checkRange
set_option maxRecDepth 20000 in
theorem ggX0_lend_X0_checkAtHome : GoodIn wsX0_lend wsX0_checkAtHome := goodIn_ca (goodIn_r _ [22, 1, 2, 23, 24, 25, 10, 26, 7, 63, 64, 65, 66, 67, 68, 69, 70, 71, 72, 73, 74, 75, 76, 77, 78, 79] (by decide +kernel) (by decide +kernel)) (goodIn_sub (fun _ h => List.mem_cons_of_mem _ (List.mem_append_left _ (List.mem_append_left _ (List.mem_append_right _ h)))) (by decide +kernel))
set_option maxRecDepth 20000 in
theorem gX0_lend_X0_checkAtHome : GoodIn wsX0_lend (wsV RX0 110 RX0 yX0_checkAtHome wsX0_checkAtHome) := goodIn_app (goodIn_of _ (by decide +kernel)) ggX0_lend_X0_checkAtHome
set_option maxRecDepth 20000 in
theorem ggX0_lend_X0_valueOf : GoodIn wsX0_lend wsX0_valueOf := goodIn_r _ [30, 4, 31, 32, 33, 34, 35, 36, 37, 10, 38, 3, 39, 40, 41, 42, 43, 44, 45, 46, 47, 48, 49, 50, 51, 52, 53, 54, 55, 56, 57, 58, 59, 60, 61, 62, 63, 64, 65, 66, 67, 68, 69, 70, 71, 72, 73, 74, 75, 76, 77, 78, 79] (by decide +kernel) (by decide +kernel)
set_option maxRecDepth 20000 in
theorem gX0_lend_X0_valueOf : GoodIn wsX0_lend (wsV RX0 123 RX0 yX0_valueOf wsX0_valueOf) := goodIn_app (goodIn_of _ (by decide +kernel)) ggX0_lend_X0_valueOf
set_option maxRecDepth 20000 in
theorem ggX0_sell_X0_checkNumber : GoodIn wsX0_sell wsX0_checkNumber := goodIn_ca (goodIn_r _ [10, 11, 12] (by decide +kernel) (by decide +kernel)) (goodIn_sub (fun _ h => List.mem_cons_of_mem _ (List.mem_append_left _ (List.mem_append_right _ h))) (by decide +kernel))
set_option maxRecDepth 20000 in
theorem gX0_sell_X0_checkNumber : GoodIn wsX0_sell (va_wsS RX0 61 yX0_checkNumber wsX0_checkNumber) := goodIn_app (goodIn_of _ (by decide +kernel)) ggX0_sell_X0_checkNumber
set_option maxRecDepth 20000 in
theorem ggX0_sell_X0_checkRange : GoodIn wsX0_sell wsX0_checkRange := goodIn_ca (goodIn_r _ [15, 16, 17] (by decide +kernel) (by decide +kernel)) (goodIn_sub (fun _ h => List.mem_cons_of_mem _ (List.mem_append_right _ h)) (by decide +kernel))
set_option maxRecDepth 20000 in
theorem gX0_sell_X0_checkRange : GoodIn wsX0_sell (va_wsS RX0 65 yX0_checkRange wsX0_checkRange) := goodIn_app (goodIn_of _ (by decide +kernel)) ggX0_sell_X0_checkRange
set_option maxRecDepth 20000 in
theorem ggX0_sell_X0_checkAtHome : GoodIn wsX0_sell wsX0_checkAtHome := goodIn_ca (goodIn_r _ [21, 1, 2, 22, 23, 24, 9, 25, 26, 62, 63, 64, 65, 66, 67, 68, 69, 70, 71, 72, 73, 74, 75, 76, 77, 78] (by decide +kernel) (by decide +kernel)) (goodIn_sub (fun _ h => List.mem_cons_of_mem _ (List.mem_append_left _ (List.mem_append_left _ (List.mem_append_right _ h)))) (by decide +kernel))
set_option maxRecDepth 20000 in
theorem gX0_sell_X0_checkAtHome : GoodIn wsX0_sell (wsV RX0 110 RX0 yX0_checkAtHome wsX0_checkAtHome) := goodIn_app (goodIn_of _ (by decide +kernel)) ggX0_sell_X0_checkAtHome
set_option maxRecDepth 20000 in
theorem ggX0_sell_X0_valueOf : GoodIn wsX0_sell wsX0_valueOf := goodIn_r _ [30, 31, 32, 33, 34, 35, 36, 37, 38, 9, 39, 3, 6, 40, 41, 42, 43, 5, 44, 45, 46, 47, 48, 49, 50, 51, 52, 53, 54, 55, 56, 57, 58, 59, 60, 61, 62, 63, 64, 65, 66, 67, 68, 69, 70, 71, 72, 73, 74, 75, 76, 77, 78] (by decide +kernel) (by decide +kernel)
set_option maxRecDepth 20000 in
theorem gX0_sell_X0_valueOf : GoodIn wsX0_sell (wsV RX0 123 RX0 yX0_valueOf wsX0_valueOf) := goodIn_app (goodIn_of _ (by decide +kernel)) ggX0_sell_X0_valueOf
set_option maxRecDepth 20000 in
theorem ggX0_pass_X0_checkRange : GoodIn wsX0_pass wsX0_checkRange := goodIn_ca (goodIn_r _ [8, 9, 10] (by decide +kernel) (by decide +kernel)) (goodIn_sub (fun _ h => List.mem_cons_of_mem _ (List.mem_append_right _ h)) (by decide +kernel))
set_option maxRecDepth 20000 in
theorem gX0_pass_X0_checkRange : GoodIn wsX0_pass (va_wsS RX0 65 yX0_checkRange wsX0_checkRange) := goodIn_app (goodIn_of _ (by decide +kernel)) ggX0_pass_X0_checkRange
set_option maxRecDepth 20000 in
theorem ggX0_pass_X0_passForLoan : GoodIn wsX0_pass wsX0_passForLoan := goodIn_r _ [14, 15, 16, 17, 18, 19, 20, 21, 22, 23, 24, 25, 26, 27, 28, 29, 30, 31, 32, 33, 34, 35, 36, 37, 38, 39, 40, 41, 42, 43, 44] (by decide +kernel) (by decide +kernel)
set_option maxRecDepth 20000 in
theorem gX0_pass_X0_passForLoan : GoodIn wsX0_pass (wsV RX0 134 RX0 yX0_passForLoan wsX0_passForLoan) := goodIn_app (goodIn_of _ (by decide +kernel)) ggX0_pass_X0_passForLoan
set_option maxRecDepth 20000 in
theorem ggX0_left_X0_checkNumber : GoodIn wsX0_left wsX0_checkNumber := goodIn_ca (goodIn_r _ [6, 7, 8] (by decide +kernel) (by decide +kernel)) (goodIn_sub (fun _ h => List.mem_cons_of_mem _ (List.mem_append_right _ h)) (by decide +kernel))
set_option maxRecDepth 20000 in
theorem gX0_left_X0_checkNumber : GoodIn wsX0_left (va_wsS RX0 61 yX0_checkNumber wsX0_checkNumber) := goodIn_app (goodIn_of _ (by decide +kernel)) ggX0_left_X0_checkNumber
set_option maxRecDepth 20000 in
theorem ggX0_has_X0_checkNumber : GoodIn wsX0_has wsX0_checkNumber := goodIn_ca (goodIn_r _ [7, 8, 9] (by decide +kernel) (by decide +kernel)) (goodIn_sub (fun _ h => List.mem_cons_of_mem _ (List.mem_append_right _ h)) (by decide +kernel))
set_option maxRecDepth 20000 in
theorem gX0_has_X0_checkNumber : GoodIn wsX0_has (va_wsS RX0 61 yX0_checkNumber wsX0_checkNumber) := goodIn_app (goodIn_of _ (by decide +kernel)) ggX0_has_X0_checkNumber
set_option maxRecDepth 20000 in
theorem ggX0_has_X0_potRow : GoodIn wsX0_has wsX0_potRow := goodIn_r _ [12] (by decide +kernel) (by decide +kernel)
set_option maxRecDepth 20000 in
theorem gX0_has_X0_potRow : GoodIn wsX0_has (va_wsS RX0 80 yX0_potRow wsX0_potRow) := goodIn_app (goodIn_of _ (by decide +kernel)) ggX0_has_X0_potRow
set_option maxRecDepth 20000 in
theorem ggX0_has_X0_sumOfRow : GoodIn wsX0_has wsX0_sumOfRow := goodIn_r _ [16, 2, 3, 17, 18, 6, 19, 20, 21, 22, 23, 24, 25, 26, 27, 28, 29, 30, 31, 32, 33, 34, 35, 36] (by decide +kernel) (by decide +kernel)
set_option maxRecDepth 20000 in
theorem gX0_has_X0_sumOfRow : GoodIn wsX0_has (wsV RX0 99 RX0 yX0_sumOfRow wsX0_sumOfRow) := goodIn_app (goodIn_of _ (by decide +kernel)) ggX0_has_X0_sumOfRow
set_option maxRecDepth 20000 in
theorem ggX0_has_X0_place : GoodIn wsX0_has wsX0_place := goodIn_r _ [19] (by decide +kernel) (by decide +kernel)
set_option maxRecDepth 20000 in
theorem gX0_has_X0_place : GoodIn wsX0_has (va_wsS RX0 84 yX0_place wsX0_place) := goodIn_app (goodIn_of _ (by decide +kernel)) ggX0_has_X0_place
set_option maxRecDepth 20000 in
theorem ggX0_colour_X0_checkNumber : GoodIn wsX0_colour wsX0_checkNumber := goodIn_ca (goodIn_r _ [5, 6, 7] (by decide +kernel) (by decide +kernel)) (goodIn_sub (fun _ h => List.mem_cons_of_mem _ (List.mem_append_left _ (List.mem_append_right _ h))) (by decide +kernel))
set_option maxRecDepth 20000 in
theorem gX0_colour_X0_checkNumber : GoodIn wsX0_colour (va_wsS RX0 61 yX0_checkNumber wsX0_checkNumber) := goodIn_app (goodIn_of _ (by decide +kernel)) ggX0_colour_X0_checkNumber
set_option maxRecDepth 20000 in
theorem ggX0_colour_X0_checkRange : GoodIn wsX0_colour wsX0_checkRange := goodIn_ca (goodIn_r _ [10, 11, 12] (by decide +kernel) (by decide +kernel)) (goodIn_sub (fun _ h => List.mem_cons_of_mem _ (List.mem_append_right _ h)) (by decide +kernel))
set_option maxRecDepth 20000 in
theorem gX0_colour_X0_checkRange : GoodIn wsX0_colour (va_wsS RX0 65 yX0_checkRange wsX0_checkRange) := goodIn_app (goodIn_of _ (by decide +kernel)) ggX0_colour_X0_checkRange
set_option maxRecDepth 20000 in
theorem ggX0_colour_X0_potRow : GoodIn wsX0_colour wsX0_potRow := goodIn_r _ [15] (by decide +kernel) (by decide +kernel)
set_option maxRecDepth 20000 in
theorem gX0_colour_X0_potRow : GoodIn wsX0_colour (va_wsS RX0 80 yX0_potRow wsX0_potRow) := goodIn_app (goodIn_of _ (by decide +kernel)) ggX0_colour_X0_potRow
set_option maxRecDepth 20000 in
theorem ggX0_colour_X0_colourOfRow : GoodIn wsX0_colour wsX0_colourOfRow := goodIn_r _ [19, 20, 21, 22, 23, 4, 24, 25, 26, 27, 28, 29, 30, 31, 32, 33, 34, 35, 36, 37, 38, 39, 40, 41, 42, 43, 44, 45, 46, 47] (by decide +kernel) (by decide +kernel)
set_option maxRecDepth 20000 in
theorem gX0_colour_X0_colourOfRow : GoodIn wsX0_colour (wsV RX0 137 RX0 yX0_colourOfRow wsX0_colourOfRow) := goodIn_app (goodIn_of _ (by decide +kernel)) ggX0_colour_X0_colourOfRow
set_option maxRecDepth 20000 in
theorem ggX0_of_X0_checkNumber : GoodIn wsX0_of wsX0_checkNumber := goodIn_ca (goodIn_r _ [9, 10, 11] (by decide +kernel) (by decide +kernel)) (goodIn_sub (fun _ h => List.mem_cons_of_mem _ (List.mem_append_left _ (List.mem_append_right _ h))) (by decide +kernel))
set_option maxRecDepth 20000 in
theorem gX0_of_X0_checkNumber : GoodIn wsX0_of (va_wsS RX0 61 yX0_checkNumber wsX0_checkNumber) := goodIn_app (goodIn_of _ (by decide +kernel)) ggX0_of_X0_checkNumber
set_option maxRecDepth 20000 in
theorem ggX0_of_X0_checkRange : GoodIn wsX0_of wsX0_checkRange := goodIn_ca (goodIn_r _ [14, 15, 16] (by decide +kernel) (by decide +kernel)) (goodIn_sub (fun _ h => List.mem_cons_of_mem _ (List.mem_append_right _ h)) (by decide +kernel))
set_option maxRecDepth 20000 in
theorem gX0_of_X0_checkRange : GoodIn wsX0_of (va_wsS RX0 65 yX0_checkRange wsX0_checkRange) := goodIn_app (goodIn_of _ (by decide +kernel)) ggX0_of_X0_checkRange
set_option maxRecDepth 20000 in
theorem ggX0_of_X0_valueOf : GoodIn wsX0_of wsX0_valueOf := goodIn_r _ [20, 3, 21, 22, 23, 24, 25, 26, 27, 8, 28, 1, 29, 30, 31, 32, 33, 2, 34, 35, 36, 37, 38, 39, 40, 41, 42, 43, 44, 45, 46, 47, 48, 49, 50, 51, 69, 70, 71, 72, 73, 74, 75, 76, 77, 78, 79, 80, 81, 82, 83, 84, 85] (by decide +kernel) (by decide +kernel)
set_option maxRecDepth 20000 in
theorem gX0_of_X0_valueOf : GoodIn wsX0_of (wsV RX0 123 RX0 yX0_valueOf wsX0_valueOf) := goodIn_app (goodIn_of _ (by decide +kernel)) ggX0_of_X0_valueOf
set_option maxRecDepth 20000 in
theorem ggX0_of_X0_mainPigmentOf : GoodIn wsX0_of wsX0_mainPigmentOf := goodIn_r _ [33, 2, 34, 35, 8, 36, 37, 38, 39, 40, 41, 42, 43, 44, 45, 46, 47, 48, 49, 50, 51, 69, 70, 71, 72, 73, 74, 75, 76, 77, 78, 79, 80, 81, 82, 83, 84, 85] (by decide +kernel) (by decide +kernel)
set_option maxRecDepth 20000 in
theorem gX0_of_X0_mainPigmentOf : GoodIn wsX0_of (wsV RX0 140 RX0 yX0_mainPigmentOf wsX0_mainPigmentOf) := goodIn_app (goodIn_of _ (by decide +kernel)) ggX0_of_X0_mainPigmentOf
set_option maxRecDepth 20000 in
theorem ggX0_of_X0_isLent : GoodIn wsX0_of wsX0_isLent := goodIn_r _ [55, 5, 69, 70, 71, 72, 73, 74, 75, 76, 77, 78, 79, 80, 81, 82, 83, 84, 85] (by decide +kernel) (by decide +kernel)
set_option maxRecDepth 20000 in
theorem gX0_of_X0_isLent : GoodIn wsX0_of (wsV RX0 143 RX0 yX0_isLent wsX0_isLent) := goodIn_app (goodIn_of _ (by decide +kernel)) ggX0_of_X0_isLent
set_option maxRecDepth 20000 in
theorem ggX0_of_X0_lookOf : GoodIn wsX0_of wsX0_lookOf := goodIn_r _ [59, 2, 34, 35, 8, 36, 60, 61, 62, 63, 46, 48, 49, 50, 51, 64, 65, 66, 67, 68, 47, 69, 70, 71, 72, 73, 74, 75, 76, 77, 78, 79, 80, 81, 82, 83, 84, 85] (by decide +kernel) (by decide +kernel)
set_option maxRecDepth 20000 in
theorem gX0_of_X0_lookOf : GoodIn wsX0_of (wsV RX0 147 RX0 yX0_lookOf wsX0_lookOf) := goodIn_app (goodIn_of _ (by decide +kernel)) ggX0_of_X0_lookOf
set_option maxRecDepth 20000 in
theorem ggX0_layer_X0_checkNumber : GoodIn wsX0_layer wsX0_checkNumber := goodIn_ca (goodIn_r _ [8, 9, 10] (by decide +kernel) (by decide +kernel)) (goodIn_sub (fun _ h => List.mem_cons_of_mem _ (List.mem_append_right _ h)) (by decide +kernel))
set_option maxRecDepth 20000 in
theorem gX0_layer_X0_checkNumber : GoodIn wsX0_layer (va_wsS RX0 61 yX0_checkNumber wsX0_checkNumber) := goodIn_app (goodIn_of _ (by decide +kernel)) ggX0_layer_X0_checkNumber
set_option maxRecDepth 20000 in
theorem ggX0_layer_X0_layerRow : GoodIn wsX0_layer wsX0_layerRow := goodIn_r _ [13] (by decide +kernel) (by decide +kernel)
set_option maxRecDepth 20000 in
theorem gX0_layer_X0_layerRow : GoodIn wsX0_layer (va_wsS RX0 116 yX0_layerRow wsX0_layerRow) := goodIn_app (goodIn_of _ (by decide +kernel)) ggX0_layer_X0_layerRow
set_option maxRecDepth 20000 in
theorem ggX0_layer_X0_place : GoodIn wsX0_layer wsX0_place := goodIn_r _ [16] (by decide +kernel) (by decide +kernel)
set_option maxRecDepth 20000 in
theorem gX0_layer_X0_place : GoodIn wsX0_layer (va_wsS RX0 84 yX0_place wsX0_place) := goodIn_app (goodIn_of _ (by decide +kernel)) ggX0_layer_X0_place
set_option maxRecDepth 20000 in
theorem ggX0_where_X0_checkNumber : GoodIn wsX0_where wsX0_checkNumber := goodIn_ca (goodIn_r _ [6, 7, 8] (by decide +kernel) (by decide +kernel)) (goodIn_sub (fun _ h => List.mem_cons_of_mem _ (List.mem_append_left _ (List.mem_append_right _ h))) (by decide +kernel))
set_option maxRecDepth 20000 in
theorem gX0_where_X0_checkNumber : GoodIn wsX0_where (va_wsS RX0 61 yX0_checkNumber wsX0_checkNumber) := goodIn_app (goodIn_of _ (by decide +kernel)) ggX0_where_X0_checkNumber
set_option maxRecDepth 20000 in
theorem ggX0_where_X0_checkRange : GoodIn wsX0_where wsX0_checkRange := goodIn_ca (goodIn_r _ [11, 12, 13] (by decide +kernel) (by decide +kernel)) (goodIn_sub (fun _ h => List.mem_cons_of_mem _ (List.mem_append_right _ h)) (by decide +kernel))
set_option maxRecDepth 20000 in
theorem gX0_where_X0_checkRange : GoodIn wsX0_where (va_wsS RX0 65 yX0_checkRange wsX0_checkRange) := goodIn_app (goodIn_of _ (by decide +kernel)) ggX0_where_X0_checkRange
set_option maxRecDepth 20000 in
theorem ggX0_where_X0_sumOfTube : GoodIn wsX0_where wsX0_sumOfTube := goodIn_r _ [17, 18, 19, 20, 5, 21, 22, 23, 24, 25, 26, 27, 28, 29, 30, 31, 32, 33, 34, 35, 36, 37, 38] (by decide +kernel) (by decide +kernel)
set_option maxRecDepth 20000 in
theorem gX0_where_X0_sumOfTube : GoodIn wsX0_where (wsV RX0 150 RX0 yX0_sumOfTube wsX0_sumOfTube) := goodIn_app (goodIn_of _ (by decide +kernel)) ggX0_where_X0_sumOfTube
set_option maxRecDepth 20000 in
theorem ggX0_recipe_X0_checkColour : GoodIn wsX0_recipe wsX0_checkColour := goodIn_ca (goodIn_r _ [6, 7, 8, 5, 9, 10, 11] (by decide +kernel) (by decide +kernel)) (goodIn_sub (fun _ h => List.mem_cons_of_mem _ (List.mem_append_right _ h)) (by decide +kernel))
set_option maxRecDepth 20000 in
theorem gX0_recipe_X0_checkColour : GoodIn wsX0_recipe (va_wsS RX0 46 yX0_checkColour wsX0_checkColour) := goodIn_app (goodIn_of _ (by decide +kernel)) ggX0_recipe_X0_checkColour
set_option maxRecDepth 20000 in
theorem ggX0_recipe_X0_mixed : GoodIn wsX0_recipe wsX0_mixed := goodIn_r _ [15, 16, 17, 18, 5, 19, 20, 21, 25, 26, 27, 28, 29, 30, 31, 32, 33, 34, 35, 36, 37, 38, 39, 40, 41] (by decide +kernel) (by decide +kernel)
set_option maxRecDepth 20000 in
theorem gX0_recipe_X0_mixed : GoodIn wsX0_recipe (wsV RX0 154 RX0 yX0_mixed wsX0_mixed) := goodIn_app (goodIn_of _ (by decide +kernel)) ggX0_recipe_X0_mixed
set_option maxRecDepth 20000 in
theorem ggX0_recipe_X0_square : GoodIn wsX0_recipe wsX0_square := goodIn_r _ [24] (by decide +kernel) (by decide +kernel)
set_option maxRecDepth 20000 in
theorem gX0_recipe_X0_square : GoodIn wsX0_recipe (va_wsS RX0 158 yX0_square wsX0_square) := goodIn_app (goodIn_of _ (by decide +kernel)) ggX0_recipe_X0_square
set_option maxRecDepth 20000 in
theorem ggX0_paid_X0_checkNumber : GoodIn wsX0_paid wsX0_checkNumber := goodIn_ca (goodIn_r _ [5, 6, 7] (by decide +kernel) (by decide +kernel)) (goodIn_sub (fun _ h => List.mem_cons_of_mem _ (List.mem_append_right _ h)) (by decide +kernel))
set_option maxRecDepth 20000 in
theorem gX0_paid_X0_checkNumber : GoodIn wsX0_paid (va_wsS RX0 61 yX0_checkNumber wsX0_checkNumber) := goodIn_app (goodIn_of _ (by decide +kernel)) ggX0_paid_X0_checkNumber
set_option maxRecDepth 20000 in
theorem ggX0_checkColour_X0_checkRange : GoodIn wsX0_checkColour wsX0_checkRange := goodIn_ca (goodIn_r _ [4, 5, 6] (by decide +kernel) (by decide +kernel)) (goodIn_sub (fun _ h => List.mem_cons_of_mem _ (List.mem_append_right _ h)) (by decide +kernel))
set_option maxRecDepth 20000 in
theorem gX0_checkColour_X0_checkRange : GoodIn wsX0_checkColour (va_wsS RX0 65 yX0_checkRange wsX0_checkRange) := goodIn_app (goodIn_of _ (by decide +kernel)) ggX0_checkColour_X0_checkRange
set_option maxRecDepth 20000 in
theorem ggX0_checkAtHome_X0_isLent : GoodIn wsX0_checkAtHome wsX0_isLent := goodIn_r _ [7, 8, 9, 10, 11, 12, 13, 14, 15, 16, 17, 18, 19, 20, 21, 22, 23, 24, 25] (by decide +kernel) (by decide +kernel)
set_option maxRecDepth 20000 in
theorem gX0_checkAtHome_X0_isLent : GoodIn wsX0_checkAtHome (wsV RX0 143 RX0 yX0_isLent wsX0_isLent) := goodIn_app (goodIn_of _ (by decide +kernel)) ggX0_checkAtHome_X0_isLent
set_option maxRecDepth 20000 in
theorem ggX0_sumOfRow_X0_place : GoodIn wsX0_sumOfRow wsX0_place := goodIn_r _ [6] (by decide +kernel) (by decide +kernel)
set_option maxRecDepth 20000 in
theorem gX0_sumOfRow_X0_place : GoodIn wsX0_sumOfRow (va_wsS RX0 84 yX0_place wsX0_place) := goodIn_app (goodIn_of _ (by decide +kernel)) ggX0_sumOfRow_X0_place
set_option maxRecDepth 20000 in
theorem ggX0_sumOfTube_X0_place : GoodIn wsX0_sumOfTube wsX0_place := goodIn_r _ [5] (by decide +kernel) (by decide +kernel)
set_option maxRecDepth 20000 in
theorem gX0_sumOfTube_X0_place : GoodIn wsX0_sumOfTube (va_wsS RX0 84 yX0_place wsX0_place) := goodIn_app (goodIn_of _ (by decide +kernel)) ggX0_sumOfTube_X0_place
set_option maxRecDepth 20000 in
theorem ggX0_move_X0_sumOfRow : GoodIn wsX0_move wsX0_sumOfRow := goodIn_r _ [7, 1, 2, 8, 9, 6, 10, 11, 12, 13, 14, 15, 16, 17, 18, 19, 20, 21, 22, 23, 24, 25, 26, 27] (by decide +kernel) (by decide +kernel)
set_option maxRecDepth 20000 in
theorem gX0_move_X0_sumOfRow : GoodIn wsX0_move (wsV RX0 99 RX0 yX0_sumOfRow wsX0_sumOfRow) := goodIn_app (goodIn_of _ (by decide +kernel)) ggX0_move_X0_sumOfRow
set_option maxRecDepth 20000 in
theorem ggX0_move_X0_place : GoodIn wsX0_move wsX0_place := goodIn_r _ [10] (by decide +kernel) (by decide +kernel)
set_option maxRecDepth 20000 in
theorem gX0_move_X0_place : GoodIn wsX0_move (va_wsS RX0 84 yX0_place wsX0_place) := goodIn_app (goodIn_of _ (by decide +kernel)) ggX0_move_X0_place
set_option maxRecDepth 20000 in
theorem ggX0_waste_X0_place : GoodIn wsX0_waste wsX0_place := goodIn_r _ [6] (by decide +kernel) (by decide +kernel)
set_option maxRecDepth 20000 in
theorem gX0_waste_X0_place : GoodIn wsX0_waste (va_wsS RX0 84 yX0_place wsX0_place) := goodIn_app (goodIn_of _ (by decide +kernel)) ggX0_waste_X0_place
set_option maxRecDepth 20000 in
theorem ggX0_colourOfRow_X0_place : GoodIn wsX0_colourOfRow wsX0_place := goodIn_r _ [6] (by decide +kernel) (by decide +kernel)
set_option maxRecDepth 20000 in
theorem gX0_colourOfRow_X0_place : GoodIn wsX0_colourOfRow (va_wsS RX0 84 yX0_place wsX0_place) := goodIn_app (goodIn_of _ (by decide +kernel)) ggX0_colourOfRow_X0_place
set_option maxRecDepth 20000 in
theorem ggX0_colourOfRow_X0_colourOfTube : GoodIn wsX0_colourOfRow wsX0_colourOfTube := goodIn_r _ [10, 11, 12, 13, 14, 15, 16, 17, 18, 19, 20, 21, 22, 23, 24, 25, 26, 27, 28, 29] (by decide +kernel) (by decide +kernel)
set_option maxRecDepth 20000 in
theorem gX0_colourOfRow_X0_colourOfTube : GoodIn wsX0_colourOfRow (wsV RX0 170 RX0 yX0_colourOfTube wsX0_colourOfTube) := goodIn_app (goodIn_of _ (by decide +kernel)) ggX0_colourOfRow_X0_colourOfTube
set_option maxRecDepth 20000 in
theorem ggX0_gramsOfPigment_X0_place : GoodIn wsX0_gramsOfPigment wsX0_place := goodIn_r _ [7] (by decide +kernel) (by decide +kernel)
set_option maxRecDepth 20000 in
theorem gX0_gramsOfPigment_X0_place : GoodIn wsX0_gramsOfPigment (va_wsS RX0 84 yX0_place wsX0_place) := goodIn_app (goodIn_of _ (by decide +kernel)) ggX0_gramsOfPigment_X0_place
set_option maxRecDepth 20000 in
theorem ggX0_mainPigmentOfRow_X0_gramsOfPigment : GoodIn wsX0_mainPigmentOfRow wsX0_gramsOfPigment := goodIn_r _ [6, 7, 8, 9, 10, 11, 5, 12, 13, 14, 15, 16, 17, 18, 19, 20, 21, 22, 23, 24, 25, 26, 27, 28, 29] (by decide +kernel) (by decide +kernel)
set_option maxRecDepth 20000 in
theorem gX0_mainPigmentOfRow_X0_gramsOfPigment : GoodIn wsX0_mainPigmentOfRow (wsV RX0 173 RX0 yX0_gramsOfPigment wsX0_gramsOfPigment) := goodIn_app (goodIn_of _ (by decide +kernel)) ggX0_mainPigmentOfRow_X0_gramsOfPigment
set_option maxRecDepth 20000 in
theorem ggX0_mixed_X0_colourOfTube : GoodIn wsX0_mixed wsX0_colourOfTube := goodIn_r _ [5, 6, 7, 8, 9, 10, 11, 12, 13, 14, 15, 16, 17, 18, 19, 20, 21, 22, 23, 24] (by decide +kernel) (by decide +kernel)
set_option maxRecDepth 20000 in
theorem gX0_mixed_X0_colourOfTube : GoodIn wsX0_mixed (wsV RX0 170 RX0 yX0_colourOfTube wsX0_colourOfTube) := goodIn_app (goodIn_of _ (by decide +kernel)) ggX0_mixed_X0_colourOfTube
set_option maxRecDepth 20000 in
theorem ggX0_mainPigmentOf_X0_layerRow : GoodIn wsX0_mainPigmentOf wsX0_layerRow := goodIn_r _ [5] (by decide +kernel) (by decide +kernel)
set_option maxRecDepth 20000 in
theorem gX0_mainPigmentOf_X0_layerRow : GoodIn wsX0_mainPigmentOf (va_wsS RX0 116 yX0_layerRow wsX0_layerRow) := goodIn_app (goodIn_of _ (by decide +kernel)) ggX0_mainPigmentOf_X0_layerRow
set_option maxRecDepth 20000 in
theorem ggX0_mainPigmentOf_X0_mainPigmentOfRow : GoodIn wsX0_mainPigmentOf wsX0_mainPigmentOfRow := goodIn_r _ [9, 10, 11, 12, 13, 4, 14, 15, 16, 17, 18, 19, 20, 21, 22, 23, 24, 25, 26, 27, 28, 29, 30, 31, 32, 33, 34, 35, 36, 37] (by decide +kernel) (by decide +kernel)
set_option maxRecDepth 20000 in
theorem gX0_mainPigmentOf_X0_mainPigmentOfRow : GoodIn wsX0_mainPigmentOf (wsV RX0 176 RX0 yX0_mainPigmentOfRow wsX0_mainPigmentOfRow) := goodIn_app (goodIn_of _ (by decide +kernel)) ggX0_mainPigmentOf_X0_mainPigmentOfRow
set_option maxRecDepth 20000 in
theorem ggX0_lookOf_X0_layerRow : GoodIn wsX0_lookOf wsX0_layerRow := goodIn_r _ [5] (by decide +kernel) (by decide +kernel)
set_option maxRecDepth 20000 in
theorem gX0_lookOf_X0_layerRow : GoodIn wsX0_lookOf (va_wsS RX0 116 yX0_layerRow wsX0_layerRow) := goodIn_app (goodIn_of _ (by decide +kernel)) ggX0_lookOf_X0_layerRow
set_option maxRecDepth 20000 in
theorem ggX0_lookOf_X0_colourOfRow : GoodIn wsX0_lookOf wsX0_colourOfRow := goodIn_r _ [9, 10, 11, 12, 13, 4, 14, 15, 16, 17, 18, 19, 20, 21, 22, 23, 24, 25, 26, 27, 28, 29, 30, 31, 32, 33, 34, 35, 36, 37] (by decide +kernel) (by decide +kernel)
set_option maxRecDepth 20000 in
theorem gX0_lookOf_X0_colourOfRow : GoodIn wsX0_lookOf (wsV RX0 137 RX0 yX0_colourOfRow wsX0_colourOfRow) := goodIn_app (goodIn_of _ (by decide +kernel)) ggX0_lookOf_X0_colourOfRow
set_option maxRecDepth 20000 in
theorem ggX0_valueOf_X0_averagePriceOfAlike : GoodIn wsX0_valueOf wsX0_averagePriceOfAlike := goodIn_r _ [10, 11, 12, 13, 14, 15, 9, 16, 17, 18, 19, 20, 21, 22, 23, 24, 25, 26, 27, 28, 29, 30, 31, 32, 33, 34, 35, 36, 37, 38, 39, 40, 41, 42, 43, 44, 45, 46, 47, 48, 49, 50, 51, 52] (by decide +kernel) (by decide +kernel)
set_option maxRecDepth 20000 in
theorem gX0_valueOf_X0_averagePriceOfAlike : GoodIn wsX0_valueOf (wsV RX0 179 RX0 yX0_averagePriceOfAlike wsX0_averagePriceOfAlike) := goodIn_app (goodIn_of _ (by decide +kernel)) ggX0_valueOf_X0_averagePriceOfAlike
set_option maxRecDepth 20000 in
theorem ggX0_averagePriceOfAlike_X0_mainPigmentOf : GoodIn wsX0_averagePriceOfAlike wsX0_mainPigmentOf := goodIn_r _ [7, 8, 9, 10, 6, 11, 12, 13, 14, 15, 16, 17, 18, 19, 20, 21, 22, 23, 24, 25, 26, 27, 28, 29, 30, 31, 32, 33, 34, 35, 36, 37, 38, 39, 40, 41, 42, 43] (by decide +kernel) (by decide +kernel)
set_option maxRecDepth 20000 in
theorem gX0_averagePriceOfAlike_X0_mainPigmentOf : GoodIn wsX0_averagePriceOfAlike (wsV RX0 140 RX0 yX0_mainPigmentOf wsX0_mainPigmentOf) := goodIn_app (goodIn_of _ (by decide +kernel)) ggX0_averagePriceOfAlike_X0_mainPigmentOf
set_option maxRecDepth 20000 in
theorem ggL_calls_X0_squeeze : GoodIn wsL_calls wsX0_squeeze := goodIn_ca (goodIn_ca (goodIn_ca (goodIn_r _ [6, 7, 8, 9, 10, 11, 12, 13, 14, 5, 15, 16, 17, 18, 19, 20, 21, 22, 23, 24, 25, 26, 27, 28, 106, 107, 108, 109, 110, 111, 112, 113, 114, 115, 116, 117, 118, 119, 120, 121, 122] (by decide +kernel) (by decide +kernel)) (goodIn_sub (fun _ h => List.mem_cons_of_mem _ (List.mem_append_left _ (List.mem_append_left _ (List.mem_append_right _ h)))) (by decide +kernel))) (goodIn_sub (fun _ h => List.mem_cons_of_mem _ (List.mem_append_left _ (List.mem_append_right _ h))) (by decide +kernel))) (goodIn_sub (fun _ h => List.mem_cons_of_mem _ (List.mem_append_right _ h)) (by decide +kernel))
set_option maxRecDepth 20000 in
theorem gL_calls_X0_squeeze : GoodIn wsL_calls (wsV RL 10 RX0 yX0_squeeze wsX0_squeeze) := goodIn_app (goodIn_of _ (by decide +kernel)) ggL_calls_X0_squeeze
set_option maxRecDepth 20000 in
theorem ggL_calls_X0_pour : GoodIn wsL_calls wsX0_pour := goodIn_ca (goodIn_ca (goodIn_ca (goodIn_r _ [32, 21, 22, 7, 8, 9, 13, 14, 5, 15, 16, 17, 18, 19, 20, 23, 24, 25, 33, 34, 35, 36, 10, 12, 37, 38, 39, 40, 26, 27, 28, 106, 107, 108, 109, 110, 111, 112, 113, 114, 115, 116, 117, 118, 119, 120, 121, 122] (by decide +kernel) (by decide +kernel)) (goodIn_sub (fun _ h => List.mem_cons_of_mem _ (List.mem_append_right _ h)) (by decide +kernel))) (goodIn_sub (fun _ h => List.mem_cons_of_mem _ (List.mem_append_left _ (List.mem_append_left _ (List.mem_append_right _ h)))) (by decide +kernel))) (goodIn_sub (fun _ h => List.mem_cons_of_mem _ (List.mem_append_left _ (List.mem_append_right _ h))) (by decide +kernel))
set_option maxRecDepth 20000 in
theorem gL_calls_X0_pour : GoodIn wsL_calls (wsV RL 16 RX0 yX0_pour wsX0_pour) := goodIn_app (goodIn_of _ (by decide +kernel)) ggL_calls_X0_pour
set_option maxRecDepth 20000 in
theorem ggL_calls_X0_paint : GoodIn wsL_calls wsX0_paint := goodIn_ca (goodIn_ca (goodIn_ca (goodIn_r _ [44, 7, 8, 45, 9, 46, 13, 14, 5, 15, 16, 17, 18, 19, 20, 21, 22, 47, 48, 49, 50, 51, 52, 53, 54, 55, 23, 24, 25, 56, 57, 58, 33, 34, 35, 36, 10, 12, 37, 38, 39, 40, 26, 27, 28, 106, 107, 108, 109, 110, 111, 112, 113, 114, 115, 116, 117, 118, 119, 120, 121, 122] (by decide +kernel) (by decide +kernel)) (goodIn_sub (fun _ h => List.mem_cons_of_mem _ (List.mem_append_left _ (List.mem_append_left _ (List.mem_append_right _ h)))) (by decide +kernel))) (goodIn_sub (fun _ h => List.mem_cons_of_mem _ (List.mem_append_left _ (List.mem_append_right _ h))) (by decide +kernel))) (goodIn_sub (fun _ h => List.mem_cons_of_mem _ (List.mem_append_right _ h)) (by decide +kernel))
set_option maxRecDepth 20000 in
theorem gL_calls_X0_paint : GoodIn wsL_calls (wsV RL 19 RX0 yX0_paint wsX0_paint) := goodIn_app (goodIn_of _ (by decide +kernel)) ggL_calls_X0_paint
set_option maxRecDepth 20000 in
theorem ggL_calls_X0_clean : GoodIn wsL_calls wsX0_clean := goodIn_ca (goodIn_ca (goodIn_ca (goodIn_r _ [62, 7, 8, 45, 46, 13, 14, 5, 15, 16, 17, 18, 19, 20, 21, 22, 47, 48, 49, 50, 51, 52, 53, 54, 55, 56, 57, 58, 63, 64, 65, 66, 10, 12, 26, 27, 28, 106, 107, 108, 109, 110, 111, 112, 113, 114, 115, 116, 117, 118, 119, 120, 121, 122] (by decide +kernel) (by decide +kernel)) (goodIn_sub (fun _ h => List.mem_cons_of_mem _ (List.mem_append_left _ (List.mem_append_left _ (List.mem_append_right _ h)))) (by decide +kernel))) (goodIn_sub (fun _ h => List.mem_cons_of_mem _ (List.mem_append_left _ (List.mem_append_right _ h))) (by decide +kernel))) (goodIn_sub (fun _ h => List.mem_cons_of_mem _ (List.mem_append_right _ h)) (by decide +kernel))
set_option maxRecDepth 20000 in
theorem gL_calls_X0_clean : GoodIn wsL_calls (wsV RL 22 RX0 yX0_clean wsX0_clean) := goodIn_app (goodIn_of _ (by decide +kernel)) ggL_calls_X0_clean
set_option maxRecDepth 20000 in
theorem ggL_calls_X0_lend : GoodIn wsL_calls wsX0_lend := goodIn_ca (goodIn_ca (goodIn_ca (goodIn_r _ [70, 7, 8, 45, 71, 72, 73, 55, 13, 14, 5, 15, 16, 17, 18, 19, 20, 21, 22, 47, 48, 49, 50, 51, 52, 53, 54, 74, 75, 76, 77, 78, 79, 80, 81, 82, 83, 84, 85, 86, 87, 88, 89, 90, 46, 56, 57, 58, 91, 92, 93, 94, 95, 96, 97, 98, 99, 10, 100, 12, 26, 27, 28, 106, 107, 108, 109, 110, 111, 112, 113, 114, 115, 116, 117, 118, 119, 120, 121, 122] (by decide +kernel) (by decide +kernel)) (goodIn_sub (fun _ h => List.mem_cons_of_mem _ (List.mem_append_left _ (List.mem_append_left _ (List.mem_append_right _ h)))) (by decide +kernel))) (goodIn_sub (fun _ h => List.mem_cons_of_mem _ (List.mem_append_left _ (List.mem_append_right _ h))) (by decide +kernel))) (goodIn_sub (fun _ h => List.mem_cons_of_mem _ (List.mem_append_right _ h)) (by decide +kernel))
set_option maxRecDepth 20000 in
theorem gL_calls_X0_lend : GoodIn wsL_calls (wsV RL 26 RX0 yX0_lend wsX0_lend) := goodIn_app (goodIn_of _ (by decide +kernel)) ggL_calls_X0_lend
set_option maxRecDepth 20000 in
theorem ggL_calls_X0_sell : GoodIn wsL_calls wsX0_sell := goodIn_ca (goodIn_ca (goodIn_ca (goodIn_r _ [104, 7, 8, 45, 105, 46, 86, 13, 14, 5, 15, 16, 17, 18, 19, 20, 21, 22, 47, 48, 49, 50, 51, 52, 53, 54, 55, 74, 75, 76, 77, 71, 78, 79, 80, 81, 82, 83, 84, 85, 87, 88, 89, 90, 56, 57, 58, 91, 92, 93, 94, 95, 96, 97, 98, 99, 10, 100, 12, 26, 27, 28, 106, 107, 108, 109, 110, 111, 112, 113, 114, 115, 116, 117, 118, 119, 120, 121, 122] (by decide +kernel) (by decide +kernel)) (goodIn_sub (fun _ h => List.mem_cons_of_mem _ (List.mem_append_left _ (List.mem_append_left _ (List.mem_append_right _ h)))) (by decide +kernel))) (goodIn_sub (fun _ h => List.mem_cons_of_mem _ (List.mem_append_left _ (List.mem_append_right _ h))) (by decide +kernel))) (goodIn_sub (fun _ h => List.mem_cons_of_mem _ (List.mem_append_right _ h)) (by decide +kernel))
set_option maxRecDepth 20000 in
theorem gL_calls_X0_sell : GoodIn wsL_calls (wsV RL 29 RX0 yX0_sell wsX0_sell) := goodIn_app (goodIn_of _ (by decide +kernel)) ggL_calls_X0_sell
set_option maxRecDepth 20000 in
theorem ggL_flows_L_total : GoodIn wsL_flows wsL_total := goodIn_r _ [4] (by decide +kernel) (by decide +kernel)
set_option maxRecDepth 20000 in
theorem gL_flows_L_total : GoodIn wsL_flows (va_wsS RL 34 yL_total wsL_total) := goodIn_app (goodIn_of _ (by decide +kernel)) ggL_flows_L_total
set_option maxRecDepth 20000 in
theorem ggL_main_L_at : GoodIn wsL_main wsL_at := goodIn_r _ [4] (by decide +kernel) (by decide +kernel)
set_option maxRecDepth 20000 in
theorem gL_main_L_at : GoodIn wsL_main (va_wsS RL 40 yL_at wsL_at) := goodIn_app (goodIn_of _ (by decide +kernel)) ggL_main_L_at
set_option maxRecDepth 20000 in
theorem ggL_main_L_grams : GoodIn wsL_main wsL_grams := goodIn_r _ [7] (by decide +kernel) (by decide +kernel)
set_option maxRecDepth 20000 in
theorem gL_main_L_grams : GoodIn wsL_main (va_wsS RL 43 yL_grams wsL_grams) := goodIn_app (goodIn_of _ (by decide +kernel)) ggL_main_L_grams
set_option maxRecDepth 20000 in
theorem ggL_value_L_main : GoodIn wsL_value wsL_main := goodIn_r _ [4, 5, 6, 3, 7, 8, 9, 10] (by decide +kernel) (by decide +kernel)
set_option maxRecDepth 20000 in
theorem gL_value_L_main : GoodIn wsL_value (va_wsS RL 47 yL_main wsL_main) := goodIn_app (goodIn_of _ (by decide +kernel)) ggL_value_L_main
set_option maxRecDepth 20000 in
theorem ggL_mixes_L_low : GoodIn wsL_mixes wsL_low := goodIn_r _ [5, 6] (by decide +kernel) (by decide +kernel)
set_option maxRecDepth 20000 in
theorem gL_mixes_L_low : GoodIn wsL_mixes (va_wsS RL 51 yL_low wsL_low) := goodIn_app (goodIn_of _ (by decide +kernel)) ggL_mixes_L_low
set_option maxRecDepth 20000 in
theorem ggL_mixes_L_calls : GoodIn wsL_mixes wsL_calls := goodIn_ca (goodIn_ca (goodIn_ca (goodIn_r _ [9, 10, 11, 12, 13, 14, 15, 16, 17, 18, 19, 20, 21, 22, 23, 24, 25, 26, 27, 28, 29, 30, 31, 32, 33, 34, 35, 36, 37, 38, 39, 40, 41, 42, 43, 44, 45, 46, 47, 48, 49, 50, 51, 52, 53, 54, 55, 56, 57, 58, 59, 60, 61, 62, 63, 64, 65, 66, 67, 68, 69, 70, 71, 72, 73, 74, 75, 76, 77, 78, 79, 80, 81, 82, 83, 84, 85, 86, 87, 88, 89, 90, 91, 92, 93, 94, 95, 96, 97, 98, 99, 100, 101, 102, 103, 104, 105, 106, 107, 108, 109, 110, 111, 112, 113, 114, 131, 132, 133, 134, 135, 136, 137, 138, 139, 140, 141, 142, 143, 144, 145, 146, 147] (by decide +kernel) (by decide +kernel)) (goodIn_sub (fun _ h => List.mem_cons_of_mem _ (List.mem_append_left _ (List.mem_append_left _ (List.mem_append_right _ h)))) (by decide +kernel))) (goodIn_sub (fun _ h => List.mem_cons_of_mem _ (List.mem_append_left _ (List.mem_append_right _ h))) (by decide +kernel))) (goodIn_sub (fun _ h => List.mem_cons_of_mem _ (List.mem_append_right _ h)) (by decide +kernel))
set_option maxRecDepth 20000 in
theorem gL_mixes_L_calls : GoodIn wsL_mixes (va_wsS RL 54 yL_calls wsL_calls) := goodIn_app (goodIn_of _ (by decide +kernel)) ggL_mixes_L_calls
set_option maxRecDepth 20000 in
theorem ggL_mixes_L_total : GoodIn wsL_mixes wsL_total := goodIn_r _ [117] (by decide +kernel) (by decide +kernel)
set_option maxRecDepth 20000 in
theorem gL_mixes_L_total : GoodIn wsL_mixes (va_wsS RL 34 yL_total wsL_total) := goodIn_app (goodIn_of _ (by decide +kernel)) ggL_mixes_L_total
set_option maxRecDepth 20000 in
theorem ggL_mixes_L_flows : GoodIn wsL_mixes wsL_flows := goodIn_r _ [120, 115, 116, 4, 117] (by decide +kernel) (by decide +kernel)
set_option maxRecDepth 20000 in
theorem gL_mixes_L_flows : GoodIn wsL_mixes (va_wsS RL 58 yL_flows wsL_flows) := goodIn_app (goodIn_of _ (by decide +kernel)) ggL_mixes_L_flows
set_option maxRecDepth 20000 in
theorem ggL_mixes_X0_scrape : GoodIn wsL_mixes wsX0_scrape := goodIn_ca (goodIn_r _ [124, 18, 22, 23, 14, 24, 25, 26, 32, 33, 34, 72, 73, 74, 75, 19, 21, 35, 36, 37, 131, 132, 133, 134, 135, 136, 137, 138, 139, 140, 141, 142, 143, 144, 145, 146, 147] (by decide +kernel) (by decide +kernel)) (goodIn_sub (fun _ h => List.mem_cons_of_mem _ (List.mem_append_left _ (List.mem_append_right _ h))) (by decide +kernel))
set_option maxRecDepth 20000 in
theorem gL_mixes_X0_scrape : GoodIn wsL_mixes (wsV RL 62 RX0 yX0_scrape wsX0_scrape) := goodIn_app (goodIn_of _ (by decide +kernel)) ggL_mixes_X0_scrape
set_option maxRecDepth 20000 in
theorem ggL_mixes_L_at : GoodIn wsL_mixes wsL_at := goodIn_r _ [127] (by decide +kernel) (by decide +kernel)
set_option maxRecDepth 20000 in
theorem gL_mixes_L_at : GoodIn wsL_mixes (va_wsS RL 40 yL_at wsL_at) := goodIn_app (goodIn_of _ (by decide +kernel)) ggL_mixes_L_at
set_option maxRecDepth 20000 in
theorem ggL_mixes_L_grams : GoodIn wsL_mixes wsL_grams := goodIn_r _ [130] (by decide +kernel) (by decide +kernel)
set_option maxRecDepth 20000 in
theorem gL_mixes_L_grams : GoodIn wsL_mixes (va_wsS RL 43 yL_grams wsL_grams) := goodIn_app (goodIn_of _ (by decide +kernel)) ggL_mixes_L_grams
set_option maxRecDepth 20000 in
theorem ggL_trades_L_low : GoodIn wsL_trades wsL_low := goodIn_r _ [4, 5] (by decide +kernel) (by decide +kernel)
set_option maxRecDepth 20000 in
theorem gL_trades_L_low : GoodIn wsL_trades (va_wsS RL 51 yL_low wsL_low) := goodIn_app (goodIn_of _ (by decide +kernel)) ggL_trades_L_low
set_option maxRecDepth 20000 in
theorem ggL_trades_L_value : GoodIn wsL_trades wsL_value := goodIn_r _ [8, 9, 10, 3, 11, 12, 13, 14, 15, 16, 17] (by decide +kernel) (by decide +kernel)
set_option maxRecDepth 20000 in
theorem gL_trades_L_value : GoodIn wsL_trades (va_wsS RL 67 yL_value wsL_value) := goodIn_app (goodIn_of _ (by decide +kernel)) ggL_trades_L_value
set_option maxRecDepth 20000 in
theorem ggL_trades_L_calls : GoodIn wsL_trades wsL_calls := goodIn_ca (goodIn_ca (goodIn_ca (goodIn_r _ [20, 21, 22, 23, 24, 25, 26, 27, 28, 29, 30, 31, 32, 33, 34, 35, 36, 37, 38, 39, 40, 41, 42, 43, 44, 45, 46, 47, 48, 49, 50, 51, 52, 53, 54, 55, 56, 57, 58, 59, 60, 61, 62, 63, 64, 65, 66, 67, 68, 69, 70, 71, 72, 73, 74, 75, 76, 77, 78, 79, 80, 81, 82, 83, 84, 85, 86, 87, 88, 89, 90, 91, 92, 93, 94, 95, 96, 97, 98, 99, 100, 101, 102, 103, 104, 105, 106, 107, 108, 109, 110, 111, 112, 113, 114, 115, 116, 117, 118, 119, 120, 121, 122, 123, 124, 125, 131, 132, 133, 134, 135, 136, 137, 138, 139, 140, 141, 142, 143, 144, 145, 146, 147] (by decide +kernel) (by decide +kernel)) (goodIn_sub (fun _ h => List.mem_cons_of_mem _ (List.mem_append_left _ (List.mem_append_left _ (List.mem_append_right _ h)))) (by decide +kernel))) (goodIn_sub (fun _ h => List.mem_cons_of_mem _ (List.mem_append_left _ (List.mem_append_right _ h))) (by decide +kernel))) (goodIn_sub (fun _ h => List.mem_cons_of_mem _ (List.mem_append_right _ h)) (by decide +kernel))
set_option maxRecDepth 20000 in
theorem gL_trades_L_calls : GoodIn wsL_trades (va_wsS RL 54 yL_calls wsL_calls) := goodIn_app (goodIn_of _ (by decide +kernel)) ggL_trades_L_calls
set_option maxRecDepth 20000 in
theorem ggL_trades_X0_damp : GoodIn wsL_trades wsX0_damp := goodIn_ca (goodIn_ca (goodIn_r _ [129, 130, 33, 34, 25, 35, 36, 37, 38, 39, 40, 41, 42, 131, 132, 133, 134, 135, 136, 137, 138, 139, 140, 141, 142, 143, 144, 145, 146, 147] (by decide +kernel) (by decide +kernel)) (goodIn_sub (fun _ h => List.mem_cons_of_mem _ (List.mem_append_left _ (List.mem_append_right _ h))) (by decide +kernel))) (goodIn_sub (fun _ h => List.mem_cons_of_mem _ (List.mem_append_right _ h)) (by decide +kernel))
set_option maxRecDepth 20000 in
theorem gL_trades_X0_damp : GoodIn wsL_trades (wsV RL 70 RX0 yX0_damp wsX0_damp) := goodIn_app (goodIn_of _ (by decide +kernel)) ggL_trades_X0_damp
set_option maxRecDepth 20000 in
theorem ggL_same_L_low : GoodIn wsL_same wsL_low := goodIn_r _ [4, 5] (by decide +kernel) (by decide +kernel)
set_option maxRecDepth 20000 in
theorem gL_same_L_low : GoodIn wsL_same (va_wsS RL 51 yL_low wsL_low) := goodIn_app (goodIn_of _ (by decide +kernel)) ggL_same_L_low
set_option maxRecDepth 20000 in
theorem ggL_same_L_at : GoodIn wsL_same wsL_at := goodIn_r _ [8] (by decide +kernel) (by decide +kernel)
set_option maxRecDepth 20000 in
theorem gL_same_L_at : GoodIn wsL_same (va_wsS RL 40 yL_at wsL_at) := goodIn_app (goodIn_of _ (by decide +kernel)) ggL_same_L_at
set_option maxRecDepth 20000 in
theorem ggL_same_L_grams : GoodIn wsL_same wsL_grams := goodIn_r _ [11] (by decide +kernel) (by decide +kernel)
set_option maxRecDepth 20000 in
theorem gL_same_L_grams : GoodIn wsL_same (va_wsS RL 43 yL_grams wsL_grams) := goodIn_app (goodIn_of _ (by decide +kernel)) ggL_same_L_grams
set_option maxRecDepth 20000 in
theorem ggL_same_X0_has : GoodIn wsL_same wsX0_has := goodIn_ca (goodIn_r _ [16, 17, 18, 19, 20, 21, 15, 22, 23, 24, 25, 26, 27, 28, 29, 30, 31, 32, 33, 34, 151, 152, 153, 154, 155, 156, 157, 158, 159, 160, 161, 162, 163, 164, 165, 166, 167] (by decide +kernel) (by decide +kernel)) (goodIn_sub (fun _ h => List.mem_cons_of_mem _ (List.mem_append_left _ (List.mem_append_right _ h))) (by decide +kernel))
set_option maxRecDepth 20000 in
theorem gL_same_X0_has : GoodIn wsL_same (wsV RL 73 RX0 yX0_has wsX0_has) := goodIn_app (goodIn_of _ (by decide +kernel)) ggL_same_X0_has
set_option maxRecDepth 20000 in
theorem ggL_same_X0_layer : GoodIn wsL_same wsX0_layer := goodIn_ca (goodIn_r _ [38, 39, 40, 18, 19, 20, 21, 15, 22, 23, 24, 41, 42, 43, 32, 33, 34, 151, 152, 153, 154, 155, 156, 157, 158, 159, 160, 161, 162, 163, 164, 165, 166, 167] (by decide +kernel) (by decide +kernel)) (goodIn_sub (fun _ h => List.mem_cons_of_mem _ (List.mem_append_left _ (List.mem_append_right _ h))) (by decide +kernel))
set_option maxRecDepth 20000 in
theorem gL_same_X0_layer : GoodIn wsL_same (wsV RL 76 RX0 yX0_layer wsX0_layer) := goodIn_app (goodIn_of _ (by decide +kernel)) ggL_same_X0_layer
set_option maxRecDepth 20000 in
theorem ggL_same_L_total : GoodIn wsL_same wsL_total := goodIn_r _ [46] (by decide +kernel) (by decide +kernel)
set_option maxRecDepth 20000 in
theorem gL_same_L_total : GoodIn wsL_same (va_wsS RL 34 yL_total wsL_total) := goodIn_app (goodIn_of _ (by decide +kernel)) ggL_same_L_total
set_option maxRecDepth 20000 in
theorem ggL_same_X0_colour : GoodIn wsL_same wsX0_colour := goodIn_ca (goodIn_ca (goodIn_r _ [50, 17, 20, 21, 15, 22, 23, 24, 51, 52, 53, 54, 55, 25, 26, 27, 56, 57, 58, 59, 18, 19, 32, 33, 34, 60, 61, 62, 63, 64, 65, 151, 152, 153, 154, 155, 156, 157, 158, 159, 160, 161, 162, 163, 164, 165, 166, 167] (by decide +kernel) (by decide +kernel)) (goodIn_sub (fun _ h => List.mem_cons_of_mem _ (List.mem_append_left _ (List.mem_append_right _ h))) (by decide +kernel))) (goodIn_sub (fun _ h => List.mem_cons_of_mem _ (List.mem_append_right _ h)) (by decide +kernel))
set_option maxRecDepth 20000 in
theorem gL_same_X0_colour : GoodIn wsL_same (wsV RL 79 RX0 yX0_colour wsX0_colour) := goodIn_app (goodIn_of _ (by decide +kernel)) ggL_same_X0_colour
set_option maxRecDepth 20000 in
theorem ggL_same_L_shade : GoodIn wsL_same wsL_shade := goodIn_r _ [68] (by decide +kernel) (by decide +kernel)
set_option maxRecDepth 20000 in
theorem gL_same_L_shade : GoodIn wsL_same (va_wsS RL 82 yL_shade wsL_shade) := goodIn_app (goodIn_of _ (by decide +kernel)) ggL_same_L_shade
set_option maxRecDepth 20000 in
theorem ggL_same_X0_of : GoodIn wsL_same wsX0_of := goodIn_ca (goodIn_ca (goodIn_r _ [72, 39, 40, 73, 74, 75, 20, 21, 15, 22, 23, 24, 51, 52, 53, 54, 55, 76, 77, 78, 79, 80, 81, 82, 83, 84, 85, 86, 87, 88, 89, 90, 91, 92, 41, 42, 43, 93, 94, 95, 96, 97, 98, 99, 100, 101, 18, 65, 19, 32, 33, 34, 102, 103, 104, 105, 106, 107, 108, 109, 56, 57, 58, 59, 60, 61, 62, 63, 64, 151, 152, 153, 154, 155, 156, 157, 158, 159, 160, 161, 162, 163, 164, 165, 166, 167] (by decide +kernel) (by decide +kernel)) (goodIn_sub (fun _ h => List.mem_cons_of_mem _ (List.mem_append_left _ (List.mem_append_right _ h))) (by decide +kernel))) (goodIn_sub (fun _ h => List.mem_cons_of_mem _ (List.mem_append_right _ h)) (by decide +kernel))
set_option maxRecDepth 20000 in
theorem gL_same_X0_of : GoodIn wsL_same (wsV RL 85 RX0 yX0_of wsX0_of) := goodIn_app (goodIn_of _ (by decide +kernel)) ggL_same_X0_of
set_option maxRecDepth 20000 in
theorem ggL_same_L_value : GoodIn wsL_same wsL_value := goodIn_r _ [112, 113, 114, 3, 115, 6, 7, 8, 9, 10, 11] (by decide +kernel) (by decide +kernel)
set_option maxRecDepth 20000 in
theorem gL_same_L_value : GoodIn wsL_same (va_wsS RL 67 yL_value wsL_value) := goodIn_app (goodIn_of _ (by decide +kernel)) ggL_same_L_value
set_option maxRecDepth 20000 in
theorem ggL_same_L_main : GoodIn wsL_same wsL_main := goodIn_r _ [115, 6, 7, 3, 8, 9, 10, 11] (by decide +kernel) (by decide +kernel)
set_option maxRecDepth 20000 in
theorem gL_same_L_main : GoodIn wsL_same (va_wsS RL 47 yL_main wsL_main) := goodIn_app (goodIn_of _ (by decide +kernel)) ggL_same_L_main
set_option maxRecDepth 20000 in
theorem ggL_same_X0_paid : GoodIn wsL_same wsX0_paid := goodIn_ca (goodIn_r _ [119, 120, 20, 21, 15, 22, 23, 24, 151, 152, 153, 154, 155, 156, 157, 158, 159, 160, 161, 162, 163, 164, 165, 166, 167] (by decide +kernel) (by decide +kernel)) (goodIn_sub (fun _ h => List.mem_cons_of_mem _ (List.mem_append_left _ (List.mem_append_right _ h))) (by decide +kernel))
set_option maxRecDepth 20000 in
theorem gL_same_X0_paid : GoodIn wsL_same (wsV RL 88 RX0 yX0_paid wsX0_paid) := goodIn_app (goodIn_of _ (by decide +kernel)) ggL_same_X0_paid
set_option maxRecDepth 20000 in
theorem ggL_same_X0_left : GoodIn wsL_same wsX0_left := goodIn_ca (goodIn_r _ [124, 18, 125, 20, 21, 15, 22, 23, 24, 151, 152, 153, 154, 155, 156, 157, 158, 159, 160, 161, 162, 163, 164, 165, 166, 167] (by decide +kernel) (by decide +kernel)) (goodIn_sub (fun _ h => List.mem_cons_of_mem _ (List.mem_append_left _ (List.mem_append_right _ h))) (by decide +kernel))
set_option maxRecDepth 20000 in
theorem gL_same_X0_left : GoodIn wsL_same (wsV RL 91 RX0 yX0_left wsX0_left) := goodIn_app (goodIn_of _ (by decide +kernel)) ggL_same_X0_left
set_option maxRecDepth 20000 in
theorem ggL_same_X0_where : GoodIn wsL_same wsX0_where := goodIn_ca (goodIn_ca (goodIn_r _ [129, 18, 125, 20, 21, 15, 22, 23, 24, 51, 52, 53, 54, 55, 130, 131, 132, 133, 19, 32, 33, 34, 151, 152, 153, 154, 155, 156, 157, 158, 159, 160, 161, 162, 163, 164, 165, 166, 167] (by decide +kernel) (by decide +kernel)) (goodIn_sub (fun _ h => List.mem_cons_of_mem _ (List.mem_append_left _ (List.mem_append_right _ h))) (by decide +kernel))) (goodIn_sub (fun _ h => List.mem_cons_of_mem _ (List.mem_append_right _ h)) (by decide +kernel))
set_option maxRecDepth 20000 in
theorem gL_same_X0_where : GoodIn wsL_same (wsV RL 94 RX0 yX0_where wsX0_where) := goodIn_app (goodIn_of _ (by decide +kernel)) ggL_same_X0_where
set_option maxRecDepth 20000 in
theorem ggL_same_X0_recipe : GoodIn wsL_same wsX0_recipe := goodIn_ca (goodIn_r _ [137, 18, 125, 138, 139, 15, 140, 51, 52, 53, 54, 55, 141, 142, 143, 144, 60, 61, 62, 63, 64, 65, 145, 146, 147, 151, 152, 153, 154, 155, 156, 157, 158, 159, 160, 161, 162, 163, 164, 165, 166, 167] (by decide +kernel) (by decide +kernel)) (goodIn_sub (fun _ h => List.mem_cons_of_mem _ (List.mem_append_right _ h)) (by decide +kernel))
set_option maxRecDepth 20000 in
theorem gL_same_X0_recipe : GoodIn wsL_same (wsV RL 97 RX0 yX0_recipe wsX0_recipe) := goodIn_app (goodIn_of _ (by decide +kernel)) ggL_same_X0_recipe
set_option maxRecDepth 20000 in
theorem ggL_same_L_recipe : GoodIn wsL_same wsL_recipe := goodIn_r _ [150, 5] (by decide +kernel) (by decide +kernel)
set_option maxRecDepth 20000 in
theorem gL_same_L_recipe : GoodIn wsL_same (va_wsS RL 100 yL_recipe wsL_recipe) := goodIn_app (goodIn_of _ (by decide +kernel)) ggL_same_L_recipe
abbrev vwCl : List vw_C := [(RX0, TX0, 17)]
end
section
theorem dX0_init_0 : decode cX0_init 0 = .ok (.aload_n 0, 1) := by decide +kernel
theorem dX0_init_1 : decode cX0_init 1 = .ok (.invokespecial 3, 3) := by decide +kernel
theorem dX0_init_4 : decode cX0_init 4 = .ok (.aload_n 0, 1) := by decide +kernel
theorem dX0_init_5 : decode cX0_init 5 = .ok (.bipush 18, 2) := by decide +kernel
theorem dX0_init_7 : decode cX0_init 7 = .ok (.newarray .int, 2) := by decide +kernel
theorem dX0_init_9 : decode cX0_init 9 = .ok (.putfield 9, 3) := by decide +kernel
theorem dX0_init_12 : decode cX0_init 12 = .ok (.aload_n 0, 1) := by decide +kernel
theorem dX0_init_13 : decode cX0_init 13 = .ok (.bipush 12, 2) := by decide +kernel
theorem dX0_init_15 : decode cX0_init 15 = .ok (.newarray .int, 2) := by decide +kernel
theorem dX0_init_17 : decode cX0_init 17 = .ok (.putfield 13, 3) := by decide +kernel
theorem dX0_init_20 : decode cX0_init 20 = .ok (.aload_n 0, 1) := by decide +kernel
theorem dX0_init_21 : decode cX0_init 21 = .ok (.bipush 12, 2) := by decide +kernel
theorem dX0_init_23 : decode cX0_init 23 = .ok (.newarray .int, 2) := by decide +kernel
theorem dX0_init_25 : decode cX0_init 25 = .ok (.putfield 16, 3) := by decide +kernel
theorem dX0_init_28 : decode cX0_init 28 = .ok (.aload_n 0, 1) := by decide +kernel
theorem dX0_init_29 : decode cX0_init 29 = .ok (.sipush 1284, 3) := by decide +kernel
theorem dX0_init_32 : decode cX0_init 32 = .ok (.newarray .int, 2) := by decide +kernel
theorem dX0_init_34 : decode cX0_init 34 = .ok (.putfield 19, 3) := by decide +kernel
theorem dX0_init_37 : decode cX0_init 37 = .ok (.aload_n 0, 1) := by decide +kernel
theorem dX0_init_38 : decode cX0_init 38 = .ok (.bipush 8, 2) := by decide +kernel
theorem dX0_init_40 : decode cX0_init 40 = .ok (.newarray .int, 2) := by decide +kernel
theorem dX0_init_42 : decode cX0_init 42 = .ok (.putfield 22, 3) := by decide +kernel
theorem dX0_init_45 : decode cX0_init 45 = .ok (.aload_n 0, 1) := by decide +kernel
theorem dX0_init_46 : decode cX0_init 46 = .ok (.bipush 8, 2) := by decide +kernel
theorem dX0_init_48 : decode cX0_init 48 = .ok (.newarray .int, 2) := by decide +kernel
theorem dX0_init_50 : decode cX0_init 50 = .ok (.putfield 25, 3) := by decide +kernel
theorem dX0_init_53 : decode cX0_init 53 = .ok (.aload_n 0, 1) := by decide +kernel
theorem dX0_init_54 : decode cX0_init 54 = .ok (.bipush 8, 2) := by decide +kernel
theorem dX0_init_56 : decode cX0_init 56 = .ok (.newarray .int, 2) := by decide +kernel
theorem dX0_init_58 : decode cX0_init 58 = .ok (.putfield 28, 3) := by decide +kernel
theorem dX0_init_61 : decode cX0_init 61 = .ok (.aload_n 0, 1) := by decide +kernel
theorem dX0_init_62 : decode cX0_init 62 = .ok (.bipush 8, 2) := by decide +kernel
theorem dX0_init_64 : decode cX0_init 64 = .ok (.newarray .int, 2) := by decide +kernel
theorem dX0_init_66 : decode cX0_init 66 = .ok (.putfield 31, 3) := by decide +kernel
theorem dX0_init_69 : decode cX0_init 69 = .ok (.aload_n 0, 1) := by decide +kernel
theorem dX0_init_70 : decode cX0_init 70 = .ok (.bipush 8, 2) := by decide +kernel
theorem dX0_init_72 : decode cX0_init 72 = .ok (.newarray .int, 2) := by decide +kernel
theorem dX0_init_74 : decode cX0_init 74 = .ok (.putfield 34, 3) := by decide +kernel
theorem dX0_init_77 : decode cX0_init 77 = .ok (.aload_n 0, 1) := by decide +kernel
theorem dX0_init_78 : decode cX0_init 78 = .ok (.bipush 8, 2) := by decide +kernel
theorem dX0_init_80 : decode cX0_init 80 = .ok (.newarray .int, 2) := by decide +kernel
theorem dX0_init_82 : decode cX0_init 82 = .ok (.putfield 37, 3) := by decide +kernel
theorem dX0_init_85 : decode cX0_init 85 = .ok (.aload_n 0, 1) := by decide +kernel
theorem dX0_init_86 : decode cX0_init 86 = .ok (.iconst 4, 1) := by decide +kernel
theorem dX0_init_87 : decode cX0_init 87 = .ok (.newarray .int, 2) := by decide +kernel
theorem dX0_init_89 : decode cX0_init 89 = .ok (.putfield 40, 3) := by decide +kernel
theorem dX0_init_92 : decode cX0_init 92 = .ok (.aload_n 0, 1) := by decide +kernel
theorem dX0_init_93 : decode cX0_init 93 = .ok (.iconst 4, 1) := by decide +kernel
theorem dX0_init_94 : decode cX0_init 94 = .ok (.newarray .int, 2) := by decide +kernel
theorem dX0_init_96 : decode cX0_init 96 = .ok (.putfield 43, 3) := by decide +kernel
theorem dX0_init_99 : decode cX0_init 99 = .ok (.iconst 0, 1) := by decide +kernel
theorem dX0_init_100 : decode cX0_init 100 = .ok (.istore_n 1, 1) := by decide +kernel
theorem dX0_init_101 : decode cX0_init 101 = .ok (.iload_n 1, 1) := by decide +kernel
theorem dX0_init_102 : decode cX0_init 102 = .ok (.iconst 4, 1) := by decide +kernel
theorem dX0_init_103 : decode cX0_init 103 = .ok (.if_icmp .ge 17, 3) := by decide +kernel
theorem dX0_init_106 : decode cX0_init 106 = .ok (.aload_n 0, 1) := by decide +kernel
theorem dX0_init_107 : decode cX0_init 107 = .ok (.getfield 40, 3) := by decide +kernel
theorem dX0_init_110 : decode cX0_init 110 = .ok (.iload_n 1, 1) := by decide +kernel
theorem dX0_init_111 : decode cX0_init 111 = .ok (.bipush 50, 2) := by decide +kernel
theorem dX0_init_113 : decode cX0_init 113 = .ok (.iastore, 1) := by decide +kernel
theorem dX0_init_114 : decode cX0_init 114 = .ok (.iinc 1 1, 3) := by decide +kernel
theorem dX0_init_117 : decode cX0_init 117 = .ok (.goto (-16), 3) := by decide +kernel
theorem dX0_init_120 : decode cX0_init 120 = .ok (.return_, 1) := by decide +kernel
theorem dX0_pigment_0 : decode cX0_pigment 0 = .ok (.iload_n 1, 1) := by decide +kernel
theorem dX0_pigment_1 : decode cX0_pigment 1 = .ok (.iload_n 2, 1) := by decide +kernel
theorem dX0_pigment_2 : decode cX0_pigment 2 = .ok (.iload_n 3, 1) := by decide +kernel
theorem dX0_pigment_3 : decode cX0_pigment 3 = .ok (.invokestatic 46, 3) := by decide +kernel
theorem dX0_pigment_6 : decode cX0_pigment 6 = .ok (.aload_n 0, 1) := by decide +kernel
theorem dX0_pigment_7 : decode cX0_pigment 7 = .ok (.getfield 50, 3) := by decide +kernel
theorem dX0_pigment_10 : decode cX0_pigment 10 = .ok (.bipush 6, 2) := by decide +kernel
theorem dX0_pigment_12 : decode cX0_pigment 12 = .ok (.if_icmp .lt 13, 3) := by decide +kernel
theorem dX0_pigment_15 : decode cX0_pigment 15 = .ok (.new 54, 3) := by decide +kernel
theorem dX0_pigment_18 : decode cX0_pigment 18 = .ok (.dup, 1) := by decide +kernel
theorem dX0_pigment_19 : decode cX0_pigment 19 = .ok (.ldc 56, 2) := by decide +kernel
theorem dX0_pigment_21 : decode cX0_pigment 21 = .ok (.invokespecial 58, 3) := by decide +kernel
theorem dX0_pigment_24 : decode cX0_pigment 24 = .ok (.athrow, 1) := by decide +kernel
theorem dX0_pigment_25 : decode cX0_pigment 25 = .ok (.aload_n 0, 1) := by decide +kernel
theorem dX0_pigment_26 : decode cX0_pigment 26 = .ok (.getfield 50, 3) := by decide +kernel
theorem dX0_pigment_29 : decode cX0_pigment 29 = .ok (.iconst 3, 1) := by decide +kernel
theorem dX0_pigment_30 : decode cX0_pigment 30 = .ok (.imul, 1) := by decide +kernel
theorem dX0_pigment_31 : decode cX0_pigment 31 = .ok (.istore 4, 2) := by decide +kernel
theorem dX0_pigment_33 : decode cX0_pigment 33 = .ok (.aload_n 0, 1) := by decide +kernel
theorem dX0_pigment_34 : decode cX0_pigment 34 = .ok (.getfield 9, 3) := by decide +kernel
theorem dX0_pigment_37 : decode cX0_pigment 37 = .ok (.iload 4, 2) := by decide +kernel
theorem dX0_pigment_39 : decode cX0_pigment 39 = .ok (.iload_n 1, 1) := by decide +kernel
theorem dX0_pigment_40 : decode cX0_pigment 40 = .ok (.iastore, 1) := by decide +kernel
theorem dX0_pigment_41 : decode cX0_pigment 41 = .ok (.aload_n 0, 1) := by decide +kernel
theorem dX0_pigment_42 : decode cX0_pigment 42 = .ok (.getfield 9, 3) := by decide +kernel
theorem dX0_pigment_45 : decode cX0_pigment 45 = .ok (.iload 4, 2) := by decide +kernel
theorem dX0_pigment_47 : decode cX0_pigment 47 = .ok (.iconst 1, 1) := by decide +kernel
theorem dX0_pigment_48 : decode cX0_pigment 48 = .ok (.iadd, 1) := by decide +kernel
theorem dX0_pigment_49 : decode cX0_pigment 49 = .ok (.iload_n 2, 1) := by decide +kernel
theorem dX0_pigment_50 : decode cX0_pigment 50 = .ok (.iastore, 1) := by decide +kernel
theorem dX0_pigment_51 : decode cX0_pigment 51 = .ok (.aload_n 0, 1) := by decide +kernel
theorem dX0_pigment_52 : decode cX0_pigment 52 = .ok (.getfield 9, 3) := by decide +kernel
theorem dX0_pigment_55 : decode cX0_pigment 55 = .ok (.iload 4, 2) := by decide +kernel
theorem dX0_pigment_57 : decode cX0_pigment 57 = .ok (.iconst 2, 1) := by decide +kernel
theorem dX0_pigment_58 : decode cX0_pigment 58 = .ok (.iadd, 1) := by decide +kernel
theorem dX0_pigment_59 : decode cX0_pigment 59 = .ok (.iload_n 3, 1) := by decide +kernel
theorem dX0_pigment_60 : decode cX0_pigment 60 = .ok (.iastore, 1) := by decide +kernel
theorem dX0_pigment_61 : decode cX0_pigment 61 = .ok (.aload_n 0, 1) := by decide +kernel
theorem dX0_pigment_62 : decode cX0_pigment 62 = .ok (.dup, 1) := by decide +kernel
theorem dX0_pigment_63 : decode cX0_pigment 63 = .ok (.getfield 50, 3) := by decide +kernel
theorem dX0_pigment_66 : decode cX0_pigment 66 = .ok (.iconst 1, 1) := by decide +kernel
theorem dX0_pigment_67 : decode cX0_pigment 67 = .ok (.iadd, 1) := by decide +kernel
theorem dX0_pigment_68 : decode cX0_pigment 68 = .ok (.putfield 50, 3) := by decide +kernel
theorem dX0_pigment_71 : decode cX0_pigment 71 = .ok (.aload_n 0, 1) := by decide +kernel
theorem dX0_pigment_72 : decode cX0_pigment 72 = .ok (.getfield 50, 3) := by decide +kernel
theorem dX0_pigment_75 : decode cX0_pigment 75 = .ok (.iconst 1, 1) := by decide +kernel
theorem dX0_pigment_76 : decode cX0_pigment 76 = .ok (.isub, 1) := by decide +kernel
theorem dX0_pigment_77 : decode cX0_pigment 77 = .ok (.ireturn, 1) := by decide +kernel
theorem dX0_tube_0 : decode cX0_tube 0 = .ok (.iload_n 1, 1) := by decide +kernel
theorem dX0_tube_1 : decode cX0_tube 1 = .ok (.aload_n 0, 1) := by decide +kernel
theorem dX0_tube_2 : decode cX0_tube 2 = .ok (.getfield 50, 3) := by decide +kernel
theorem dX0_tube_5 : decode cX0_tube 5 = .ok (.invokestatic 61, 3) := by decide +kernel
theorem dX0_tube_8 : decode cX0_tube 8 = .ok (.iload_n 2, 1) := by decide +kernel
theorem dX0_tube_9 : decode cX0_tube 9 = .ok (.iconst 1, 1) := by decide +kernel
theorem dX0_tube_10 : decode cX0_tube 10 = .ok (.sipush 1000, 3) := by decide +kernel
theorem dX0_tube_13 : decode cX0_tube 13 = .ok (.invokestatic 65, 3) := by decide +kernel
theorem dX0_tube_16 : decode cX0_tube 16 = .ok (.aload_n 0, 1) := by decide +kernel
theorem dX0_tube_17 : decode cX0_tube 17 = .ok (.getfield 68, 3) := by decide +kernel
theorem dX0_tube_20 : decode cX0_tube 20 = .ok (.bipush 12, 2) := by decide +kernel
theorem dX0_tube_22 : decode cX0_tube 22 = .ok (.if_icmp .lt 13, 3) := by decide +kernel
theorem dX0_tube_25 : decode cX0_tube 25 = .ok (.new 54, 3) := by decide +kernel
theorem dX0_tube_28 : decode cX0_tube 28 = .ok (.dup, 1) := by decide +kernel
theorem dX0_tube_29 : decode cX0_tube 29 = .ok (.ldc 71, 2) := by decide +kernel
theorem dX0_tube_31 : decode cX0_tube 31 = .ok (.invokespecial 58, 3) := by decide +kernel
theorem dX0_tube_34 : decode cX0_tube 34 = .ok (.athrow, 1) := by decide +kernel
theorem dX0_tube_35 : decode cX0_tube 35 = .ok (.aload_n 0, 1) := by decide +kernel
theorem dX0_tube_36 : decode cX0_tube 36 = .ok (.getfield 13, 3) := by decide +kernel
theorem dX0_tube_39 : decode cX0_tube 39 = .ok (.aload_n 0, 1) := by decide +kernel
theorem dX0_tube_40 : decode cX0_tube 40 = .ok (.getfield 68, 3) := by decide +kernel
theorem dX0_tube_43 : decode cX0_tube 43 = .ok (.iload_n 1, 1) := by decide +kernel
theorem dX0_tube_44 : decode cX0_tube 44 = .ok (.iastore, 1) := by decide +kernel
theorem dX0_tube_45 : decode cX0_tube 45 = .ok (.aload_n 0, 1) := by decide +kernel
theorem dX0_tube_46 : decode cX0_tube 46 = .ok (.getfield 16, 3) := by decide +kernel
theorem dX0_tube_49 : decode cX0_tube 49 = .ok (.aload_n 0, 1) := by decide +kernel
theorem dX0_tube_50 : decode cX0_tube 50 = .ok (.getfield 68, 3) := by decide +kernel
theorem dX0_tube_53 : decode cX0_tube 53 = .ok (.iload_n 2, 1) := by decide +kernel
theorem dX0_tube_54 : decode cX0_tube 54 = .ok (.iastore, 1) := by decide +kernel
theorem dX0_tube_55 : decode cX0_tube 55 = .ok (.aload_n 0, 1) := by decide +kernel
theorem dX0_tube_56 : decode cX0_tube 56 = .ok (.dup, 1) := by decide +kernel
theorem dX0_tube_57 : decode cX0_tube 57 = .ok (.getfield 68, 3) := by decide +kernel
theorem dX0_tube_60 : decode cX0_tube 60 = .ok (.iconst 1, 1) := by decide +kernel
theorem dX0_tube_61 : decode cX0_tube 61 = .ok (.iadd, 1) := by decide +kernel
theorem dX0_tube_62 : decode cX0_tube 62 = .ok (.putfield 68, 3) := by decide +kernel
theorem dX0_tube_65 : decode cX0_tube 65 = .ok (.aload_n 0, 1) := by decide +kernel
theorem dX0_tube_66 : decode cX0_tube 66 = .ok (.getfield 68, 3) := by decide +kernel
theorem dX0_tube_69 : decode cX0_tube 69 = .ok (.iconst 1, 1) := by decide +kernel
theorem dX0_tube_70 : decode cX0_tube 70 = .ok (.isub, 1) := by decide +kernel
theorem dX0_tube_71 : decode cX0_tube 71 = .ok (.ireturn, 1) := by decide +kernel
theorem dX0_pot_0 : decode cX0_pot 0 = .ok (.aload_n 0, 1) := by decide +kernel
theorem dX0_pot_1 : decode cX0_pot 1 = .ok (.getfield 73, 3) := by decide +kernel
theorem dX0_pot_4 : decode cX0_pot 4 = .ok (.bipush 10, 2) := by decide +kernel
theorem dX0_pot_6 : decode cX0_pot 6 = .ok (.if_icmp .lt 13, 3) := by decide +kernel
theorem dX0_pot_9 : decode cX0_pot 9 = .ok (.new 54, 3) := by decide +kernel
theorem dX0_pot_12 : decode cX0_pot 12 = .ok (.dup, 1) := by decide +kernel
theorem dX0_pot_13 : decode cX0_pot 13 = .ok (.ldc 76, 2) := by decide +kernel
theorem dX0_pot_15 : decode cX0_pot 15 = .ok (.invokespecial 58, 3) := by decide +kernel
theorem dX0_pot_18 : decode cX0_pot 18 = .ok (.athrow, 1) := by decide +kernel
theorem dX0_pot_19 : decode cX0_pot 19 = .ok (.aload_n 0, 1) := by decide +kernel
theorem dX0_pot_20 : decode cX0_pot 20 = .ok (.dup, 1) := by decide +kernel
theorem dX0_pot_21 : decode cX0_pot 21 = .ok (.getfield 73, 3) := by decide +kernel
theorem dX0_pot_24 : decode cX0_pot 24 = .ok (.iconst 1, 1) := by decide +kernel
theorem dX0_pot_25 : decode cX0_pot 25 = .ok (.iadd, 1) := by decide +kernel
theorem dX0_pot_26 : decode cX0_pot 26 = .ok (.putfield 73, 3) := by decide +kernel
theorem dX0_pot_29 : decode cX0_pot 29 = .ok (.aload_n 0, 1) := by decide +kernel
theorem dX0_pot_30 : decode cX0_pot 30 = .ok (.getfield 73, 3) := by decide +kernel
theorem dX0_pot_33 : decode cX0_pot 33 = .ok (.iconst 1, 1) := by decide +kernel
theorem dX0_pot_34 : decode cX0_pot 34 = .ok (.isub, 1) := by decide +kernel
theorem dX0_pot_35 : decode cX0_pot 35 = .ok (.ireturn, 1) := by decide +kernel
theorem dX0_squeeze_0 : decode cX0_squeeze 0 = .ok (.iload_n 1, 1) := by decide +kernel
theorem dX0_squeeze_1 : decode cX0_squeeze 1 = .ok (.aload_n 0, 1) := by decide +kernel
theorem dX0_squeeze_2 : decode cX0_squeeze 2 = .ok (.getfield 73, 3) := by decide +kernel
theorem dX0_squeeze_5 : decode cX0_squeeze 5 = .ok (.invokestatic 61, 3) := by decide +kernel
theorem dX0_squeeze_8 : decode cX0_squeeze 8 = .ok (.iload_n 2, 1) := by decide +kernel
theorem dX0_squeeze_9 : decode cX0_squeeze 9 = .ok (.aload_n 0, 1) := by decide +kernel
theorem dX0_squeeze_10 : decode cX0_squeeze 10 = .ok (.getfield 68, 3) := by decide +kernel
theorem dX0_squeeze_13 : decode cX0_squeeze 13 = .ok (.invokestatic 61, 3) := by decide +kernel
theorem dX0_squeeze_16 : decode cX0_squeeze 16 = .ok (.iload_n 3, 1) := by decide +kernel
theorem dX0_squeeze_17 : decode cX0_squeeze 17 = .ok (.iconst 1, 1) := by decide +kernel
theorem dX0_squeeze_18 : decode cX0_squeeze 18 = .ok (.sipush 1000, 3) := by decide +kernel
theorem dX0_squeeze_21 : decode cX0_squeeze 21 = .ok (.invokestatic 65, 3) := by decide +kernel
theorem dX0_squeeze_24 : decode cX0_squeeze 24 = .ok (.aload_n 0, 1) := by decide +kernel
theorem dX0_squeeze_25 : decode cX0_squeeze 25 = .ok (.getfield 16, 3) := by decide +kernel
theorem dX0_squeeze_28 : decode cX0_squeeze 28 = .ok (.iload_n 2, 1) := by decide +kernel
theorem dX0_squeeze_29 : decode cX0_squeeze 29 = .ok (.iaload, 1) := by decide +kernel
theorem dX0_squeeze_30 : decode cX0_squeeze 30 = .ok (.iload_n 3, 1) := by decide +kernel
theorem dX0_squeeze_31 : decode cX0_squeeze 31 = .ok (.if_icmp .ge 13, 3) := by decide +kernel
theorem dX0_squeeze_34 : decode cX0_squeeze 34 = .ok (.new 54, 3) := by decide +kernel
theorem dX0_squeeze_37 : decode cX0_squeeze 37 = .ok (.dup, 1) := by decide +kernel
theorem dX0_squeeze_38 : decode cX0_squeeze 38 = .ok (.ldc 78, 2) := by decide +kernel
theorem dX0_squeeze_40 : decode cX0_squeeze 40 = .ok (.invokespecial 58, 3) := by decide +kernel
theorem dX0_squeeze_43 : decode cX0_squeeze 43 = .ok (.athrow, 1) := by decide +kernel
theorem dX0_squeeze_44 : decode cX0_squeeze 44 = .ok (.aload_n 0, 1) := by decide +kernel
theorem dX0_squeeze_45 : decode cX0_squeeze 45 = .ok (.getfield 16, 3) := by decide +kernel
theorem dX0_squeeze_48 : decode cX0_squeeze 48 = .ok (.iload_n 2, 1) := by decide +kernel
theorem dX0_squeeze_49 : decode cX0_squeeze 49 = .ok (.dup2, 1) := by decide +kernel
theorem dX0_squeeze_50 : decode cX0_squeeze 50 = .ok (.iaload, 1) := by decide +kernel
theorem dX0_squeeze_51 : decode cX0_squeeze 51 = .ok (.iload_n 3, 1) := by decide +kernel
theorem dX0_squeeze_52 : decode cX0_squeeze 52 = .ok (.isub, 1) := by decide +kernel
theorem dX0_squeeze_53 : decode cX0_squeeze 53 = .ok (.iastore, 1) := by decide +kernel
theorem dX0_squeeze_54 : decode cX0_squeeze 54 = .ok (.aload_n 0, 1) := by decide +kernel
theorem dX0_squeeze_55 : decode cX0_squeeze 55 = .ok (.getfield 19, 3) := by decide +kernel
theorem dX0_squeeze_58 : decode cX0_squeeze 58 = .ok (.iload_n 1, 1) := by decide +kernel
theorem dX0_squeeze_59 : decode cX0_squeeze 59 = .ok (.invokestatic 80, 3) := by decide +kernel
theorem dX0_squeeze_62 : decode cX0_squeeze 62 = .ok (.iload_n 2, 1) := by decide +kernel
theorem dX0_squeeze_63 : decode cX0_squeeze 63 = .ok (.invokestatic 84, 3) := by decide +kernel
theorem dX0_squeeze_66 : decode cX0_squeeze 66 = .ok (.dup2, 1) := by decide +kernel
theorem dX0_squeeze_67 : decode cX0_squeeze 67 = .ok (.iaload, 1) := by decide +kernel
theorem dX0_squeeze_68 : decode cX0_squeeze 68 = .ok (.iload_n 3, 1) := by decide +kernel
theorem dX0_squeeze_69 : decode cX0_squeeze 69 = .ok (.iadd, 1) := by decide +kernel
theorem dX0_squeeze_70 : decode cX0_squeeze 70 = .ok (.iastore, 1) := by decide +kernel
theorem dX0_squeeze_71 : decode cX0_squeeze 71 = .ok (.aload_n 0, 1) := by decide +kernel
theorem dX0_squeeze_72 : decode cX0_squeeze 72 = .ok (.getfield 16, 3) := by decide +kernel
theorem dX0_squeeze_75 : decode cX0_squeeze 75 = .ok (.iload_n 2, 1) := by decide +kernel
theorem dX0_squeeze_76 : decode cX0_squeeze 76 = .ok (.iaload, 1) := by decide +kernel
theorem dX0_squeeze_77 : decode cX0_squeeze 77 = .ok (.ireturn, 1) := by decide +kernel
theorem dX0_pour_0 : decode cX0_pour 0 = .ok (.iload_n 1, 1) := by decide +kernel
theorem dX0_pour_1 : decode cX0_pour 1 = .ok (.aload_n 0, 1) := by decide +kernel
theorem dX0_pour_2 : decode cX0_pour 2 = .ok (.getfield 73, 3) := by decide +kernel
theorem dX0_pour_5 : decode cX0_pour 5 = .ok (.invokestatic 61, 3) := by decide +kernel
theorem dX0_pour_8 : decode cX0_pour 8 = .ok (.iload_n 2, 1) := by decide +kernel
theorem dX0_pour_9 : decode cX0_pour 9 = .ok (.aload_n 0, 1) := by decide +kernel
theorem dX0_pour_10 : decode cX0_pour 10 = .ok (.getfield 73, 3) := by decide +kernel
theorem dX0_pour_13 : decode cX0_pour 13 = .ok (.invokestatic 61, 3) := by decide +kernel
theorem dX0_pour_16 : decode cX0_pour 16 = .ok (.iload_n 1, 1) := by decide +kernel
theorem dX0_pour_17 : decode cX0_pour 17 = .ok (.iload_n 2, 1) := by decide +kernel
theorem dX0_pour_18 : decode cX0_pour 18 = .ok (.if_icmp .ne 13, 3) := by decide +kernel
theorem dX0_pour_21 : decode cX0_pour 21 = .ok (.new 88, 3) := by decide +kernel
theorem dX0_pour_24 : decode cX0_pour 24 = .ok (.dup, 1) := by decide +kernel
theorem dX0_pour_25 : decode cX0_pour 25 = .ok (.ldc 90, 2) := by decide +kernel
theorem dX0_pour_27 : decode cX0_pour 27 = .ok (.invokespecial 92, 3) := by decide +kernel
theorem dX0_pour_30 : decode cX0_pour 30 = .ok (.athrow, 1) := by decide +kernel
theorem dX0_pour_31 : decode cX0_pour 31 = .ok (.iload_n 3, 1) := by decide +kernel
theorem dX0_pour_32 : decode cX0_pour 32 = .ok (.iconst 1, 1) := by decide +kernel
theorem dX0_pour_33 : decode cX0_pour 33 = .ok (.sipush 12000, 3) := by decide +kernel
theorem dX0_pour_36 : decode cX0_pour 36 = .ok (.invokestatic 65, 3) := by decide +kernel
theorem dX0_pour_39 : decode cX0_pour 39 = .ok (.aload_n 0, 1) := by decide +kernel
theorem dX0_pour_40 : decode cX0_pour 40 = .ok (.iload_n 1, 1) := by decide +kernel
theorem dX0_pour_41 : decode cX0_pour 41 = .ok (.invokestatic 80, 3) := by decide +kernel
theorem dX0_pour_44 : decode cX0_pour 44 = .ok (.iload_n 2, 1) := by decide +kernel
theorem dX0_pour_45 : decode cX0_pour 45 = .ok (.invokestatic 80, 3) := by decide +kernel
theorem dX0_pour_48 : decode cX0_pour 48 = .ok (.iload_n 3, 1) := by decide +kernel
theorem dX0_pour_49 : decode cX0_pour 49 = .ok (.invokevirtual 93, 3) := by decide +kernel
theorem dX0_pour_52 : decode cX0_pour 52 = .ok (.ifCond .ne 13, 3) := by decide +kernel
theorem dX0_pour_55 : decode cX0_pour 55 = .ok (.new 54, 3) := by decide +kernel
theorem dX0_pour_58 : decode cX0_pour 58 = .ok (.dup, 1) := by decide +kernel
theorem dX0_pour_59 : decode cX0_pour 59 = .ok (.ldc 97, 2) := by decide +kernel
theorem dX0_pour_61 : decode cX0_pour 61 = .ok (.invokespecial 58, 3) := by decide +kernel
theorem dX0_pour_64 : decode cX0_pour 64 = .ok (.athrow, 1) := by decide +kernel
theorem dX0_pour_65 : decode cX0_pour 65 = .ok (.aload_n 0, 1) := by decide +kernel
theorem dX0_pour_66 : decode cX0_pour 66 = .ok (.iload_n 2, 1) := by decide +kernel
theorem dX0_pour_67 : decode cX0_pour 67 = .ok (.invokestatic 80, 3) := by decide +kernel
theorem dX0_pour_70 : decode cX0_pour 70 = .ok (.invokevirtual 99, 3) := by decide +kernel
theorem dX0_pour_73 : decode cX0_pour 73 = .ok (.ireturn, 1) := by decide +kernel
theorem dX0_scrape_0 : decode cX0_scrape 0 = .ok (.iload_n 1, 1) := by decide +kernel
theorem dX0_scrape_1 : decode cX0_scrape 1 = .ok (.aload_n 0, 1) := by decide +kernel
theorem dX0_scrape_2 : decode cX0_scrape 2 = .ok (.getfield 73, 3) := by decide +kernel
theorem dX0_scrape_5 : decode cX0_scrape 5 = .ok (.invokestatic 61, 3) := by decide +kernel
theorem dX0_scrape_8 : decode cX0_scrape 8 = .ok (.aload_n 0, 1) := by decide +kernel
theorem dX0_scrape_9 : decode cX0_scrape 9 = .ok (.iload_n 1, 1) := by decide +kernel
theorem dX0_scrape_10 : decode cX0_scrape 10 = .ok (.invokestatic 80, 3) := by decide +kernel
theorem dX0_scrape_13 : decode cX0_scrape 13 = .ok (.invokevirtual 102, 3) := by decide +kernel
theorem dX0_scrape_16 : decode cX0_scrape 16 = .ok (.ireturn, 1) := by decide +kernel
theorem dX0_picture_0 : decode cX0_picture 0 = .ok (.aload_n 0, 1) := by decide +kernel
theorem dX0_picture_1 : decode cX0_picture 1 = .ok (.getfield 105, 3) := by decide +kernel
theorem dX0_picture_4 : decode cX0_picture 4 = .ok (.bipush 8, 2) := by decide +kernel
theorem dX0_picture_6 : decode cX0_picture 6 = .ok (.if_icmp .lt 13, 3) := by decide +kernel
theorem dX0_picture_9 : decode cX0_picture 9 = .ok (.new 54, 3) := by decide +kernel
theorem dX0_picture_12 : decode cX0_picture 12 = .ok (.dup, 1) := by decide +kernel
theorem dX0_picture_13 : decode cX0_picture 13 = .ok (.ldc 108, 2) := by decide +kernel
theorem dX0_picture_15 : decode cX0_picture 15 = .ok (.invokespecial 58, 3) := by decide +kernel
theorem dX0_picture_18 : decode cX0_picture 18 = .ok (.athrow, 1) := by decide +kernel
theorem dX0_picture_19 : decode cX0_picture 19 = .ok (.aload_n 0, 1) := by decide +kernel
theorem dX0_picture_20 : decode cX0_picture 20 = .ok (.dup, 1) := by decide +kernel
theorem dX0_picture_21 : decode cX0_picture 21 = .ok (.getfield 105, 3) := by decide +kernel
theorem dX0_picture_24 : decode cX0_picture 24 = .ok (.iconst 1, 1) := by decide +kernel
theorem dX0_picture_25 : decode cX0_picture 25 = .ok (.iadd, 1) := by decide +kernel
theorem dX0_picture_26 : decode cX0_picture 26 = .ok (.putfield 105, 3) := by decide +kernel
theorem dX0_picture_29 : decode cX0_picture 29 = .ok (.aload_n 0, 1) := by decide +kernel
theorem dX0_picture_30 : decode cX0_picture 30 = .ok (.getfield 105, 3) := by decide +kernel
theorem dX0_picture_33 : decode cX0_picture 33 = .ok (.iconst 1, 1) := by decide +kernel
theorem dX0_picture_34 : decode cX0_picture 34 = .ok (.isub, 1) := by decide +kernel
theorem dX0_picture_35 : decode cX0_picture 35 = .ok (.ireturn, 1) := by decide +kernel
theorem dX0_paint_0 : decode cX0_paint 0 = .ok (.iload_n 1, 1) := by decide +kernel
theorem dX0_paint_1 : decode cX0_paint 1 = .ok (.aload_n 0, 1) := by decide +kernel
theorem dX0_paint_2 : decode cX0_paint 2 = .ok (.getfield 105, 3) := by decide +kernel
theorem dX0_paint_5 : decode cX0_paint 5 = .ok (.invokestatic 61, 3) := by decide +kernel
theorem dX0_paint_8 : decode cX0_paint 8 = .ok (.iload_n 2, 1) := by decide +kernel
theorem dX0_paint_9 : decode cX0_paint 9 = .ok (.aload_n 0, 1) := by decide +kernel
theorem dX0_paint_10 : decode cX0_paint 10 = .ok (.getfield 73, 3) := by decide +kernel
theorem dX0_paint_13 : decode cX0_paint 13 = .ok (.invokestatic 61, 3) := by decide +kernel
theorem dX0_paint_16 : decode cX0_paint 16 = .ok (.iload_n 3, 1) := by decide +kernel
theorem dX0_paint_17 : decode cX0_paint 17 = .ok (.iconst 1, 1) := by decide +kernel
theorem dX0_paint_18 : decode cX0_paint 18 = .ok (.sipush 1000, 3) := by decide +kernel
theorem dX0_paint_21 : decode cX0_paint 21 = .ok (.invokestatic 65, 3) := by decide +kernel
theorem dX0_paint_24 : decode cX0_paint 24 = .ok (.aload_n 0, 1) := by decide +kernel
theorem dX0_paint_25 : decode cX0_paint 25 = .ok (.iload_n 1, 1) := by decide +kernel
theorem dX0_paint_26 : decode cX0_paint 26 = .ok (.invokevirtual 110, 3) := by decide +kernel
theorem dX0_paint_29 : decode cX0_paint 29 = .ok (.aload_n 0, 1) := by decide +kernel
theorem dX0_paint_30 : decode cX0_paint 30 = .ok (.getfield 22, 3) := by decide +kernel
theorem dX0_paint_33 : decode cX0_paint 33 = .ok (.iload_n 1, 1) := by decide +kernel
theorem dX0_paint_34 : decode cX0_paint 34 = .ok (.iaload, 1) := by decide +kernel
theorem dX0_paint_35 : decode cX0_paint 35 = .ok (.bipush 12, 2) := by decide +kernel
theorem dX0_paint_37 : decode cX0_paint 37 = .ok (.if_icmp .lt 13, 3) := by decide +kernel
theorem dX0_paint_40 : decode cX0_paint 40 = .ok (.new 54, 3) := by decide +kernel
theorem dX0_paint_43 : decode cX0_paint 43 = .ok (.dup, 1) := by decide +kernel
theorem dX0_paint_44 : decode cX0_paint 44 = .ok (.ldc 114, 2) := by decide +kernel
theorem dX0_paint_46 : decode cX0_paint 46 = .ok (.invokespecial 58, 3) := by decide +kernel
theorem dX0_paint_49 : decode cX0_paint 49 = .ok (.athrow, 1) := by decide +kernel
theorem dX0_paint_50 : decode cX0_paint 50 = .ok (.aload_n 0, 1) := by decide +kernel
theorem dX0_paint_51 : decode cX0_paint 51 = .ok (.iload_n 2, 1) := by decide +kernel
theorem dX0_paint_52 : decode cX0_paint 52 = .ok (.invokestatic 80, 3) := by decide +kernel
theorem dX0_paint_55 : decode cX0_paint 55 = .ok (.iload_n 1, 1) := by decide +kernel
theorem dX0_paint_56 : decode cX0_paint 56 = .ok (.aload_n 0, 1) := by decide +kernel
theorem dX0_paint_57 : decode cX0_paint 57 = .ok (.getfield 22, 3) := by decide +kernel
theorem dX0_paint_60 : decode cX0_paint 60 = .ok (.iload_n 1, 1) := by decide +kernel
theorem dX0_paint_61 : decode cX0_paint 61 = .ok (.iaload, 1) := by decide +kernel
theorem dX0_paint_62 : decode cX0_paint 62 = .ok (.invokestatic 116, 3) := by decide +kernel
theorem dX0_paint_65 : decode cX0_paint 65 = .ok (.iload_n 3, 1) := by decide +kernel
theorem dX0_paint_66 : decode cX0_paint 66 = .ok (.invokevirtual 93, 3) := by decide +kernel
theorem dX0_paint_69 : decode cX0_paint 69 = .ok (.ifCond .ne 13, 3) := by decide +kernel
theorem dX0_paint_72 : decode cX0_paint 72 = .ok (.new 54, 3) := by decide +kernel
theorem dX0_paint_75 : decode cX0_paint 75 = .ok (.dup, 1) := by decide +kernel
theorem dX0_paint_76 : decode cX0_paint 76 = .ok (.ldc 97, 2) := by decide +kernel
theorem dX0_paint_78 : decode cX0_paint 78 = .ok (.invokespecial 58, 3) := by decide +kernel
theorem dX0_paint_81 : decode cX0_paint 81 = .ok (.athrow, 1) := by decide +kernel
theorem dX0_paint_82 : decode cX0_paint 82 = .ok (.aload_n 0, 1) := by decide +kernel
theorem dX0_paint_83 : decode cX0_paint 83 = .ok (.getfield 22, 3) := by decide +kernel
theorem dX0_paint_86 : decode cX0_paint 86 = .ok (.iload_n 1, 1) := by decide +kernel
theorem dX0_paint_87 : decode cX0_paint 87 = .ok (.dup2, 1) := by decide +kernel
theorem dX0_paint_88 : decode cX0_paint 88 = .ok (.iaload, 1) := by decide +kernel
theorem dX0_paint_89 : decode cX0_paint 89 = .ok (.iconst 1, 1) := by decide +kernel
theorem dX0_paint_90 : decode cX0_paint 90 = .ok (.iadd, 1) := by decide +kernel
theorem dX0_paint_91 : decode cX0_paint 91 = .ok (.iastore, 1) := by decide +kernel
theorem dX0_paint_92 : decode cX0_paint 92 = .ok (.aload_n 0, 1) := by decide +kernel
theorem dX0_paint_93 : decode cX0_paint 93 = .ok (.getfield 22, 3) := by decide +kernel
theorem dX0_paint_96 : decode cX0_paint 96 = .ok (.iload_n 1, 1) := by decide +kernel
theorem dX0_paint_97 : decode cX0_paint 97 = .ok (.iaload, 1) := by decide +kernel
theorem dX0_paint_98 : decode cX0_paint 98 = .ok (.ireturn, 1) := by decide +kernel
theorem dX0_clean_0 : decode cX0_clean 0 = .ok (.iload_n 1, 1) := by decide +kernel
theorem dX0_clean_1 : decode cX0_clean 1 = .ok (.aload_n 0, 1) := by decide +kernel
theorem dX0_clean_2 : decode cX0_clean 2 = .ok (.getfield 105, 3) := by decide +kernel
theorem dX0_clean_5 : decode cX0_clean 5 = .ok (.invokestatic 61, 3) := by decide +kernel
theorem dX0_clean_8 : decode cX0_clean 8 = .ok (.iload_n 2, 1) := by decide +kernel
theorem dX0_clean_9 : decode cX0_clean 9 = .ok (.iconst 1, 1) := by decide +kernel
theorem dX0_clean_10 : decode cX0_clean 10 = .ok (.bipush 12, 2) := by decide +kernel
theorem dX0_clean_12 : decode cX0_clean 12 = .ok (.invokestatic 65, 3) := by decide +kernel
theorem dX0_clean_15 : decode cX0_clean 15 = .ok (.aload_n 0, 1) := by decide +kernel
theorem dX0_clean_16 : decode cX0_clean 16 = .ok (.iload_n 1, 1) := by decide +kernel
theorem dX0_clean_17 : decode cX0_clean 17 = .ok (.invokevirtual 110, 3) := by decide +kernel
theorem dX0_clean_20 : decode cX0_clean 20 = .ok (.aload_n 0, 1) := by decide +kernel
theorem dX0_clean_21 : decode cX0_clean 21 = .ok (.getfield 22, 3) := by decide +kernel
theorem dX0_clean_24 : decode cX0_clean 24 = .ok (.iload_n 1, 1) := by decide +kernel
theorem dX0_clean_25 : decode cX0_clean 25 = .ok (.iaload, 1) := by decide +kernel
theorem dX0_clean_26 : decode cX0_clean 26 = .ok (.iload_n 2, 1) := by decide +kernel
theorem dX0_clean_27 : decode cX0_clean 27 = .ok (.if_icmp .ge 13, 3) := by decide +kernel
theorem dX0_clean_30 : decode cX0_clean 30 = .ok (.new 54, 3) := by decide +kernel
theorem dX0_clean_33 : decode cX0_clean 33 = .ok (.dup, 1) := by decide +kernel
theorem dX0_clean_34 : decode cX0_clean 34 = .ok (.ldc 119, 2) := by decide +kernel
theorem dX0_clean_36 : decode cX0_clean 36 = .ok (.invokespecial 58, 3) := by decide +kernel
theorem dX0_clean_39 : decode cX0_clean 39 = .ok (.athrow, 1) := by decide +kernel
theorem dX0_clean_40 : decode cX0_clean 40 = .ok (.iconst 0, 1) := by decide +kernel
theorem dX0_clean_41 : decode cX0_clean 41 = .ok (.istore_n 3, 1) := by decide +kernel
theorem dX0_clean_42 : decode cX0_clean 42 = .ok (.iconst 0, 1) := by decide +kernel
theorem dX0_clean_43 : decode cX0_clean 43 = .ok (.istore 4, 2) := by decide +kernel
theorem dX0_clean_45 : decode cX0_clean 45 = .ok (.iload 4, 2) := by decide +kernel
theorem dX0_clean_47 : decode cX0_clean 47 = .ok (.iload_n 2, 1) := by decide +kernel
theorem dX0_clean_48 : decode cX0_clean 48 = .ok (.if_icmp .ge 36, 3) := by decide +kernel
theorem dX0_clean_51 : decode cX0_clean 51 = .ok (.aload_n 0, 1) := by decide +kernel
theorem dX0_clean_52 : decode cX0_clean 52 = .ok (.getfield 22, 3) := by decide +kernel
theorem dX0_clean_55 : decode cX0_clean 55 = .ok (.iload_n 1, 1) := by decide +kernel
theorem dX0_clean_56 : decode cX0_clean 56 = .ok (.dup2, 1) := by decide +kernel
theorem dX0_clean_57 : decode cX0_clean 57 = .ok (.iaload, 1) := by decide +kernel
theorem dX0_clean_58 : decode cX0_clean 58 = .ok (.iconst 1, 1) := by decide +kernel
theorem dX0_clean_59 : decode cX0_clean 59 = .ok (.isub, 1) := by decide +kernel
theorem dX0_clean_60 : decode cX0_clean 60 = .ok (.iastore, 1) := by decide +kernel
theorem dX0_clean_61 : decode cX0_clean 61 = .ok (.iload_n 3, 1) := by decide +kernel
theorem dX0_clean_62 : decode cX0_clean 62 = .ok (.aload_n 0, 1) := by decide +kernel
theorem dX0_clean_63 : decode cX0_clean 63 = .ok (.iload_n 1, 1) := by decide +kernel
theorem dX0_clean_64 : decode cX0_clean 64 = .ok (.aload_n 0, 1) := by decide +kernel
theorem dX0_clean_65 : decode cX0_clean 65 = .ok (.getfield 22, 3) := by decide +kernel
theorem dX0_clean_68 : decode cX0_clean 68 = .ok (.iload_n 1, 1) := by decide +kernel
theorem dX0_clean_69 : decode cX0_clean 69 = .ok (.iaload, 1) := by decide +kernel
theorem dX0_clean_70 : decode cX0_clean 70 = .ok (.invokestatic 116, 3) := by decide +kernel
theorem dX0_clean_73 : decode cX0_clean 73 = .ok (.invokevirtual 102, 3) := by decide +kernel
theorem dX0_clean_76 : decode cX0_clean 76 = .ok (.iadd, 1) := by decide +kernel
theorem dX0_clean_77 : decode cX0_clean 77 = .ok (.istore_n 3, 1) := by decide +kernel
theorem dX0_clean_78 : decode cX0_clean 78 = .ok (.iinc 4 1, 3) := by decide +kernel
theorem dX0_clean_81 : decode cX0_clean 81 = .ok (.goto (-36), 3) := by decide +kernel
theorem dX0_clean_84 : decode cX0_clean 84 = .ok (.iload_n 3, 1) := by decide +kernel
theorem dX0_clean_85 : decode cX0_clean 85 = .ok (.ireturn, 1) := by decide +kernel
theorem dX0_damp_0 : decode cX0_damp 0 = .ok (.iload_n 1, 1) := by decide +kernel
theorem dX0_damp_1 : decode cX0_damp 1 = .ok (.iconst 4, 1) := by decide +kernel
theorem dX0_damp_2 : decode cX0_damp 2 = .ok (.invokestatic 61, 3) := by decide +kernel
theorem dX0_damp_5 : decode cX0_damp 5 = .ok (.iload_n 2, 1) := by decide +kernel
theorem dX0_damp_6 : decode cX0_damp 6 = .ok (.iconst 0, 1) := by decide +kernel
theorem dX0_damp_7 : decode cX0_damp 7 = .ok (.bipush 100, 2) := by decide +kernel
theorem dX0_damp_9 : decode cX0_damp 9 = .ok (.invokestatic 65, 3) := by decide +kernel
theorem dX0_damp_12 : decode cX0_damp 12 = .ok (.aload_n 0, 1) := by decide +kernel
theorem dX0_damp_13 : decode cX0_damp 13 = .ok (.getfield 40, 3) := by decide +kernel
theorem dX0_damp_16 : decode cX0_damp 16 = .ok (.iload_n 1, 1) := by decide +kernel
theorem dX0_damp_17 : decode cX0_damp 17 = .ok (.iaload, 1) := by decide +kernel
theorem dX0_damp_18 : decode cX0_damp 18 = .ok (.istore_n 3, 1) := by decide +kernel
theorem dX0_damp_19 : decode cX0_damp 19 = .ok (.aload_n 0, 1) := by decide +kernel
theorem dX0_damp_20 : decode cX0_damp 20 = .ok (.getfield 40, 3) := by decide +kernel
theorem dX0_damp_23 : decode cX0_damp 23 = .ok (.iload_n 1, 1) := by decide +kernel
theorem dX0_damp_24 : decode cX0_damp 24 = .ok (.iload_n 2, 1) := by decide +kernel
theorem dX0_damp_25 : decode cX0_damp 25 = .ok (.iastore, 1) := by decide +kernel
theorem dX0_damp_26 : decode cX0_damp 26 = .ok (.iload_n 3, 1) := by decide +kernel
theorem dX0_damp_27 : decode cX0_damp 27 = .ok (.ireturn, 1) := by decide +kernel
theorem dX0_lend_0 : decode cX0_lend 0 = .ok (.iload_n 1, 1) := by decide +kernel
theorem dX0_lend_1 : decode cX0_lend 1 = .ok (.aload_n 0, 1) := by decide +kernel
theorem dX0_lend_2 : decode cX0_lend 2 = .ok (.getfield 105, 3) := by decide +kernel
theorem dX0_lend_5 : decode cX0_lend 5 = .ok (.invokestatic 61, 3) := by decide +kernel
theorem dX0_lend_8 : decode cX0_lend 8 = .ok (.iload_n 2, 1) := by decide +kernel
theorem dX0_lend_9 : decode cX0_lend 9 = .ok (.iconst 4, 1) := by decide +kernel
theorem dX0_lend_10 : decode cX0_lend 10 = .ok (.invokestatic 61, 3) := by decide +kernel
theorem dX0_lend_13 : decode cX0_lend 13 = .ok (.iload_n 3, 1) := by decide +kernel
theorem dX0_lend_14 : decode cX0_lend 14 = .ok (.iconst 1, 1) := by decide +kernel
theorem dX0_lend_15 : decode cX0_lend 15 = .ok (.bipush 100, 2) := by decide +kernel
theorem dX0_lend_17 : decode cX0_lend 17 = .ok (.invokestatic 65, 3) := by decide +kernel
theorem dX0_lend_20 : decode cX0_lend 20 = .ok (.aload_n 0, 1) := by decide +kernel
theorem dX0_lend_21 : decode cX0_lend 21 = .ok (.iload_n 1, 1) := by decide +kernel
theorem dX0_lend_22 : decode cX0_lend 22 = .ok (.invokevirtual 110, 3) := by decide +kernel
theorem dX0_lend_25 : decode cX0_lend 25 = .ok (.aload_n 0, 1) := by decide +kernel
theorem dX0_lend_26 : decode cX0_lend 26 = .ok (.getfield 25, 3) := by decide +kernel
theorem dX0_lend_29 : decode cX0_lend 29 = .ok (.iload_n 1, 1) := by decide +kernel
theorem dX0_lend_30 : decode cX0_lend 30 = .ok (.iaload, 1) := by decide +kernel
theorem dX0_lend_31 : decode cX0_lend 31 = .ok (.bipush 10, 2) := by decide +kernel
theorem dX0_lend_33 : decode cX0_lend 33 = .ok (.if_icmp .lt 13, 3) := by decide +kernel
theorem dX0_lend_36 : decode cX0_lend 36 = .ok (.new 54, 3) := by decide +kernel
theorem dX0_lend_39 : decode cX0_lend 39 = .ok (.dup, 1) := by decide +kernel
theorem dX0_lend_40 : decode cX0_lend 40 = .ok (.ldc 121, 2) := by decide +kernel
theorem dX0_lend_42 : decode cX0_lend 42 = .ok (.invokespecial 58, 3) := by decide +kernel
theorem dX0_lend_45 : decode cX0_lend 45 = .ok (.athrow, 1) := by decide +kernel
theorem dX0_lend_46 : decode cX0_lend 46 = .ok (.aload_n 0, 1) := by decide +kernel
theorem dX0_lend_47 : decode cX0_lend 47 = .ok (.getfield 37, 3) := by decide +kernel
theorem dX0_lend_50 : decode cX0_lend 50 = .ok (.iload_n 1, 1) := by decide +kernel
theorem dX0_lend_51 : decode cX0_lend 51 = .ok (.aload_n 0, 1) := by decide +kernel
theorem dX0_lend_52 : decode cX0_lend 52 = .ok (.iload_n 1, 1) := by decide +kernel
theorem dX0_lend_53 : decode cX0_lend 53 = .ok (.invokevirtual 123, 3) := by decide +kernel
theorem dX0_lend_56 : decode cX0_lend 56 = .ok (.bipush 100, 2) := by decide +kernel
theorem dX0_lend_58 : decode cX0_lend 58 = .ok (.idiv, 1) := by decide +kernel
theorem dX0_lend_59 : decode cX0_lend 59 = .ok (.iconst 1, 1) := by decide +kernel
theorem dX0_lend_60 : decode cX0_lend 60 = .ok (.iadd, 1) := by decide +kernel
theorem dX0_lend_61 : decode cX0_lend 61 = .ok (.iastore, 1) := by decide +kernel
theorem dX0_lend_62 : decode cX0_lend 62 = .ok (.aload_n 0, 1) := by decide +kernel
theorem dX0_lend_63 : decode cX0_lend 63 = .ok (.getfield 34, 3) := by decide +kernel
theorem dX0_lend_66 : decode cX0_lend 66 = .ok (.iload_n 1, 1) := by decide +kernel
theorem dX0_lend_67 : decode cX0_lend 67 = .ok (.iload_n 2, 1) := by decide +kernel
theorem dX0_lend_68 : decode cX0_lend 68 = .ok (.iastore, 1) := by decide +kernel
theorem dX0_lend_69 : decode cX0_lend 69 = .ok (.aload_n 0, 1) := by decide +kernel
theorem dX0_lend_70 : decode cX0_lend 70 = .ok (.getfield 31, 3) := by decide +kernel
theorem dX0_lend_73 : decode cX0_lend 73 = .ok (.iload_n 1, 1) := by decide +kernel
theorem dX0_lend_74 : decode cX0_lend 74 = .ok (.iload_n 3, 1) := by decide +kernel
theorem dX0_lend_75 : decode cX0_lend 75 = .ok (.iastore, 1) := by decide +kernel
theorem dX0_lend_76 : decode cX0_lend 76 = .ok (.aload_n 0, 1) := by decide +kernel
theorem dX0_lend_77 : decode cX0_lend 77 = .ok (.getfield 37, 3) := by decide +kernel
theorem dX0_lend_80 : decode cX0_lend 80 = .ok (.iload_n 1, 1) := by decide +kernel
theorem dX0_lend_81 : decode cX0_lend 81 = .ok (.iaload, 1) := by decide +kernel
theorem dX0_lend_82 : decode cX0_lend 82 = .ok (.ireturn, 1) := by decide +kernel
theorem dX0_sell_0 : decode cX0_sell 0 = .ok (.iload_n 1, 1) := by decide +kernel
theorem dX0_sell_1 : decode cX0_sell 1 = .ok (.aload_n 0, 1) := by decide +kernel
theorem dX0_sell_2 : decode cX0_sell 2 = .ok (.getfield 105, 3) := by decide +kernel
theorem dX0_sell_5 : decode cX0_sell 5 = .ok (.invokestatic 61, 3) := by decide +kernel
theorem dX0_sell_8 : decode cX0_sell 8 = .ok (.iload_n 2, 1) := by decide +kernel
theorem dX0_sell_9 : decode cX0_sell 9 = .ok (.iconst 1, 1) := by decide +kernel
theorem dX0_sell_10 : decode cX0_sell 10 = .ok (.ldc 126, 2) := by decide +kernel
theorem dX0_sell_12 : decode cX0_sell 12 = .ok (.invokestatic 65, 3) := by decide +kernel
theorem dX0_sell_15 : decode cX0_sell 15 = .ok (.aload_n 0, 1) := by decide +kernel
theorem dX0_sell_16 : decode cX0_sell 16 = .ok (.iload_n 1, 1) := by decide +kernel
theorem dX0_sell_17 : decode cX0_sell 17 = .ok (.invokevirtual 110, 3) := by decide +kernel
theorem dX0_sell_20 : decode cX0_sell 20 = .ok (.aload_n 0, 1) := by decide +kernel
theorem dX0_sell_21 : decode cX0_sell 21 = .ok (.getfield 22, 3) := by decide +kernel
theorem dX0_sell_24 : decode cX0_sell 24 = .ok (.iload_n 1, 1) := by decide +kernel
theorem dX0_sell_25 : decode cX0_sell 25 = .ok (.iaload, 1) := by decide +kernel
theorem dX0_sell_26 : decode cX0_sell 26 = .ok (.ifCond .ne 13, 3) := by decide +kernel
theorem dX0_sell_29 : decode cX0_sell 29 = .ok (.new 54, 3) := by decide +kernel
theorem dX0_sell_32 : decode cX0_sell 32 = .ok (.dup, 1) := by decide +kernel
theorem dX0_sell_33 : decode cX0_sell 33 = .ok (.ldc 127, 2) := by decide +kernel
theorem dX0_sell_35 : decode cX0_sell 35 = .ok (.invokespecial 58, 3) := by decide +kernel
theorem dX0_sell_38 : decode cX0_sell 38 = .ok (.athrow, 1) := by decide +kernel
theorem dX0_sell_39 : decode cX0_sell 39 = .ok (.aload_n 0, 1) := by decide +kernel
theorem dX0_sell_40 : decode cX0_sell 40 = .ok (.getfield 28, 3) := by decide +kernel
theorem dX0_sell_43 : decode cX0_sell 43 = .ok (.iload_n 1, 1) := by decide +kernel
theorem dX0_sell_44 : decode cX0_sell 44 = .ok (.iload_n 2, 1) := by decide +kernel
theorem dX0_sell_45 : decode cX0_sell 45 = .ok (.iastore, 1) := by decide +kernel
theorem dX0_sell_46 : decode cX0_sell 46 = .ok (.aload_n 0, 1) := by decide +kernel
theorem dX0_sell_47 : decode cX0_sell 47 = .ok (.iload_n 1, 1) := by decide +kernel
theorem dX0_sell_48 : decode cX0_sell 48 = .ok (.invokevirtual 123, 3) := by decide +kernel
theorem dX0_sell_51 : decode cX0_sell 51 = .ok (.ireturn, 1) := by decide +kernel
theorem dX0_pass_0 : decode cX0_pass 0 = .ok (.iload_n 1, 1) := by decide +kernel
theorem dX0_pass_1 : decode cX0_pass 1 = .ok (.iconst 1, 1) := by decide +kernel
theorem dX0_pass_2 : decode cX0_pass 2 = .ok (.bipush 100, 2) := by decide +kernel
theorem dX0_pass_4 : decode cX0_pass 4 = .ok (.invokestatic 65, 3) := by decide +kernel
theorem dX0_pass_7 : decode cX0_pass 7 = .ok (.aload_n 0, 1) := by decide +kernel
theorem dX0_pass_8 : decode cX0_pass 8 = .ok (.getfield 129, 3) := by decide +kernel
theorem dX0_pass_11 : decode cX0_pass 11 = .ok (.iload_n 1, 1) := by decide +kernel
theorem dX0_pass_12 : decode cX0_pass 12 = .ok (.iadd, 1) := by decide +kernel
theorem dX0_pass_13 : decode cX0_pass 13 = .ok (.sipush 5000, 3) := by decide +kernel
theorem dX0_pass_16 : decode cX0_pass 16 = .ok (.if_icmp .le 13, 3) := by decide +kernel
theorem dX0_pass_19 : decode cX0_pass 19 = .ok (.new 54, 3) := by decide +kernel
theorem dX0_pass_22 : decode cX0_pass 22 = .ok (.dup, 1) := by decide +kernel
theorem dX0_pass_23 : decode cX0_pass 23 = .ok (.ldc 132, 2) := by decide +kernel
theorem dX0_pass_25 : decode cX0_pass 25 = .ok (.invokespecial 58, 3) := by decide +kernel
theorem dX0_pass_28 : decode cX0_pass 28 = .ok (.athrow, 1) := by decide +kernel
theorem dX0_pass_29 : decode cX0_pass 29 = .ok (.iconst 0, 1) := by decide +kernel
theorem dX0_pass_30 : decode cX0_pass 30 = .ok (.istore_n 2, 1) := by decide +kernel
theorem dX0_pass_31 : decode cX0_pass 31 = .ok (.iload_n 2, 1) := by decide +kernel
theorem dX0_pass_32 : decode cX0_pass 32 = .ok (.aload_n 0, 1) := by decide +kernel
theorem dX0_pass_33 : decode cX0_pass 33 = .ok (.getfield 105, 3) := by decide +kernel
theorem dX0_pass_36 : decode cX0_pass 36 = .ok (.if_icmp .ge 15, 3) := by decide +kernel
theorem dX0_pass_39 : decode cX0_pass 39 = .ok (.aload_n 0, 1) := by decide +kernel
theorem dX0_pass_40 : decode cX0_pass 40 = .ok (.iload_n 2, 1) := by decide +kernel
theorem dX0_pass_41 : decode cX0_pass 41 = .ok (.iload_n 1, 1) := by decide +kernel
theorem dX0_pass_42 : decode cX0_pass 42 = .ok (.invokevirtual 134, 3) := by decide +kernel
theorem dX0_pass_45 : decode cX0_pass 45 = .ok (.iinc 2 1, 3) := by decide +kernel
theorem dX0_pass_48 : decode cX0_pass 48 = .ok (.goto (-17), 3) := by decide +kernel
theorem dX0_pass_51 : decode cX0_pass 51 = .ok (.aload_n 0, 1) := by decide +kernel
theorem dX0_pass_52 : decode cX0_pass 52 = .ok (.dup, 1) := by decide +kernel
theorem dX0_pass_53 : decode cX0_pass 53 = .ok (.getfield 129, 3) := by decide +kernel
theorem dX0_pass_56 : decode cX0_pass 56 = .ok (.iload_n 1, 1) := by decide +kernel
theorem dX0_pass_57 : decode cX0_pass 57 = .ok (.iadd, 1) := by decide +kernel
theorem dX0_pass_58 : decode cX0_pass 58 = .ok (.putfield 129, 3) := by decide +kernel
theorem dX0_pass_61 : decode cX0_pass 61 = .ok (.aload_n 0, 1) := by decide +kernel
theorem dX0_pass_62 : decode cX0_pass 62 = .ok (.getfield 129, 3) := by decide +kernel
theorem dX0_pass_65 : decode cX0_pass 65 = .ok (.ireturn, 1) := by decide +kernel
theorem dX0_left_0 : decode cX0_left 0 = .ok (.iload_n 1, 1) := by decide +kernel
theorem dX0_left_1 : decode cX0_left 1 = .ok (.aload_n 0, 1) := by decide +kernel
theorem dX0_left_2 : decode cX0_left 2 = .ok (.getfield 68, 3) := by decide +kernel
theorem dX0_left_5 : decode cX0_left 5 = .ok (.invokestatic 61, 3) := by decide +kernel
theorem dX0_left_8 : decode cX0_left 8 = .ok (.aload_n 0, 1) := by decide +kernel
theorem dX0_left_9 : decode cX0_left 9 = .ok (.getfield 16, 3) := by decide +kernel
theorem dX0_left_12 : decode cX0_left 12 = .ok (.iload_n 1, 1) := by decide +kernel
theorem dX0_left_13 : decode cX0_left 13 = .ok (.iaload, 1) := by decide +kernel
theorem dX0_left_14 : decode cX0_left 14 = .ok (.ireturn, 1) := by decide +kernel
theorem dX0_has_0 : decode cX0_has 0 = .ok (.iload_n 1, 1) := by decide +kernel
theorem dX0_has_1 : decode cX0_has 1 = .ok (.aload_n 0, 1) := by decide +kernel
theorem dX0_has_2 : decode cX0_has 2 = .ok (.getfield 73, 3) := by decide +kernel
theorem dX0_has_5 : decode cX0_has 5 = .ok (.invokestatic 61, 3) := by decide +kernel
theorem dX0_has_8 : decode cX0_has 8 = .ok (.iload_n 2, 1) := by decide +kernel
theorem dX0_has_9 : decode cX0_has 9 = .ok (.iconst (-1), 1) := by decide +kernel
theorem dX0_has_10 : decode cX0_has 10 = .ok (.if_icmp .ne 12, 3) := by decide +kernel
theorem dX0_has_13 : decode cX0_has 13 = .ok (.aload_n 0, 1) := by decide +kernel
theorem dX0_has_14 : decode cX0_has 14 = .ok (.iload_n 1, 1) := by decide +kernel
theorem dX0_has_15 : decode cX0_has 15 = .ok (.invokestatic 80, 3) := by decide +kernel
theorem dX0_has_18 : decode cX0_has 18 = .ok (.invokevirtual 99, 3) := by decide +kernel
theorem dX0_has_21 : decode cX0_has 21 = .ok (.ireturn, 1) := by decide +kernel
theorem dX0_has_22 : decode cX0_has 22 = .ok (.iload_n 2, 1) := by decide +kernel
theorem dX0_has_23 : decode cX0_has 23 = .ok (.aload_n 0, 1) := by decide +kernel
theorem dX0_has_24 : decode cX0_has 24 = .ok (.getfield 68, 3) := by decide +kernel
theorem dX0_has_27 : decode cX0_has 27 = .ok (.invokestatic 61, 3) := by decide +kernel
theorem dX0_has_30 : decode cX0_has 30 = .ok (.aload_n 0, 1) := by decide +kernel
theorem dX0_has_31 : decode cX0_has 31 = .ok (.getfield 19, 3) := by decide +kernel
theorem dX0_has_34 : decode cX0_has 34 = .ok (.iload_n 1, 1) := by decide +kernel
theorem dX0_has_35 : decode cX0_has 35 = .ok (.invokestatic 80, 3) := by decide +kernel
theorem dX0_has_38 : decode cX0_has 38 = .ok (.iload_n 2, 1) := by decide +kernel
theorem dX0_has_39 : decode cX0_has 39 = .ok (.invokestatic 84, 3) := by decide +kernel
theorem dX0_has_42 : decode cX0_has 42 = .ok (.iaload, 1) := by decide +kernel
theorem dX0_has_43 : decode cX0_has 43 = .ok (.ireturn, 1) := by decide +kernel
theorem dX0_colour_0 : decode cX0_colour 0 = .ok (.iload_n 1, 1) := by decide +kernel
theorem dX0_colour_1 : decode cX0_colour 1 = .ok (.aload_n 0, 1) := by decide +kernel
theorem dX0_colour_2 : decode cX0_colour 2 = .ok (.getfield 73, 3) := by decide +kernel
theorem dX0_colour_5 : decode cX0_colour 5 = .ok (.invokestatic 61, 3) := by decide +kernel
theorem dX0_colour_8 : decode cX0_colour 8 = .ok (.iload_n 2, 1) := by decide +kernel
theorem dX0_colour_9 : decode cX0_colour 9 = .ok (.iconst 0, 1) := by decide +kernel
theorem dX0_colour_10 : decode cX0_colour 10 = .ok (.iconst 2, 1) := by decide +kernel
theorem dX0_colour_11 : decode cX0_colour 11 = .ok (.invokestatic 65, 3) := by decide +kernel
theorem dX0_colour_14 : decode cX0_colour 14 = .ok (.aload_n 0, 1) := by decide +kernel
theorem dX0_colour_15 : decode cX0_colour 15 = .ok (.iload_n 1, 1) := by decide +kernel
theorem dX0_colour_16 : decode cX0_colour 16 = .ok (.invokestatic 80, 3) := by decide +kernel
theorem dX0_colour_19 : decode cX0_colour 19 = .ok (.iload_n 2, 1) := by decide +kernel
theorem dX0_colour_20 : decode cX0_colour 20 = .ok (.invokevirtual 137, 3) := by decide +kernel
theorem dX0_colour_23 : decode cX0_colour 23 = .ok (.ireturn, 1) := by decide +kernel
theorem dX0_of_0 : decode cX0_of 0 = .ok (.iload_n 1, 1) := by decide +kernel
theorem dX0_of_1 : decode cX0_of 1 = .ok (.aload_n 0, 1) := by decide +kernel
theorem dX0_of_2 : decode cX0_of 2 = .ok (.getfield 105, 3) := by decide +kernel
theorem dX0_of_5 : decode cX0_of 5 = .ok (.invokestatic 61, 3) := by decide +kernel
theorem dX0_of_8 : decode cX0_of 8 = .ok (.iload_n 2, 1) := by decide +kernel
theorem dX0_of_9 : decode cX0_of 9 = .ok (.iconst 0, 1) := by decide +kernel
theorem dX0_of_10 : decode cX0_of 10 = .ok (.bipush 8, 2) := by decide +kernel
theorem dX0_of_12 : decode cX0_of 12 = .ok (.invokestatic 65, 3) := by decide +kernel
theorem dX0_of_15 : decode cX0_of 15 = .ok (.iload_n 2, 1) := by decide +kernel
theorem dX0_of_16 : decode cX0_of 16 = .ok (.tableswitch 92 0 5 #[40, 47, 54, 60, 66, 85], 40) := by decide +kernel
theorem dX0_of_56 : decode cX0_of 56 = .ok (.aload_n 0, 1) := by decide +kernel
theorem dX0_of_57 : decode cX0_of 57 = .ok (.getfield 22, 3) := by decide +kernel
theorem dX0_of_60 : decode cX0_of 60 = .ok (.iload_n 1, 1) := by decide +kernel
theorem dX0_of_61 : decode cX0_of 61 = .ok (.iaload, 1) := by decide +kernel
theorem dX0_of_62 : decode cX0_of 62 = .ok (.ireturn, 1) := by decide +kernel
theorem dX0_of_63 : decode cX0_of 63 = .ok (.aload_n 0, 1) := by decide +kernel
theorem dX0_of_64 : decode cX0_of 64 = .ok (.getfield 25, 3) := by decide +kernel
theorem dX0_of_67 : decode cX0_of 67 = .ok (.iload_n 1, 1) := by decide +kernel
theorem dX0_of_68 : decode cX0_of 68 = .ok (.iaload, 1) := by decide +kernel
theorem dX0_of_69 : decode cX0_of 69 = .ok (.ireturn, 1) := by decide +kernel
theorem dX0_of_70 : decode cX0_of 70 = .ok (.aload_n 0, 1) := by decide +kernel
theorem dX0_of_71 : decode cX0_of 71 = .ok (.iload_n 1, 1) := by decide +kernel
theorem dX0_of_72 : decode cX0_of 72 = .ok (.invokevirtual 123, 3) := by decide +kernel
theorem dX0_of_75 : decode cX0_of 75 = .ok (.ireturn, 1) := by decide +kernel
theorem dX0_of_76 : decode cX0_of 76 = .ok (.aload_n 0, 1) := by decide +kernel
theorem dX0_of_77 : decode cX0_of 77 = .ok (.iload_n 1, 1) := by decide +kernel
theorem dX0_of_78 : decode cX0_of 78 = .ok (.invokevirtual 140, 3) := by decide +kernel
theorem dX0_of_81 : decode cX0_of 81 = .ok (.ireturn, 1) := by decide +kernel
theorem dX0_of_82 : decode cX0_of 82 = .ok (.aload_n 0, 1) := by decide +kernel
theorem dX0_of_83 : decode cX0_of 83 = .ok (.iload_n 1, 1) := by decide +kernel
theorem dX0_of_84 : decode cX0_of 84 = .ok (.invokevirtual 143, 3) := by decide +kernel
theorem dX0_of_87 : decode cX0_of 87 = .ok (.ifCond .eq 12, 3) := by decide +kernel
theorem dX0_of_90 : decode cX0_of 90 = .ok (.aload_n 0, 1) := by decide +kernel
theorem dX0_of_91 : decode cX0_of 91 = .ok (.getfield 34, 3) := by decide +kernel
theorem dX0_of_94 : decode cX0_of 94 = .ok (.iload_n 1, 1) := by decide +kernel
theorem dX0_of_95 : decode cX0_of 95 = .ok (.iaload, 1) := by decide +kernel
theorem dX0_of_96 : decode cX0_of 96 = .ok (.goto 4, 3) := by decide +kernel
theorem dX0_of_99 : decode cX0_of 99 = .ok (.iconst (-1), 1) := by decide +kernel
theorem dX0_of_100 : decode cX0_of 100 = .ok (.ireturn, 1) := by decide +kernel
theorem dX0_of_101 : decode cX0_of 101 = .ok (.aload_n 0, 1) := by decide +kernel
theorem dX0_of_102 : decode cX0_of 102 = .ok (.getfield 31, 3) := by decide +kernel
theorem dX0_of_105 : decode cX0_of 105 = .ok (.iload_n 1, 1) := by decide +kernel
theorem dX0_of_106 : decode cX0_of 106 = .ok (.iaload, 1) := by decide +kernel
theorem dX0_of_107 : decode cX0_of 107 = .ok (.ireturn, 1) := by decide +kernel
theorem dX0_of_108 : decode cX0_of 108 = .ok (.aload_n 0, 1) := by decide +kernel
theorem dX0_of_109 : decode cX0_of 109 = .ok (.iload_n 1, 1) := by decide +kernel
theorem dX0_of_110 : decode cX0_of 110 = .ok (.iload_n 2, 1) := by decide +kernel
theorem dX0_of_111 : decode cX0_of 111 = .ok (.bipush 6, 2) := by decide +kernel
theorem dX0_of_113 : decode cX0_of 113 = .ok (.isub, 1) := by decide +kernel
theorem dX0_of_114 : decode cX0_of 114 = .ok (.invokevirtual 147, 3) := by decide +kernel
theorem dX0_of_117 : decode cX0_of 117 = .ok (.ireturn, 1) := by decide +kernel
theorem dX0_layer_0 : decode cX0_layer 0 = .ok (.iload_n 1, 1) := by decide +kernel
theorem dX0_layer_1 : decode cX0_layer 1 = .ok (.aload_n 0, 1) := by decide +kernel
theorem dX0_layer_2 : decode cX0_layer 2 = .ok (.getfield 105, 3) := by decide +kernel
theorem dX0_layer_5 : decode cX0_layer 5 = .ok (.invokestatic 61, 3) := by decide +kernel
theorem dX0_layer_8 : decode cX0_layer 8 = .ok (.iload_n 2, 1) := by decide +kernel
theorem dX0_layer_9 : decode cX0_layer 9 = .ok (.aload_n 0, 1) := by decide +kernel
theorem dX0_layer_10 : decode cX0_layer 10 = .ok (.getfield 22, 3) := by decide +kernel
theorem dX0_layer_13 : decode cX0_layer 13 = .ok (.iload_n 1, 1) := by decide +kernel
theorem dX0_layer_14 : decode cX0_layer 14 = .ok (.iaload, 1) := by decide +kernel
theorem dX0_layer_15 : decode cX0_layer 15 = .ok (.invokestatic 61, 3) := by decide +kernel
theorem dX0_layer_18 : decode cX0_layer 18 = .ok (.iload_n 3, 1) := by decide +kernel
theorem dX0_layer_19 : decode cX0_layer 19 = .ok (.aload_n 0, 1) := by decide +kernel
theorem dX0_layer_20 : decode cX0_layer 20 = .ok (.getfield 68, 3) := by decide +kernel
theorem dX0_layer_23 : decode cX0_layer 23 = .ok (.invokestatic 61, 3) := by decide +kernel
theorem dX0_layer_26 : decode cX0_layer 26 = .ok (.aload_n 0, 1) := by decide +kernel
theorem dX0_layer_27 : decode cX0_layer 27 = .ok (.getfield 19, 3) := by decide +kernel
theorem dX0_layer_30 : decode cX0_layer 30 = .ok (.iload_n 1, 1) := by decide +kernel
theorem dX0_layer_31 : decode cX0_layer 31 = .ok (.iload_n 2, 1) := by decide +kernel
theorem dX0_layer_32 : decode cX0_layer 32 = .ok (.invokestatic 116, 3) := by decide +kernel
theorem dX0_layer_35 : decode cX0_layer 35 = .ok (.iload_n 3, 1) := by decide +kernel
theorem dX0_layer_36 : decode cX0_layer 36 = .ok (.invokestatic 84, 3) := by decide +kernel
theorem dX0_layer_39 : decode cX0_layer 39 = .ok (.iaload, 1) := by decide +kernel
theorem dX0_layer_40 : decode cX0_layer 40 = .ok (.ireturn, 1) := by decide +kernel
theorem dX0_where_0 : decode cX0_where 0 = .ok (.iload_n 1, 1) := by decide +kernel
theorem dX0_where_1 : decode cX0_where 1 = .ok (.aload_n 0, 1) := by decide +kernel
theorem dX0_where_2 : decode cX0_where 2 = .ok (.getfield 68, 3) := by decide +kernel
theorem dX0_where_5 : decode cX0_where 5 = .ok (.invokestatic 61, 3) := by decide +kernel
theorem dX0_where_8 : decode cX0_where 8 = .ok (.iload_n 2, 1) := by decide +kernel
theorem dX0_where_9 : decode cX0_where 9 = .ok (.iconst 0, 1) := by decide +kernel
theorem dX0_where_10 : decode cX0_where 10 = .ok (.iconst 3, 1) := by decide +kernel
theorem dX0_where_11 : decode cX0_where 11 = .ok (.invokestatic 65, 3) := by decide +kernel
theorem dX0_where_14 : decode cX0_where 14 = .ok (.iload_n 2, 1) := by decide +kernel
theorem dX0_where_15 : decode cX0_where 15 = .ok (.tableswitch 51 0 2 #[25, 32, 41], 25) := by decide +kernel
theorem dX0_where_40 : decode cX0_where 40 = .ok (.aload_n 0, 1) := by decide +kernel
theorem dX0_where_41 : decode cX0_where 41 = .ok (.getfield 16, 3) := by decide +kernel
theorem dX0_where_44 : decode cX0_where 44 = .ok (.iload_n 1, 1) := by decide +kernel
theorem dX0_where_45 : decode cX0_where 45 = .ok (.iaload, 1) := by decide +kernel
theorem dX0_where_46 : decode cX0_where 46 = .ok (.ireturn, 1) := by decide +kernel
theorem dX0_where_47 : decode cX0_where 47 = .ok (.aload_n 0, 1) := by decide +kernel
theorem dX0_where_48 : decode cX0_where 48 = .ok (.iload_n 1, 1) := by decide +kernel
theorem dX0_where_49 : decode cX0_where 49 = .ok (.iconst 0, 1) := by decide +kernel
theorem dX0_where_50 : decode cX0_where 50 = .ok (.bipush 10, 2) := by decide +kernel
theorem dX0_where_52 : decode cX0_where 52 = .ok (.invokevirtual 150, 3) := by decide +kernel
theorem dX0_where_55 : decode cX0_where 55 = .ok (.ireturn, 1) := by decide +kernel
theorem dX0_where_56 : decode cX0_where 56 = .ok (.aload_n 0, 1) := by decide +kernel
theorem dX0_where_57 : decode cX0_where 57 = .ok (.iload_n 1, 1) := by decide +kernel
theorem dX0_where_58 : decode cX0_where 58 = .ok (.bipush 10, 2) := by decide +kernel
theorem dX0_where_60 : decode cX0_where 60 = .ok (.bipush 106, 2) := by decide +kernel
theorem dX0_where_62 : decode cX0_where 62 = .ok (.invokevirtual 150, 3) := by decide +kernel
theorem dX0_where_65 : decode cX0_where 65 = .ok (.ireturn, 1) := by decide +kernel
theorem dX0_where_66 : decode cX0_where 66 = .ok (.aload_n 0, 1) := by decide +kernel
theorem dX0_where_67 : decode cX0_where 67 = .ok (.iload_n 1, 1) := by decide +kernel
theorem dX0_where_68 : decode cX0_where 68 = .ok (.bipush 106, 2) := by decide +kernel
theorem dX0_where_70 : decode cX0_where 70 = .ok (.bipush 107, 2) := by decide +kernel
theorem dX0_where_72 : decode cX0_where 72 = .ok (.invokevirtual 150, 3) := by decide +kernel
theorem dX0_where_75 : decode cX0_where 75 = .ok (.ireturn, 1) := by decide +kernel
theorem dX0_recipe_0 : decode cX0_recipe 0 = .ok (.iload_n 1, 1) := by decide +kernel
theorem dX0_recipe_1 : decode cX0_recipe 1 = .ok (.iload_n 2, 1) := by decide +kernel
theorem dX0_recipe_2 : decode cX0_recipe 2 = .ok (.iload_n 3, 1) := by decide +kernel
theorem dX0_recipe_3 : decode cX0_recipe 3 = .ok (.invokestatic 46, 3) := by decide +kernel
theorem dX0_recipe_6 : decode cX0_recipe 6 = .ok (.iconst (-1), 1) := by decide +kernel
theorem dX0_recipe_7 : decode cX0_recipe 7 = .ok (.istore 4, 2) := by decide +kernel
theorem dX0_recipe_9 : decode cX0_recipe 9 = .ok (.iconst 0, 1) := by decide +kernel
theorem dX0_recipe_10 : decode cX0_recipe 10 = .ok (.istore 5, 2) := by decide +kernel
theorem dX0_recipe_12 : decode cX0_recipe 12 = .ok (.iconst 0, 1) := by decide +kernel
theorem dX0_recipe_13 : decode cX0_recipe 13 = .ok (.istore 6, 2) := by decide +kernel
theorem dX0_recipe_15 : decode cX0_recipe 15 = .ok (.iload 6, 2) := by decide +kernel
theorem dX0_recipe_17 : decode cX0_recipe 17 = .ok (.aload_n 0, 1) := by decide +kernel
theorem dX0_recipe_18 : decode cX0_recipe 18 = .ok (.getfield 68, 3) := by decide +kernel
theorem dX0_recipe_21 : decode cX0_recipe 21 = .ok (.if_icmp .ge 152, 3) := by decide +kernel
theorem dX0_recipe_24 : decode cX0_recipe 24 = .ok (.iload 6, 2) := by decide +kernel
theorem dX0_recipe_26 : decode cX0_recipe 26 = .ok (.istore 7, 2) := by decide +kernel
theorem dX0_recipe_28 : decode cX0_recipe 28 = .ok (.iload 7, 2) := by decide +kernel
theorem dX0_recipe_30 : decode cX0_recipe 30 = .ok (.aload_n 0, 1) := by decide +kernel
theorem dX0_recipe_31 : decode cX0_recipe 31 = .ok (.getfield 68, 3) := by decide +kernel
theorem dX0_recipe_34 : decode cX0_recipe 34 = .ok (.if_icmp .ge 133, 3) := by decide +kernel
theorem dX0_recipe_37 : decode cX0_recipe 37 = .ok (.aload_n 0, 1) := by decide +kernel
theorem dX0_recipe_38 : decode cX0_recipe 38 = .ok (.getfield 16, 3) := by decide +kernel
theorem dX0_recipe_41 : decode cX0_recipe 41 = .ok (.iload 6, 2) := by decide +kernel
theorem dX0_recipe_43 : decode cX0_recipe 43 = .ok (.iaload, 1) := by decide +kernel
theorem dX0_recipe_44 : decode cX0_recipe 44 = .ok (.ifCond .eq 117, 3) := by decide +kernel
theorem dX0_recipe_47 : decode cX0_recipe 47 = .ok (.aload_n 0, 1) := by decide +kernel
theorem dX0_recipe_48 : decode cX0_recipe 48 = .ok (.getfield 16, 3) := by decide +kernel
theorem dX0_recipe_51 : decode cX0_recipe 51 = .ok (.iload 7, 2) := by decide +kernel
theorem dX0_recipe_53 : decode cX0_recipe 53 = .ok (.iaload, 1) := by decide +kernel
theorem dX0_recipe_54 : decode cX0_recipe 54 = .ok (.ifCond .ne 6, 3) := by decide +kernel
theorem dX0_recipe_57 : decode cX0_recipe 57 = .ok (.goto 104, 3) := by decide +kernel
theorem dX0_recipe_60 : decode cX0_recipe 60 = .ok (.iconst 0, 1) := by decide +kernel
theorem dX0_recipe_61 : decode cX0_recipe 61 = .ok (.istore 8, 2) := by decide +kernel
theorem dX0_recipe_63 : decode cX0_recipe 63 = .ok (.iload 8, 2) := by decide +kernel
theorem dX0_recipe_65 : decode cX0_recipe 65 = .ok (.iconst 4, 1) := by decide +kernel
theorem dX0_recipe_66 : decode cX0_recipe 66 = .ok (.if_icmp .gt 95, 3) := by decide +kernel
theorem dX0_recipe_69 : decode cX0_recipe 69 = .ok (.aload_n 0, 1) := by decide +kernel
theorem dX0_recipe_70 : decode cX0_recipe 70 = .ok (.iload 6, 2) := by decide +kernel
theorem dX0_recipe_72 : decode cX0_recipe 72 = .ok (.iload 7, 2) := by decide +kernel
theorem dX0_recipe_74 : decode cX0_recipe 74 = .ok (.iload 8, 2) := by decide +kernel
theorem dX0_recipe_76 : decode cX0_recipe 76 = .ok (.iconst 0, 1) := by decide +kernel
theorem dX0_recipe_77 : decode cX0_recipe 77 = .ok (.invokevirtual 154, 3) := by decide +kernel
theorem dX0_recipe_80 : decode cX0_recipe 80 = .ok (.iload_n 1, 1) := by decide +kernel
theorem dX0_recipe_81 : decode cX0_recipe 81 = .ok (.isub, 1) := by decide +kernel
theorem dX0_recipe_82 : decode cX0_recipe 82 = .ok (.invokestatic 158, 3) := by decide +kernel
theorem dX0_recipe_85 : decode cX0_recipe 85 = .ok (.aload_n 0, 1) := by decide +kernel
theorem dX0_recipe_86 : decode cX0_recipe 86 = .ok (.iload 6, 2) := by decide +kernel
theorem dX0_recipe_88 : decode cX0_recipe 88 = .ok (.iload 7, 2) := by decide +kernel
theorem dX0_recipe_90 : decode cX0_recipe 90 = .ok (.iload 8, 2) := by decide +kernel
theorem dX0_recipe_92 : decode cX0_recipe 92 = .ok (.iconst 1, 1) := by decide +kernel
theorem dX0_recipe_93 : decode cX0_recipe 93 = .ok (.invokevirtual 154, 3) := by decide +kernel
theorem dX0_recipe_96 : decode cX0_recipe 96 = .ok (.iload_n 2, 1) := by decide +kernel
theorem dX0_recipe_97 : decode cX0_recipe 97 = .ok (.isub, 1) := by decide +kernel
theorem dX0_recipe_98 : decode cX0_recipe 98 = .ok (.invokestatic 158, 3) := by decide +kernel
theorem dX0_recipe_101 : decode cX0_recipe 101 = .ok (.iadd, 1) := by decide +kernel
theorem dX0_recipe_102 : decode cX0_recipe 102 = .ok (.aload_n 0, 1) := by decide +kernel
theorem dX0_recipe_103 : decode cX0_recipe 103 = .ok (.iload 6, 2) := by decide +kernel
theorem dX0_recipe_105 : decode cX0_recipe 105 = .ok (.iload 7, 2) := by decide +kernel
theorem dX0_recipe_107 : decode cX0_recipe 107 = .ok (.iload 8, 2) := by decide +kernel
theorem dX0_recipe_109 : decode cX0_recipe 109 = .ok (.iconst 2, 1) := by decide +kernel
theorem dX0_recipe_110 : decode cX0_recipe 110 = .ok (.invokevirtual 154, 3) := by decide +kernel
theorem dX0_recipe_113 : decode cX0_recipe 113 = .ok (.iload_n 3, 1) := by decide +kernel
theorem dX0_recipe_114 : decode cX0_recipe 114 = .ok (.isub, 1) := by decide +kernel
theorem dX0_recipe_115 : decode cX0_recipe 115 = .ok (.invokestatic 158, 3) := by decide +kernel
theorem dX0_recipe_118 : decode cX0_recipe 118 = .ok (.iadd, 1) := by decide +kernel
theorem dX0_recipe_119 : decode cX0_recipe 119 = .ok (.istore 9, 2) := by decide +kernel
theorem dX0_recipe_121 : decode cX0_recipe 121 = .ok (.iload 4, 2) := by decide +kernel
theorem dX0_recipe_123 : decode cX0_recipe 123 = .ok (.iconst (-1), 1) := by decide +kernel
theorem dX0_recipe_124 : decode cX0_recipe 124 = .ok (.if_icmp .eq 10, 3) := by decide +kernel
theorem dX0_recipe_127 : decode cX0_recipe 127 = .ok (.iload 9, 2) := by decide +kernel
theorem dX0_recipe_129 : decode cX0_recipe 129 = .ok (.iload 5, 2) := by decide +kernel
theorem dX0_recipe_131 : decode cX0_recipe 131 = .ok (.if_icmp .ge 24, 3) := by decide +kernel
theorem dX0_recipe_134 : decode cX0_recipe 134 = .ok (.sipush 1000, 3) := by decide +kernel
theorem dX0_recipe_137 : decode cX0_recipe 137 = .ok (.iload 6, 2) := by decide +kernel
theorem dX0_recipe_139 : decode cX0_recipe 139 = .ok (.imul, 1) := by decide +kernel
theorem dX0_recipe_140 : decode cX0_recipe 140 = .ok (.bipush 10, 2) := by decide +kernel
theorem dX0_recipe_142 : decode cX0_recipe 142 = .ok (.iload 7, 2) := by decide +kernel
theorem dX0_recipe_144 : decode cX0_recipe 144 = .ok (.imul, 1) := by decide +kernel
theorem dX0_recipe_145 : decode cX0_recipe 145 = .ok (.iadd, 1) := by decide +kernel
theorem dX0_recipe_146 : decode cX0_recipe 146 = .ok (.iload 8, 2) := by decide +kernel
theorem dX0_recipe_148 : decode cX0_recipe 148 = .ok (.iadd, 1) := by decide +kernel
theorem dX0_recipe_149 : decode cX0_recipe 149 = .ok (.istore 4, 2) := by decide +kernel
theorem dX0_recipe_151 : decode cX0_recipe 151 = .ok (.iload 9, 2) := by decide +kernel
theorem dX0_recipe_153 : decode cX0_recipe 153 = .ok (.istore 5, 2) := by decide +kernel
theorem dX0_recipe_155 : decode cX0_recipe 155 = .ok (.iinc 8 1, 3) := by decide +kernel
theorem dX0_recipe_158 : decode cX0_recipe 158 = .ok (.goto (-95), 3) := by decide +kernel
theorem dX0_recipe_161 : decode cX0_recipe 161 = .ok (.iinc 7 1, 3) := by decide +kernel
theorem dX0_recipe_164 : decode cX0_recipe 164 = .ok (.goto (-136), 3) := by decide +kernel
theorem dX0_recipe_167 : decode cX0_recipe 167 = .ok (.iinc 6 1, 3) := by decide +kernel
theorem dX0_recipe_170 : decode cX0_recipe 170 = .ok (.goto (-155), 3) := by decide +kernel
theorem dX0_recipe_173 : decode cX0_recipe 173 = .ok (.iload 4, 2) := by decide +kernel
theorem dX0_recipe_175 : decode cX0_recipe 175 = .ok (.ireturn, 1) := by decide +kernel
theorem dX0_paid_0 : decode cX0_paid 0 = .ok (.iload_n 1, 1) := by decide +kernel
theorem dX0_paid_1 : decode cX0_paid 1 = .ok (.iconst 4, 1) := by decide +kernel
theorem dX0_paid_2 : decode cX0_paid 2 = .ok (.invokestatic 61, 3) := by decide +kernel
theorem dX0_paid_5 : decode cX0_paid 5 = .ok (.aload_n 0, 1) := by decide +kernel
theorem dX0_paid_6 : decode cX0_paid 6 = .ok (.getfield 43, 3) := by decide +kernel
theorem dX0_paid_9 : decode cX0_paid 9 = .ok (.iload_n 1, 1) := by decide +kernel
theorem dX0_paid_10 : decode cX0_paid 10 = .ok (.iaload, 1) := by decide +kernel
theorem dX0_paid_11 : decode cX0_paid 11 = .ok (.ireturn, 1) := by decide +kernel
theorem dX0_checkNumber_0 : decode cX0_checkNumber 0 = .ok (.iload_n 0, 1) := by decide +kernel
theorem dX0_checkNumber_1 : decode cX0_checkNumber 1 = .ok (.ifCond .lt 8, 3) := by decide +kernel
theorem dX0_checkNumber_4 : decode cX0_checkNumber 4 = .ok (.iload_n 0, 1) := by decide +kernel
theorem dX0_checkNumber_5 : decode cX0_checkNumber 5 = .ok (.iload_n 1, 1) := by decide +kernel
theorem dX0_checkNumber_6 : decode cX0_checkNumber 6 = .ok (.if_icmp .lt 13, 3) := by decide +kernel
theorem dX0_checkNumber_9 : decode cX0_checkNumber 9 = .ok (.new 161, 3) := by decide +kernel
theorem dX0_checkNumber_12 : decode cX0_checkNumber 12 = .ok (.dup, 1) := by decide +kernel
theorem dX0_checkNumber_13 : decode cX0_checkNumber 13 = .ok (.ldc 163, 2) := by decide +kernel
theorem dX0_checkNumber_15 : decode cX0_checkNumber 15 = .ok (.invokespecial 165, 3) := by decide +kernel
theorem dX0_checkNumber_18 : decode cX0_checkNumber 18 = .ok (.athrow, 1) := by decide +kernel
theorem dX0_checkNumber_19 : decode cX0_checkNumber 19 = .ok (.return_, 1) := by decide +kernel
theorem dX0_checkRange_0 : decode cX0_checkRange 0 = .ok (.iload_n 0, 1) := by decide +kernel
theorem dX0_checkRange_1 : decode cX0_checkRange 1 = .ok (.iload_n 1, 1) := by decide +kernel
theorem dX0_checkRange_2 : decode cX0_checkRange 2 = .ok (.if_icmp .lt 8, 3) := by decide +kernel
theorem dX0_checkRange_5 : decode cX0_checkRange 5 = .ok (.iload_n 0, 1) := by decide +kernel
theorem dX0_checkRange_6 : decode cX0_checkRange 6 = .ok (.iload_n 2, 1) := by decide +kernel
theorem dX0_checkRange_7 : decode cX0_checkRange 7 = .ok (.if_icmp .le 13, 3) := by decide +kernel
theorem dX0_checkRange_10 : decode cX0_checkRange 10 = .ok (.new 88, 3) := by decide +kernel
theorem dX0_checkRange_13 : decode cX0_checkRange 13 = .ok (.dup, 1) := by decide +kernel
theorem dX0_checkRange_14 : decode cX0_checkRange 14 = .ok (.ldc 166, 2) := by decide +kernel
theorem dX0_checkRange_16 : decode cX0_checkRange 16 = .ok (.invokespecial 92, 3) := by decide +kernel
theorem dX0_checkRange_19 : decode cX0_checkRange 19 = .ok (.athrow, 1) := by decide +kernel
theorem dX0_checkRange_20 : decode cX0_checkRange 20 = .ok (.return_, 1) := by decide +kernel
theorem dX0_checkColour_0 : decode cX0_checkColour 0 = .ok (.iload_n 0, 1) := by decide +kernel
theorem dX0_checkColour_1 : decode cX0_checkColour 1 = .ok (.iconst 0, 1) := by decide +kernel
theorem dX0_checkColour_2 : decode cX0_checkColour 2 = .ok (.sipush 255, 3) := by decide +kernel
theorem dX0_checkColour_5 : decode cX0_checkColour 5 = .ok (.invokestatic 65, 3) := by decide +kernel
theorem dX0_checkColour_8 : decode cX0_checkColour 8 = .ok (.iload_n 1, 1) := by decide +kernel
theorem dX0_checkColour_9 : decode cX0_checkColour 9 = .ok (.iconst 0, 1) := by decide +kernel
theorem dX0_checkColour_10 : decode cX0_checkColour 10 = .ok (.sipush 255, 3) := by decide +kernel
theorem dX0_checkColour_13 : decode cX0_checkColour 13 = .ok (.invokestatic 65, 3) := by decide +kernel
theorem dX0_checkColour_16 : decode cX0_checkColour 16 = .ok (.iload_n 2, 1) := by decide +kernel
theorem dX0_checkColour_17 : decode cX0_checkColour 17 = .ok (.iconst 0, 1) := by decide +kernel
theorem dX0_checkColour_18 : decode cX0_checkColour 18 = .ok (.sipush 255, 3) := by decide +kernel
theorem dX0_checkColour_21 : decode cX0_checkColour 21 = .ok (.invokestatic 65, 3) := by decide +kernel
theorem dX0_checkColour_24 : decode cX0_checkColour 24 = .ok (.return_, 1) := by decide +kernel
theorem dX0_checkAtHome_0 : decode cX0_checkAtHome 0 = .ok (.aload_n 0, 1) := by decide +kernel
theorem dX0_checkAtHome_1 : decode cX0_checkAtHome 1 = .ok (.iload_n 1, 1) := by decide +kernel
theorem dX0_checkAtHome_2 : decode cX0_checkAtHome 2 = .ok (.invokevirtual 143, 3) := by decide +kernel
theorem dX0_checkAtHome_5 : decode cX0_checkAtHome 5 = .ok (.ifCond .eq 13, 3) := by decide +kernel
theorem dX0_checkAtHome_8 : decode cX0_checkAtHome 8 = .ok (.new 54, 3) := by decide +kernel
theorem dX0_checkAtHome_11 : decode cX0_checkAtHome 11 = .ok (.dup, 1) := by decide +kernel
theorem dX0_checkAtHome_12 : decode cX0_checkAtHome 12 = .ok (.ldc 168, 2) := by decide +kernel
theorem dX0_checkAtHome_14 : decode cX0_checkAtHome 14 = .ok (.invokespecial 58, 3) := by decide +kernel
theorem dX0_checkAtHome_17 : decode cX0_checkAtHome 17 = .ok (.athrow, 1) := by decide +kernel
theorem dX0_checkAtHome_18 : decode cX0_checkAtHome 18 = .ok (.return_, 1) := by decide +kernel
theorem dX0_potRow_0 : decode cX0_potRow 0 = .ok (.iload_n 0, 1) := by decide +kernel
theorem dX0_potRow_1 : decode cX0_potRow 1 = .ok (.ireturn, 1) := by decide +kernel
theorem dX0_layerRow_0 : decode cX0_layerRow 0 = .ok (.bipush 10, 2) := by decide +kernel
theorem dX0_layerRow_2 : decode cX0_layerRow 2 = .ok (.iload_n 0, 1) := by decide +kernel
theorem dX0_layerRow_3 : decode cX0_layerRow 3 = .ok (.bipush 12, 2) := by decide +kernel
theorem dX0_layerRow_5 : decode cX0_layerRow 5 = .ok (.imul, 1) := by decide +kernel
theorem dX0_layerRow_6 : decode cX0_layerRow 6 = .ok (.iadd, 1) := by decide +kernel
theorem dX0_layerRow_7 : decode cX0_layerRow 7 = .ok (.iload_n 1, 1) := by decide +kernel
theorem dX0_layerRow_8 : decode cX0_layerRow 8 = .ok (.iadd, 1) := by decide +kernel
theorem dX0_layerRow_9 : decode cX0_layerRow 9 = .ok (.ireturn, 1) := by decide +kernel
theorem dX0_place_0 : decode cX0_place 0 = .ok (.iload_n 0, 1) := by decide +kernel
theorem dX0_place_1 : decode cX0_place 1 = .ok (.bipush 12, 2) := by decide +kernel
theorem dX0_place_3 : decode cX0_place 3 = .ok (.imul, 1) := by decide +kernel
theorem dX0_place_4 : decode cX0_place 4 = .ok (.iload_n 1, 1) := by decide +kernel
theorem dX0_place_5 : decode cX0_place 5 = .ok (.iadd, 1) := by decide +kernel
theorem dX0_place_6 : decode cX0_place 6 = .ok (.ireturn, 1) := by decide +kernel
theorem dX0_sumOfRow_0 : decode cX0_sumOfRow 0 = .ok (.iconst 0, 1) := by decide +kernel
theorem dX0_sumOfRow_1 : decode cX0_sumOfRow 1 = .ok (.istore_n 2, 1) := by decide +kernel
theorem dX0_sumOfRow_2 : decode cX0_sumOfRow 2 = .ok (.iconst 0, 1) := by decide +kernel
theorem dX0_sumOfRow_3 : decode cX0_sumOfRow 3 = .ok (.istore_n 3, 1) := by decide +kernel
theorem dX0_sumOfRow_4 : decode cX0_sumOfRow 4 = .ok (.iload_n 3, 1) := by decide +kernel
theorem dX0_sumOfRow_5 : decode cX0_sumOfRow 5 = .ok (.aload_n 0, 1) := by decide +kernel
theorem dX0_sumOfRow_6 : decode cX0_sumOfRow 6 = .ok (.getfield 68, 3) := by decide +kernel
theorem dX0_sumOfRow_9 : decode cX0_sumOfRow 9 = .ok (.if_icmp .ge 22, 3) := by decide +kernel
theorem dX0_sumOfRow_12 : decode cX0_sumOfRow 12 = .ok (.iload_n 2, 1) := by decide +kernel
theorem dX0_sumOfRow_13 : decode cX0_sumOfRow 13 = .ok (.aload_n 0, 1) := by decide +kernel
theorem dX0_sumOfRow_14 : decode cX0_sumOfRow 14 = .ok (.getfield 19, 3) := by decide +kernel
theorem dX0_sumOfRow_17 : decode cX0_sumOfRow 17 = .ok (.iload_n 1, 1) := by decide +kernel
theorem dX0_sumOfRow_18 : decode cX0_sumOfRow 18 = .ok (.iload_n 3, 1) := by decide +kernel
theorem dX0_sumOfRow_19 : decode cX0_sumOfRow 19 = .ok (.invokestatic 84, 3) := by decide +kernel
theorem dX0_sumOfRow_22 : decode cX0_sumOfRow 22 = .ok (.iaload, 1) := by decide +kernel
theorem dX0_sumOfRow_23 : decode cX0_sumOfRow 23 = .ok (.iadd, 1) := by decide +kernel
theorem dX0_sumOfRow_24 : decode cX0_sumOfRow 24 = .ok (.istore_n 2, 1) := by decide +kernel
theorem dX0_sumOfRow_25 : decode cX0_sumOfRow 25 = .ok (.iinc 3 1, 3) := by decide +kernel
theorem dX0_sumOfRow_28 : decode cX0_sumOfRow 28 = .ok (.goto (-24), 3) := by decide +kernel
theorem dX0_sumOfRow_31 : decode cX0_sumOfRow 31 = .ok (.iload_n 2, 1) := by decide +kernel
theorem dX0_sumOfRow_32 : decode cX0_sumOfRow 32 = .ok (.ireturn, 1) := by decide +kernel
theorem dX0_sumOfTube_0 : decode cX0_sumOfTube 0 = .ok (.iconst 0, 1) := by decide +kernel
theorem dX0_sumOfTube_1 : decode cX0_sumOfTube 1 = .ok (.istore 4, 2) := by decide +kernel
theorem dX0_sumOfTube_3 : decode cX0_sumOfTube 3 = .ok (.iload_n 2, 1) := by decide +kernel
theorem dX0_sumOfTube_4 : decode cX0_sumOfTube 4 = .ok (.istore 5, 2) := by decide +kernel
theorem dX0_sumOfTube_6 : decode cX0_sumOfTube 6 = .ok (.iload 5, 2) := by decide +kernel
theorem dX0_sumOfTube_8 : decode cX0_sumOfTube 8 = .ok (.iload_n 3, 1) := by decide +kernel
theorem dX0_sumOfTube_9 : decode cX0_sumOfTube 9 = .ok (.if_icmp .ge 25, 3) := by decide +kernel
theorem dX0_sumOfTube_12 : decode cX0_sumOfTube 12 = .ok (.iload 4, 2) := by decide +kernel
theorem dX0_sumOfTube_14 : decode cX0_sumOfTube 14 = .ok (.aload_n 0, 1) := by decide +kernel
theorem dX0_sumOfTube_15 : decode cX0_sumOfTube 15 = .ok (.getfield 19, 3) := by decide +kernel
theorem dX0_sumOfTube_18 : decode cX0_sumOfTube 18 = .ok (.iload 5, 2) := by decide +kernel
theorem dX0_sumOfTube_20 : decode cX0_sumOfTube 20 = .ok (.iload_n 1, 1) := by decide +kernel
theorem dX0_sumOfTube_21 : decode cX0_sumOfTube 21 = .ok (.invokestatic 84, 3) := by decide +kernel
theorem dX0_sumOfTube_24 : decode cX0_sumOfTube 24 = .ok (.iaload, 1) := by decide +kernel
theorem dX0_sumOfTube_25 : decode cX0_sumOfTube 25 = .ok (.iadd, 1) := by decide +kernel
theorem dX0_sumOfTube_26 : decode cX0_sumOfTube 26 = .ok (.istore 4, 2) := by decide +kernel
theorem dX0_sumOfTube_28 : decode cX0_sumOfTube 28 = .ok (.iinc 5 1, 3) := by decide +kernel
theorem dX0_sumOfTube_31 : decode cX0_sumOfTube 31 = .ok (.goto (-25), 3) := by decide +kernel
theorem dX0_sumOfTube_34 : decode cX0_sumOfTube 34 = .ok (.iload 4, 2) := by decide +kernel
theorem dX0_sumOfTube_36 : decode cX0_sumOfTube 36 = .ok (.ireturn, 1) := by decide +kernel
theorem dX0_move_0 : decode cX0_move 0 = .ok (.aload_n 0, 1) := by decide +kernel
theorem dX0_move_1 : decode cX0_move 1 = .ok (.iload_n 1, 1) := by decide +kernel
theorem dX0_move_2 : decode cX0_move 2 = .ok (.invokevirtual 99, 3) := by decide +kernel
theorem dX0_move_5 : decode cX0_move 5 = .ok (.istore 4, 2) := by decide +kernel
theorem dX0_move_7 : decode cX0_move 7 = .ok (.iload 4, 2) := by decide +kernel
theorem dX0_move_9 : decode cX0_move 9 = .ok (.iconst 1, 1) := by decide +kernel
theorem dX0_move_10 : decode cX0_move 10 = .ok (.if_icmp .lt 9, 3) := by decide +kernel
theorem dX0_move_13 : decode cX0_move 13 = .ok (.iload 4, 2) := by decide +kernel
theorem dX0_move_15 : decode cX0_move 15 = .ok (.iload_n 3, 1) := by decide +kernel
theorem dX0_move_16 : decode cX0_move 16 = .ok (.if_icmp .ge 5, 3) := by decide +kernel
theorem dX0_move_19 : decode cX0_move 19 = .ok (.iconst 0, 1) := by decide +kernel
theorem dX0_move_20 : decode cX0_move 20 = .ok (.ireturn, 1) := by decide +kernel
theorem dX0_move_21 : decode cX0_move 21 = .ok (.iconst 0, 1) := by decide +kernel
theorem dX0_move_22 : decode cX0_move 22 = .ok (.istore 5, 2) := by decide +kernel
theorem dX0_move_24 : decode cX0_move 24 = .ok (.iconst 0, 1) := by decide +kernel
theorem dX0_move_25 : decode cX0_move 25 = .ok (.istore 6, 2) := by decide +kernel
theorem dX0_move_27 : decode cX0_move 27 = .ok (.iload 6, 2) := by decide +kernel
theorem dX0_move_29 : decode cX0_move 29 = .ok (.aload_n 0, 1) := by decide +kernel
theorem dX0_move_30 : decode cX0_move 30 = .ok (.getfield 68, 3) := by decide +kernel
theorem dX0_move_33 : decode cX0_move 33 = .ok (.if_icmp .ge 81, 3) := by decide +kernel
theorem dX0_move_36 : decode cX0_move 36 = .ok (.aload_n 0, 1) := by decide +kernel
theorem dX0_move_37 : decode cX0_move 37 = .ok (.getfield 19, 3) := by decide +kernel
theorem dX0_move_40 : decode cX0_move 40 = .ok (.iload_n 1, 1) := by decide +kernel
theorem dX0_move_41 : decode cX0_move 41 = .ok (.iload 6, 2) := by decide +kernel
theorem dX0_move_43 : decode cX0_move 43 = .ok (.invokestatic 84, 3) := by decide +kernel
theorem dX0_move_46 : decode cX0_move 46 = .ok (.iaload, 1) := by decide +kernel
theorem dX0_move_47 : decode cX0_move 47 = .ok (.istore 7, 2) := by decide +kernel
theorem dX0_move_49 : decode cX0_move 49 = .ok (.iload 5, 2) := by decide +kernel
theorem dX0_move_51 : decode cX0_move 51 = .ok (.iload 7, 2) := by decide +kernel
theorem dX0_move_53 : decode cX0_move 53 = .ok (.iadd, 1) := by decide +kernel
theorem dX0_move_54 : decode cX0_move 54 = .ok (.iload_n 3, 1) := by decide +kernel
theorem dX0_move_55 : decode cX0_move 55 = .ok (.imul, 1) := by decide +kernel
theorem dX0_move_56 : decode cX0_move 56 = .ok (.iload 4, 2) := by decide +kernel
theorem dX0_move_58 : decode cX0_move 58 = .ok (.idiv, 1) := by decide +kernel
theorem dX0_move_59 : decode cX0_move 59 = .ok (.iload 5, 2) := by decide +kernel
theorem dX0_move_61 : decode cX0_move 61 = .ok (.iload_n 3, 1) := by decide +kernel
theorem dX0_move_62 : decode cX0_move 62 = .ok (.imul, 1) := by decide +kernel
theorem dX0_move_63 : decode cX0_move 63 = .ok (.iload 4, 2) := by decide +kernel
theorem dX0_move_65 : decode cX0_move 65 = .ok (.idiv, 1) := by decide +kernel
theorem dX0_move_66 : decode cX0_move 66 = .ok (.isub, 1) := by decide +kernel
theorem dX0_move_67 : decode cX0_move 67 = .ok (.istore 8, 2) := by decide +kernel
theorem dX0_move_69 : decode cX0_move 69 = .ok (.aload_n 0, 1) := by decide +kernel
theorem dX0_move_70 : decode cX0_move 70 = .ok (.getfield 19, 3) := by decide +kernel
theorem dX0_move_73 : decode cX0_move 73 = .ok (.iload_n 1, 1) := by decide +kernel
theorem dX0_move_74 : decode cX0_move 74 = .ok (.iload 6, 2) := by decide +kernel
theorem dX0_move_76 : decode cX0_move 76 = .ok (.invokestatic 84, 3) := by decide +kernel
theorem dX0_move_79 : decode cX0_move 79 = .ok (.dup2, 1) := by decide +kernel
theorem dX0_move_80 : decode cX0_move 80 = .ok (.iaload, 1) := by decide +kernel
theorem dX0_move_81 : decode cX0_move 81 = .ok (.iload 8, 2) := by decide +kernel
theorem dX0_move_83 : decode cX0_move 83 = .ok (.isub, 1) := by decide +kernel
theorem dX0_move_84 : decode cX0_move 84 = .ok (.iastore, 1) := by decide +kernel
theorem dX0_move_85 : decode cX0_move 85 = .ok (.aload_n 0, 1) := by decide +kernel
theorem dX0_move_86 : decode cX0_move 86 = .ok (.getfield 19, 3) := by decide +kernel
theorem dX0_move_89 : decode cX0_move 89 = .ok (.iload_n 2, 1) := by decide +kernel
theorem dX0_move_90 : decode cX0_move 90 = .ok (.iload 6, 2) := by decide +kernel
theorem dX0_move_92 : decode cX0_move 92 = .ok (.invokestatic 84, 3) := by decide +kernel
theorem dX0_move_95 : decode cX0_move 95 = .ok (.dup2, 1) := by decide +kernel
theorem dX0_move_96 : decode cX0_move 96 = .ok (.iaload, 1) := by decide +kernel
theorem dX0_move_97 : decode cX0_move 97 = .ok (.iload 8, 2) := by decide +kernel
theorem dX0_move_99 : decode cX0_move 99 = .ok (.iadd, 1) := by decide +kernel
theorem dX0_move_100 : decode cX0_move 100 = .ok (.iastore, 1) := by decide +kernel
theorem dX0_move_101 : decode cX0_move 101 = .ok (.iload 5, 2) := by decide +kernel
theorem dX0_move_103 : decode cX0_move 103 = .ok (.iload 7, 2) := by decide +kernel
theorem dX0_move_105 : decode cX0_move 105 = .ok (.iadd, 1) := by decide +kernel
theorem dX0_move_106 : decode cX0_move 106 = .ok (.istore 5, 2) := by decide +kernel
theorem dX0_move_108 : decode cX0_move 108 = .ok (.iinc 6 1, 3) := by decide +kernel
theorem dX0_move_111 : decode cX0_move 111 = .ok (.goto (-84), 3) := by decide +kernel
theorem dX0_move_114 : decode cX0_move 114 = .ok (.iconst 1, 1) := by decide +kernel
theorem dX0_move_115 : decode cX0_move 115 = .ok (.ireturn, 1) := by decide +kernel
theorem dX0_waste_0 : decode cX0_waste 0 = .ok (.iconst 0, 1) := by decide +kernel
theorem dX0_waste_1 : decode cX0_waste 1 = .ok (.istore_n 2, 1) := by decide +kernel
theorem dX0_waste_2 : decode cX0_waste 2 = .ok (.iconst 0, 1) := by decide +kernel
theorem dX0_waste_3 : decode cX0_waste 3 = .ok (.istore_n 3, 1) := by decide +kernel
theorem dX0_waste_4 : decode cX0_waste 4 = .ok (.iload_n 3, 1) := by decide +kernel
theorem dX0_waste_5 : decode cX0_waste 5 = .ok (.aload_n 0, 1) := by decide +kernel
theorem dX0_waste_6 : decode cX0_waste 6 = .ok (.getfield 68, 3) := by decide +kernel
theorem dX0_waste_9 : decode cX0_waste 9 = .ok (.if_icmp .ge 53, 3) := by decide +kernel
theorem dX0_waste_12 : decode cX0_waste 12 = .ok (.aload_n 0, 1) := by decide +kernel
theorem dX0_waste_13 : decode cX0_waste 13 = .ok (.getfield 19, 3) := by decide +kernel
theorem dX0_waste_16 : decode cX0_waste 16 = .ok (.iload_n 1, 1) := by decide +kernel
theorem dX0_waste_17 : decode cX0_waste 17 = .ok (.iload_n 3, 1) := by decide +kernel
theorem dX0_waste_18 : decode cX0_waste 18 = .ok (.invokestatic 84, 3) := by decide +kernel
theorem dX0_waste_21 : decode cX0_waste 21 = .ok (.iaload, 1) := by decide +kernel
theorem dX0_waste_22 : decode cX0_waste 22 = .ok (.istore 4, 2) := by decide +kernel
theorem dX0_waste_24 : decode cX0_waste 24 = .ok (.aload_n 0, 1) := by decide +kernel
theorem dX0_waste_25 : decode cX0_waste 25 = .ok (.getfield 19, 3) := by decide +kernel
theorem dX0_waste_28 : decode cX0_waste 28 = .ok (.iload_n 1, 1) := by decide +kernel
theorem dX0_waste_29 : decode cX0_waste 29 = .ok (.iload_n 3, 1) := by decide +kernel
theorem dX0_waste_30 : decode cX0_waste 30 = .ok (.invokestatic 84, 3) := by decide +kernel
theorem dX0_waste_33 : decode cX0_waste 33 = .ok (.iconst 0, 1) := by decide +kernel
theorem dX0_waste_34 : decode cX0_waste 34 = .ok (.iastore, 1) := by decide +kernel
theorem dX0_waste_35 : decode cX0_waste 35 = .ok (.aload_n 0, 1) := by decide +kernel
theorem dX0_waste_36 : decode cX0_waste 36 = .ok (.getfield 19, 3) := by decide +kernel
theorem dX0_waste_39 : decode cX0_waste 39 = .ok (.bipush 106, 2) := by decide +kernel
theorem dX0_waste_41 : decode cX0_waste 41 = .ok (.iload_n 3, 1) := by decide +kernel
theorem dX0_waste_42 : decode cX0_waste 42 = .ok (.invokestatic 84, 3) := by decide +kernel
theorem dX0_waste_45 : decode cX0_waste 45 = .ok (.dup2, 1) := by decide +kernel
theorem dX0_waste_46 : decode cX0_waste 46 = .ok (.iaload, 1) := by decide +kernel
theorem dX0_waste_47 : decode cX0_waste 47 = .ok (.iload 4, 2) := by decide +kernel
theorem dX0_waste_49 : decode cX0_waste 49 = .ok (.iadd, 1) := by decide +kernel
theorem dX0_waste_50 : decode cX0_waste 50 = .ok (.iastore, 1) := by decide +kernel
theorem dX0_waste_51 : decode cX0_waste 51 = .ok (.iload_n 2, 1) := by decide +kernel
theorem dX0_waste_52 : decode cX0_waste 52 = .ok (.iload 4, 2) := by decide +kernel
theorem dX0_waste_54 : decode cX0_waste 54 = .ok (.iadd, 1) := by decide +kernel
theorem dX0_waste_55 : decode cX0_waste 55 = .ok (.istore_n 2, 1) := by decide +kernel
theorem dX0_waste_56 : decode cX0_waste 56 = .ok (.iinc 3 1, 3) := by decide +kernel
theorem dX0_waste_59 : decode cX0_waste 59 = .ok (.goto (-55), 3) := by decide +kernel
theorem dX0_waste_62 : decode cX0_waste 62 = .ok (.iload_n 2, 1) := by decide +kernel
theorem dX0_waste_63 : decode cX0_waste 63 = .ok (.ireturn, 1) := by decide +kernel
theorem dX0_colourOfTube_0 : decode cX0_colourOfTube 0 = .ok (.aload_n 0, 1) := by decide +kernel
theorem dX0_colourOfTube_1 : decode cX0_colourOfTube 1 = .ok (.getfield 9, 3) := by decide +kernel
theorem dX0_colourOfTube_4 : decode cX0_colourOfTube 4 = .ok (.aload_n 0, 1) := by decide +kernel
theorem dX0_colourOfTube_5 : decode cX0_colourOfTube 5 = .ok (.getfield 13, 3) := by decide +kernel
theorem dX0_colourOfTube_8 : decode cX0_colourOfTube 8 = .ok (.iload_n 1, 1) := by decide +kernel
theorem dX0_colourOfTube_9 : decode cX0_colourOfTube 9 = .ok (.iaload, 1) := by decide +kernel
theorem dX0_colourOfTube_10 : decode cX0_colourOfTube 10 = .ok (.iconst 3, 1) := by decide +kernel
theorem dX0_colourOfTube_11 : decode cX0_colourOfTube 11 = .ok (.imul, 1) := by decide +kernel
theorem dX0_colourOfTube_12 : decode cX0_colourOfTube 12 = .ok (.iload_n 2, 1) := by decide +kernel
theorem dX0_colourOfTube_13 : decode cX0_colourOfTube 13 = .ok (.iadd, 1) := by decide +kernel
theorem dX0_colourOfTube_14 : decode cX0_colourOfTube 14 = .ok (.iaload, 1) := by decide +kernel
theorem dX0_colourOfTube_15 : decode cX0_colourOfTube 15 = .ok (.ireturn, 1) := by decide +kernel
theorem dX0_colourOfRow_0 : decode cX0_colourOfRow 0 = .ok (.iconst 0, 1) := by decide +kernel
theorem dX0_colourOfRow_1 : decode cX0_colourOfRow 1 = .ok (.istore_n 3, 1) := by decide +kernel
theorem dX0_colourOfRow_2 : decode cX0_colourOfRow 2 = .ok (.iconst 0, 1) := by decide +kernel
theorem dX0_colourOfRow_3 : decode cX0_colourOfRow 3 = .ok (.istore 4, 2) := by decide +kernel
theorem dX0_colourOfRow_5 : decode cX0_colourOfRow 5 = .ok (.iconst 0, 1) := by decide +kernel
theorem dX0_colourOfRow_6 : decode cX0_colourOfRow 6 = .ok (.istore 5, 2) := by decide +kernel
theorem dX0_colourOfRow_8 : decode cX0_colourOfRow 8 = .ok (.iload 5, 2) := by decide +kernel
theorem dX0_colourOfRow_10 : decode cX0_colourOfRow 10 = .ok (.aload_n 0, 1) := by decide +kernel
theorem dX0_colourOfRow_11 : decode cX0_colourOfRow 11 = .ok (.getfield 68, 3) := by decide +kernel
theorem dX0_colourOfRow_14 : decode cX0_colourOfRow 14 = .ok (.if_icmp .ge 42, 3) := by decide +kernel
theorem dX0_colourOfRow_17 : decode cX0_colourOfRow 17 = .ok (.aload_n 0, 1) := by decide +kernel
theorem dX0_colourOfRow_18 : decode cX0_colourOfRow 18 = .ok (.getfield 19, 3) := by decide +kernel
theorem dX0_colourOfRow_21 : decode cX0_colourOfRow 21 = .ok (.iload_n 1, 1) := by decide +kernel
theorem dX0_colourOfRow_22 : decode cX0_colourOfRow 22 = .ok (.iload 5, 2) := by decide +kernel
theorem dX0_colourOfRow_24 : decode cX0_colourOfRow 24 = .ok (.invokestatic 84, 3) := by decide +kernel
theorem dX0_colourOfRow_27 : decode cX0_colourOfRow 27 = .ok (.iaload, 1) := by decide +kernel
theorem dX0_colourOfRow_28 : decode cX0_colourOfRow 28 = .ok (.istore 6, 2) := by decide +kernel
theorem dX0_colourOfRow_30 : decode cX0_colourOfRow 30 = .ok (.iload_n 3, 1) := by decide +kernel
theorem dX0_colourOfRow_31 : decode cX0_colourOfRow 31 = .ok (.iload 6, 2) := by decide +kernel
theorem dX0_colourOfRow_33 : decode cX0_colourOfRow 33 = .ok (.iadd, 1) := by decide +kernel
theorem dX0_colourOfRow_34 : decode cX0_colourOfRow 34 = .ok (.istore_n 3, 1) := by decide +kernel
theorem dX0_colourOfRow_35 : decode cX0_colourOfRow 35 = .ok (.iload 4, 2) := by decide +kernel
theorem dX0_colourOfRow_37 : decode cX0_colourOfRow 37 = .ok (.iload 6, 2) := by decide +kernel
theorem dX0_colourOfRow_39 : decode cX0_colourOfRow 39 = .ok (.aload_n 0, 1) := by decide +kernel
theorem dX0_colourOfRow_40 : decode cX0_colourOfRow 40 = .ok (.iload 5, 2) := by decide +kernel
theorem dX0_colourOfRow_42 : decode cX0_colourOfRow 42 = .ok (.iload_n 2, 1) := by decide +kernel
theorem dX0_colourOfRow_43 : decode cX0_colourOfRow 43 = .ok (.invokevirtual 170, 3) := by decide +kernel
theorem dX0_colourOfRow_46 : decode cX0_colourOfRow 46 = .ok (.imul, 1) := by decide +kernel
theorem dX0_colourOfRow_47 : decode cX0_colourOfRow 47 = .ok (.iadd, 1) := by decide +kernel
theorem dX0_colourOfRow_48 : decode cX0_colourOfRow 48 = .ok (.istore 4, 2) := by decide +kernel
theorem dX0_colourOfRow_50 : decode cX0_colourOfRow 50 = .ok (.iinc 5 1, 3) := by decide +kernel
theorem dX0_colourOfRow_53 : decode cX0_colourOfRow 53 = .ok (.goto (-45), 3) := by decide +kernel
theorem dX0_colourOfRow_56 : decode cX0_colourOfRow 56 = .ok (.iload_n 3, 1) := by decide +kernel
theorem dX0_colourOfRow_57 : decode cX0_colourOfRow 57 = .ok (.ifCond .ne 7, 3) := by decide +kernel
theorem dX0_colourOfRow_60 : decode cX0_colourOfRow 60 = .ok (.iconst (-1), 1) := by decide +kernel
theorem dX0_colourOfRow_61 : decode cX0_colourOfRow 61 = .ok (.goto 7, 3) := by decide +kernel
theorem dX0_colourOfRow_64 : decode cX0_colourOfRow 64 = .ok (.iload 4, 2) := by decide +kernel
theorem dX0_colourOfRow_66 : decode cX0_colourOfRow 66 = .ok (.iload_n 3, 1) := by decide +kernel
theorem dX0_colourOfRow_67 : decode cX0_colourOfRow 67 = .ok (.idiv, 1) := by decide +kernel
theorem dX0_colourOfRow_68 : decode cX0_colourOfRow 68 = .ok (.ireturn, 1) := by decide +kernel
theorem dX0_gramsOfPigment_0 : decode cX0_gramsOfPigment 0 = .ok (.iconst 0, 1) := by decide +kernel
theorem dX0_gramsOfPigment_1 : decode cX0_gramsOfPigment 1 = .ok (.istore_n 3, 1) := by decide +kernel
theorem dX0_gramsOfPigment_2 : decode cX0_gramsOfPigment 2 = .ok (.iconst 0, 1) := by decide +kernel
theorem dX0_gramsOfPigment_3 : decode cX0_gramsOfPigment 3 = .ok (.istore 4, 2) := by decide +kernel
theorem dX0_gramsOfPigment_5 : decode cX0_gramsOfPigment 5 = .ok (.iload 4, 2) := by decide +kernel
theorem dX0_gramsOfPigment_7 : decode cX0_gramsOfPigment 7 = .ok (.aload_n 0, 1) := by decide +kernel
theorem dX0_gramsOfPigment_8 : decode cX0_gramsOfPigment 8 = .ok (.getfield 68, 3) := by decide +kernel
theorem dX0_gramsOfPigment_11 : decode cX0_gramsOfPigment 11 = .ok (.if_icmp .ge 34, 3) := by decide +kernel
theorem dX0_gramsOfPigment_14 : decode cX0_gramsOfPigment 14 = .ok (.aload_n 0, 1) := by decide +kernel
theorem dX0_gramsOfPigment_15 : decode cX0_gramsOfPigment 15 = .ok (.getfield 13, 3) := by decide +kernel
theorem dX0_gramsOfPigment_18 : decode cX0_gramsOfPigment 18 = .ok (.iload 4, 2) := by decide +kernel
theorem dX0_gramsOfPigment_20 : decode cX0_gramsOfPigment 20 = .ok (.iaload, 1) := by decide +kernel
theorem dX0_gramsOfPigment_21 : decode cX0_gramsOfPigment 21 = .ok (.iload_n 2, 1) := by decide +kernel
theorem dX0_gramsOfPigment_22 : decode cX0_gramsOfPigment 22 = .ok (.if_icmp .ne 17, 3) := by decide +kernel
theorem dX0_gramsOfPigment_25 : decode cX0_gramsOfPigment 25 = .ok (.iload_n 3, 1) := by decide +kernel
theorem dX0_gramsOfPigment_26 : decode cX0_gramsOfPigment 26 = .ok (.aload_n 0, 1) := by decide +kernel
theorem dX0_gramsOfPigment_27 : decode cX0_gramsOfPigment 27 = .ok (.getfield 19, 3) := by decide +kernel
theorem dX0_gramsOfPigment_30 : decode cX0_gramsOfPigment 30 = .ok (.iload_n 1, 1) := by decide +kernel
theorem dX0_gramsOfPigment_31 : decode cX0_gramsOfPigment 31 = .ok (.iload 4, 2) := by decide +kernel
theorem dX0_gramsOfPigment_33 : decode cX0_gramsOfPigment 33 = .ok (.invokestatic 84, 3) := by decide +kernel
theorem dX0_gramsOfPigment_36 : decode cX0_gramsOfPigment 36 = .ok (.iaload, 1) := by decide +kernel
theorem dX0_gramsOfPigment_37 : decode cX0_gramsOfPigment 37 = .ok (.iadd, 1) := by decide +kernel
theorem dX0_gramsOfPigment_38 : decode cX0_gramsOfPigment 38 = .ok (.istore_n 3, 1) := by decide +kernel
theorem dX0_gramsOfPigment_39 : decode cX0_gramsOfPigment 39 = .ok (.iinc 4 1, 3) := by decide +kernel
theorem dX0_gramsOfPigment_42 : decode cX0_gramsOfPigment 42 = .ok (.goto (-37), 3) := by decide +kernel
theorem dX0_gramsOfPigment_45 : decode cX0_gramsOfPigment 45 = .ok (.iload_n 3, 1) := by decide +kernel
theorem dX0_gramsOfPigment_46 : decode cX0_gramsOfPigment 46 = .ok (.ireturn, 1) := by decide +kernel
theorem dX0_mainPigmentOfRow_0 : decode cX0_mainPigmentOfRow 0 = .ok (.iconst (-1), 1) := by decide +kernel
theorem dX0_mainPigmentOfRow_1 : decode cX0_mainPigmentOfRow 1 = .ok (.istore_n 2, 1) := by decide +kernel
theorem dX0_mainPigmentOfRow_2 : decode cX0_mainPigmentOfRow 2 = .ok (.iconst 0, 1) := by decide +kernel
theorem dX0_mainPigmentOfRow_3 : decode cX0_mainPigmentOfRow 3 = .ok (.istore_n 3, 1) := by decide +kernel
theorem dX0_mainPigmentOfRow_4 : decode cX0_mainPigmentOfRow 4 = .ok (.iconst 0, 1) := by decide +kernel
theorem dX0_mainPigmentOfRow_5 : decode cX0_mainPigmentOfRow 5 = .ok (.istore 4, 2) := by decide +kernel
theorem dX0_mainPigmentOfRow_7 : decode cX0_mainPigmentOfRow 7 = .ok (.iload 4, 2) := by decide +kernel
theorem dX0_mainPigmentOfRow_9 : decode cX0_mainPigmentOfRow 9 = .ok (.aload_n 0, 1) := by decide +kernel
theorem dX0_mainPigmentOfRow_10 : decode cX0_mainPigmentOfRow 10 = .ok (.getfield 50, 3) := by decide +kernel
theorem dX0_mainPigmentOfRow_13 : decode cX0_mainPigmentOfRow 13 = .ok (.if_icmp .ge 30, 3) := by decide +kernel
theorem dX0_mainPigmentOfRow_16 : decode cX0_mainPigmentOfRow 16 = .ok (.aload_n 0, 1) := by decide +kernel
theorem dX0_mainPigmentOfRow_17 : decode cX0_mainPigmentOfRow 17 = .ok (.iload_n 1, 1) := by decide +kernel
theorem dX0_mainPigmentOfRow_18 : decode cX0_mainPigmentOfRow 18 = .ok (.iload 4, 2) := by decide +kernel
theorem dX0_mainPigmentOfRow_20 : decode cX0_mainPigmentOfRow 20 = .ok (.invokevirtual 173, 3) := by decide +kernel
theorem dX0_mainPigmentOfRow_23 : decode cX0_mainPigmentOfRow 23 = .ok (.istore 5, 2) := by decide +kernel
theorem dX0_mainPigmentOfRow_25 : decode cX0_mainPigmentOfRow 25 = .ok (.iload 5, 2) := by decide +kernel
theorem dX0_mainPigmentOfRow_27 : decode cX0_mainPigmentOfRow 27 = .ok (.iload_n 3, 1) := by decide +kernel
theorem dX0_mainPigmentOfRow_28 : decode cX0_mainPigmentOfRow 28 = .ok (.if_icmp .le 9, 3) := by decide +kernel
theorem dX0_mainPigmentOfRow_31 : decode cX0_mainPigmentOfRow 31 = .ok (.iload 4, 2) := by decide +kernel
theorem dX0_mainPigmentOfRow_33 : decode cX0_mainPigmentOfRow 33 = .ok (.istore_n 2, 1) := by decide +kernel
theorem dX0_mainPigmentOfRow_34 : decode cX0_mainPigmentOfRow 34 = .ok (.iload 5, 2) := by decide +kernel
theorem dX0_mainPigmentOfRow_36 : decode cX0_mainPigmentOfRow 36 = .ok (.istore_n 3, 1) := by decide +kernel
theorem dX0_mainPigmentOfRow_37 : decode cX0_mainPigmentOfRow 37 = .ok (.iinc 4 1, 3) := by decide +kernel
theorem dX0_mainPigmentOfRow_40 : decode cX0_mainPigmentOfRow 40 = .ok (.goto (-33), 3) := by decide +kernel
theorem dX0_mainPigmentOfRow_43 : decode cX0_mainPigmentOfRow 43 = .ok (.iload_n 2, 1) := by decide +kernel
theorem dX0_mainPigmentOfRow_44 : decode cX0_mainPigmentOfRow 44 = .ok (.ireturn, 1) := by decide +kernel
theorem dX0_mixed_0 : decode cX0_mixed 0 = .ok (.iload_n 3, 1) := by decide +kernel
theorem dX0_mixed_1 : decode cX0_mixed 1 = .ok (.aload_n 0, 1) := by decide +kernel
theorem dX0_mixed_2 : decode cX0_mixed 2 = .ok (.iload_n 1, 1) := by decide +kernel
theorem dX0_mixed_3 : decode cX0_mixed 3 = .ok (.iload 4, 2) := by decide +kernel
theorem dX0_mixed_5 : decode cX0_mixed 5 = .ok (.invokevirtual 170, 3) := by decide +kernel
theorem dX0_mixed_8 : decode cX0_mixed 8 = .ok (.imul, 1) := by decide +kernel
theorem dX0_mixed_9 : decode cX0_mixed 9 = .ok (.iconst 4, 1) := by decide +kernel
theorem dX0_mixed_10 : decode cX0_mixed 10 = .ok (.iload_n 3, 1) := by decide +kernel
theorem dX0_mixed_11 : decode cX0_mixed 11 = .ok (.isub, 1) := by decide +kernel
theorem dX0_mixed_12 : decode cX0_mixed 12 = .ok (.aload_n 0, 1) := by decide +kernel
theorem dX0_mixed_13 : decode cX0_mixed 13 = .ok (.iload_n 2, 1) := by decide +kernel
theorem dX0_mixed_14 : decode cX0_mixed 14 = .ok (.iload 4, 2) := by decide +kernel
theorem dX0_mixed_16 : decode cX0_mixed 16 = .ok (.invokevirtual 170, 3) := by decide +kernel
theorem dX0_mixed_19 : decode cX0_mixed 19 = .ok (.imul, 1) := by decide +kernel
theorem dX0_mixed_20 : decode cX0_mixed 20 = .ok (.iadd, 1) := by decide +kernel
theorem dX0_mixed_21 : decode cX0_mixed 21 = .ok (.iconst 4, 1) := by decide +kernel
theorem dX0_mixed_22 : decode cX0_mixed 22 = .ok (.idiv, 1) := by decide +kernel
theorem dX0_mixed_23 : decode cX0_mixed 23 = .ok (.ireturn, 1) := by decide +kernel
theorem dX0_square_0 : decode cX0_square 0 = .ok (.iload_n 0, 1) := by decide +kernel
theorem dX0_square_1 : decode cX0_square 1 = .ok (.iload_n 0, 1) := by decide +kernel
theorem dX0_square_2 : decode cX0_square 2 = .ok (.imul, 1) := by decide +kernel
theorem dX0_square_3 : decode cX0_square 3 = .ok (.ireturn, 1) := by decide +kernel
theorem dX0_isLent_0 : decode cX0_isLent 0 = .ok (.aload_n 0, 1) := by decide +kernel
theorem dX0_isLent_1 : decode cX0_isLent 1 = .ok (.getfield 31, 3) := by decide +kernel
theorem dX0_isLent_4 : decode cX0_isLent 4 = .ok (.iload_n 1, 1) := by decide +kernel
theorem dX0_isLent_5 : decode cX0_isLent 5 = .ok (.iaload, 1) := by decide +kernel
theorem dX0_isLent_6 : decode cX0_isLent 6 = .ok (.ifCond .le 7, 3) := by decide +kernel
theorem dX0_isLent_9 : decode cX0_isLent 9 = .ok (.iconst 1, 1) := by decide +kernel
theorem dX0_isLent_10 : decode cX0_isLent 10 = .ok (.goto 4, 3) := by decide +kernel
theorem dX0_isLent_13 : decode cX0_isLent 13 = .ok (.iconst 0, 1) := by decide +kernel
theorem dX0_isLent_14 : decode cX0_isLent 14 = .ok (.ireturn, 1) := by decide +kernel
theorem dX0_mainPigmentOf_0 : decode cX0_mainPigmentOf 0 = .ok (.aload_n 0, 1) := by decide +kernel
theorem dX0_mainPigmentOf_1 : decode cX0_mainPigmentOf 1 = .ok (.getfield 22, 3) := by decide +kernel
theorem dX0_mainPigmentOf_4 : decode cX0_mainPigmentOf 4 = .ok (.iload_n 1, 1) := by decide +kernel
theorem dX0_mainPigmentOf_5 : decode cX0_mainPigmentOf 5 = .ok (.iaload, 1) := by decide +kernel
theorem dX0_mainPigmentOf_6 : decode cX0_mainPigmentOf 6 = .ok (.istore_n 2, 1) := by decide +kernel
theorem dX0_mainPigmentOf_7 : decode cX0_mainPigmentOf 7 = .ok (.iload_n 2, 1) := by decide +kernel
theorem dX0_mainPigmentOf_8 : decode cX0_mainPigmentOf 8 = .ok (.ifCond .ne 7, 3) := by decide +kernel
theorem dX0_mainPigmentOf_11 : decode cX0_mainPigmentOf 11 = .ok (.iconst (-1), 1) := by decide +kernel
theorem dX0_mainPigmentOf_12 : decode cX0_mainPigmentOf 12 = .ok (.goto 14, 3) := by decide +kernel
theorem dX0_mainPigmentOf_15 : decode cX0_mainPigmentOf 15 = .ok (.aload_n 0, 1) := by decide +kernel
theorem dX0_mainPigmentOf_16 : decode cX0_mainPigmentOf 16 = .ok (.iload_n 1, 1) := by decide +kernel
theorem dX0_mainPigmentOf_17 : decode cX0_mainPigmentOf 17 = .ok (.iload_n 2, 1) := by decide +kernel
theorem dX0_mainPigmentOf_18 : decode cX0_mainPigmentOf 18 = .ok (.iconst 1, 1) := by decide +kernel
theorem dX0_mainPigmentOf_19 : decode cX0_mainPigmentOf 19 = .ok (.isub, 1) := by decide +kernel
theorem dX0_mainPigmentOf_20 : decode cX0_mainPigmentOf 20 = .ok (.invokestatic 116, 3) := by decide +kernel
theorem dX0_mainPigmentOf_23 : decode cX0_mainPigmentOf 23 = .ok (.invokevirtual 176, 3) := by decide +kernel
theorem dX0_mainPigmentOf_26 : decode cX0_mainPigmentOf 26 = .ok (.ireturn, 1) := by decide +kernel
theorem dX0_lookOf_0 : decode cX0_lookOf 0 = .ok (.aload_n 0, 1) := by decide +kernel
theorem dX0_lookOf_1 : decode cX0_lookOf 1 = .ok (.getfield 22, 3) := by decide +kernel
theorem dX0_lookOf_4 : decode cX0_lookOf 4 = .ok (.iload_n 1, 1) := by decide +kernel
theorem dX0_lookOf_5 : decode cX0_lookOf 5 = .ok (.iaload, 1) := by decide +kernel
theorem dX0_lookOf_6 : decode cX0_lookOf 6 = .ok (.istore_n 3, 1) := by decide +kernel
theorem dX0_lookOf_7 : decode cX0_lookOf 7 = .ok (.iload_n 3, 1) := by decide +kernel
theorem dX0_lookOf_8 : decode cX0_lookOf 8 = .ok (.ifCond .ne 7, 3) := by decide +kernel
theorem dX0_lookOf_11 : decode cX0_lookOf 11 = .ok (.iconst (-1), 1) := by decide +kernel
theorem dX0_lookOf_12 : decode cX0_lookOf 12 = .ok (.goto 15, 3) := by decide +kernel
theorem dX0_lookOf_15 : decode cX0_lookOf 15 = .ok (.aload_n 0, 1) := by decide +kernel
theorem dX0_lookOf_16 : decode cX0_lookOf 16 = .ok (.iload_n 1, 1) := by decide +kernel
theorem dX0_lookOf_17 : decode cX0_lookOf 17 = .ok (.iload_n 3, 1) := by decide +kernel
theorem dX0_lookOf_18 : decode cX0_lookOf 18 = .ok (.iconst 1, 1) := by decide +kernel
theorem dX0_lookOf_19 : decode cX0_lookOf 19 = .ok (.isub, 1) := by decide +kernel
theorem dX0_lookOf_20 : decode cX0_lookOf 20 = .ok (.invokestatic 116, 3) := by decide +kernel
theorem dX0_lookOf_23 : decode cX0_lookOf 23 = .ok (.iload_n 2, 1) := by decide +kernel
theorem dX0_lookOf_24 : decode cX0_lookOf 24 = .ok (.invokevirtual 137, 3) := by decide +kernel
theorem dX0_lookOf_27 : decode cX0_lookOf 27 = .ok (.ireturn, 1) := by decide +kernel
theorem dX0_valueOf_0 : decode cX0_valueOf 0 = .ok (.aload_n 0, 1) := by decide +kernel
theorem dX0_valueOf_1 : decode cX0_valueOf 1 = .ok (.iload_n 1, 1) := by decide +kernel
theorem dX0_valueOf_2 : decode cX0_valueOf 2 = .ok (.invokevirtual 179, 3) := by decide +kernel
theorem dX0_valueOf_5 : decode cX0_valueOf 5 = .ok (.istore_n 2, 1) := by decide +kernel
theorem dX0_valueOf_6 : decode cX0_valueOf 6 = .ok (.iconst 0, 1) := by decide +kernel
theorem dX0_valueOf_7 : decode cX0_valueOf 7 = .ok (.iload_n 2, 1) := by decide +kernel
theorem dX0_valueOf_8 : decode cX0_valueOf 8 = .ok (.aload_n 0, 1) := by decide +kernel
theorem dX0_valueOf_9 : decode cX0_valueOf 9 = .ok (.getfield 25, 3) := by decide +kernel
theorem dX0_valueOf_12 : decode cX0_valueOf 12 = .ok (.iload_n 1, 1) := by decide +kernel
theorem dX0_valueOf_13 : decode cX0_valueOf 13 = .ok (.iaload, 1) := by decide +kernel
theorem dX0_valueOf_14 : decode cX0_valueOf 14 = .ok (.iload_n 2, 1) := by decide +kernel
theorem dX0_valueOf_15 : decode cX0_valueOf 15 = .ok (.bipush 20, 2) := by decide +kernel
theorem dX0_valueOf_17 : decode cX0_valueOf 17 = .ok (.idiv, 1) := by decide +kernel
theorem dX0_valueOf_18 : decode cX0_valueOf 18 = .ok (.imul, 1) := by decide +kernel
theorem dX0_valueOf_19 : decode cX0_valueOf 19 = .ok (.isub, 1) := by decide +kernel
theorem dX0_valueOf_20 : decode cX0_valueOf 20 = .ok (.invokestatic 182, 3) := by decide +kernel
theorem dX0_valueOf_23 : decode cX0_valueOf 23 = .ok (.ireturn, 1) := by decide +kernel
theorem dX0_averagePriceOfAlike_0 : decode cX0_averagePriceOfAlike 0 = .ok (.aload_n 0, 1) := by decide +kernel
theorem dX0_averagePriceOfAlike_1 : decode cX0_averagePriceOfAlike 1 = .ok (.iload_n 1, 1) := by decide +kernel
theorem dX0_averagePriceOfAlike_2 : decode cX0_averagePriceOfAlike 2 = .ok (.invokevirtual 140, 3) := by decide +kernel
theorem dX0_averagePriceOfAlike_5 : decode cX0_averagePriceOfAlike 5 = .ok (.istore_n 2, 1) := by decide +kernel
theorem dX0_averagePriceOfAlike_6 : decode cX0_averagePriceOfAlike 6 = .ok (.iload_n 2, 1) := by decide +kernel
theorem dX0_averagePriceOfAlike_7 : decode cX0_averagePriceOfAlike 7 = .ok (.iconst (-1), 1) := by decide +kernel
theorem dX0_averagePriceOfAlike_8 : decode cX0_averagePriceOfAlike 8 = .ok (.if_icmp .ne 5, 3) := by decide +kernel
theorem dX0_averagePriceOfAlike_11 : decode cX0_averagePriceOfAlike 11 = .ok (.iconst 0, 1) := by decide +kernel
theorem dX0_averagePriceOfAlike_12 : decode cX0_averagePriceOfAlike 12 = .ok (.ireturn, 1) := by decide +kernel
theorem dX0_averagePriceOfAlike_13 : decode cX0_averagePriceOfAlike 13 = .ok (.iconst 0, 1) := by decide +kernel
theorem dX0_averagePriceOfAlike_14 : decode cX0_averagePriceOfAlike 14 = .ok (.istore_n 3, 1) := by decide +kernel
theorem dX0_averagePriceOfAlike_15 : decode cX0_averagePriceOfAlike 15 = .ok (.iconst 0, 1) := by decide +kernel
theorem dX0_averagePriceOfAlike_16 : decode cX0_averagePriceOfAlike 16 = .ok (.istore 4, 2) := by decide +kernel
theorem dX0_averagePriceOfAlike_18 : decode cX0_averagePriceOfAlike 18 = .ok (.iconst 0, 1) := by decide +kernel
theorem dX0_averagePriceOfAlike_19 : decode cX0_averagePriceOfAlike 19 = .ok (.istore 5, 2) := by decide +kernel
theorem dX0_averagePriceOfAlike_21 : decode cX0_averagePriceOfAlike 21 = .ok (.iload 5, 2) := by decide +kernel
theorem dX0_averagePriceOfAlike_23 : decode cX0_averagePriceOfAlike 23 = .ok (.aload_n 0, 1) := by decide +kernel
theorem dX0_averagePriceOfAlike_24 : decode cX0_averagePriceOfAlike 24 = .ok (.getfield 105, 3) := by decide +kernel
theorem dX0_averagePriceOfAlike_27 : decode cX0_averagePriceOfAlike 27 = .ok (.if_icmp .ge 42, 3) := by decide +kernel
theorem dX0_averagePriceOfAlike_30 : decode cX0_averagePriceOfAlike 30 = .ok (.aload_n 0, 1) := by decide +kernel
theorem dX0_averagePriceOfAlike_31 : decode cX0_averagePriceOfAlike 31 = .ok (.getfield 28, 3) := by decide +kernel
theorem dX0_averagePriceOfAlike_34 : decode cX0_averagePriceOfAlike 34 = .ok (.iload 5, 2) := by decide +kernel
theorem dX0_averagePriceOfAlike_36 : decode cX0_averagePriceOfAlike 36 = .ok (.iaload, 1) := by decide +kernel
theorem dX0_averagePriceOfAlike_37 : decode cX0_averagePriceOfAlike 37 = .ok (.ifCond .le 26, 3) := by decide +kernel
theorem dX0_averagePriceOfAlike_40 : decode cX0_averagePriceOfAlike 40 = .ok (.aload_n 0, 1) := by decide +kernel
theorem dX0_averagePriceOfAlike_41 : decode cX0_averagePriceOfAlike 41 = .ok (.iload 5, 2) := by decide +kernel
theorem dX0_averagePriceOfAlike_43 : decode cX0_averagePriceOfAlike 43 = .ok (.invokevirtual 140, 3) := by decide +kernel
theorem dX0_averagePriceOfAlike_46 : decode cX0_averagePriceOfAlike 46 = .ok (.iload_n 2, 1) := by decide +kernel
theorem dX0_averagePriceOfAlike_47 : decode cX0_averagePriceOfAlike 47 = .ok (.if_icmp .ne 16, 3) := by decide +kernel
theorem dX0_averagePriceOfAlike_50 : decode cX0_averagePriceOfAlike 50 = .ok (.iload_n 3, 1) := by decide +kernel
theorem dX0_averagePriceOfAlike_51 : decode cX0_averagePriceOfAlike 51 = .ok (.aload_n 0, 1) := by decide +kernel
theorem dX0_averagePriceOfAlike_52 : decode cX0_averagePriceOfAlike 52 = .ok (.getfield 28, 3) := by decide +kernel
theorem dX0_averagePriceOfAlike_55 : decode cX0_averagePriceOfAlike 55 = .ok (.iload 5, 2) := by decide +kernel
theorem dX0_averagePriceOfAlike_57 : decode cX0_averagePriceOfAlike 57 = .ok (.iaload, 1) := by decide +kernel
theorem dX0_averagePriceOfAlike_58 : decode cX0_averagePriceOfAlike 58 = .ok (.iadd, 1) := by decide +kernel
theorem dX0_averagePriceOfAlike_59 : decode cX0_averagePriceOfAlike 59 = .ok (.istore_n 3, 1) := by decide +kernel
theorem dX0_averagePriceOfAlike_60 : decode cX0_averagePriceOfAlike 60 = .ok (.iinc 4 1, 3) := by decide +kernel
theorem dX0_averagePriceOfAlike_63 : decode cX0_averagePriceOfAlike 63 = .ok (.iinc 5 1, 3) := by decide +kernel
theorem dX0_averagePriceOfAlike_66 : decode cX0_averagePriceOfAlike 66 = .ok (.goto (-45), 3) := by decide +kernel
theorem dX0_averagePriceOfAlike_69 : decode cX0_averagePriceOfAlike 69 = .ok (.iload 4, 2) := by decide +kernel
theorem dX0_averagePriceOfAlike_71 : decode cX0_averagePriceOfAlike 71 = .ok (.ifCond .ne 7, 3) := by decide +kernel
theorem dX0_averagePriceOfAlike_74 : decode cX0_averagePriceOfAlike 74 = .ok (.iconst 0, 1) := by decide +kernel
theorem dX0_averagePriceOfAlike_75 : decode cX0_averagePriceOfAlike 75 = .ok (.goto 7, 3) := by decide +kernel
theorem dX0_averagePriceOfAlike_78 : decode cX0_averagePriceOfAlike 78 = .ok (.iload_n 3, 1) := by decide +kernel
theorem dX0_averagePriceOfAlike_79 : decode cX0_averagePriceOfAlike 79 = .ok (.iload 4, 2) := by decide +kernel
theorem dX0_averagePriceOfAlike_81 : decode cX0_averagePriceOfAlike 81 = .ok (.idiv, 1) := by decide +kernel
theorem dX0_averagePriceOfAlike_82 : decode cX0_averagePriceOfAlike 82 = .ok (.ireturn, 1) := by decide +kernel
theorem dX0_passForLoan_0 : decode cX0_passForLoan 0 = .ok (.iload_n 2, 1) := by decide +kernel
theorem dX0_passForLoan_1 : decode cX0_passForLoan 1 = .ok (.aload_n 0, 1) := by decide +kernel
theorem dX0_passForLoan_2 : decode cX0_passForLoan 2 = .ok (.getfield 31, 3) := by decide +kernel
theorem dX0_passForLoan_5 : decode cX0_passForLoan 5 = .ok (.iload_n 1, 1) := by decide +kernel
theorem dX0_passForLoan_6 : decode cX0_passForLoan 6 = .ok (.iaload, 1) := by decide +kernel
theorem dX0_passForLoan_7 : decode cX0_passForLoan 7 = .ok (.invokestatic 187, 3) := by decide +kernel
theorem dX0_passForLoan_10 : decode cX0_passForLoan 10 = .ok (.istore_n 3, 1) := by decide +kernel
theorem dX0_passForLoan_11 : decode cX0_passForLoan 11 = .ok (.aload_n 0, 1) := by decide +kernel
theorem dX0_passForLoan_12 : decode cX0_passForLoan 12 = .ok (.getfield 34, 3) := by decide +kernel
theorem dX0_passForLoan_15 : decode cX0_passForLoan 15 = .ok (.iload_n 1, 1) := by decide +kernel
theorem dX0_passForLoan_16 : decode cX0_passForLoan 16 = .ok (.iaload, 1) := by decide +kernel
theorem dX0_passForLoan_17 : decode cX0_passForLoan 17 = .ok (.istore 4, 2) := by decide +kernel
theorem dX0_passForLoan_19 : decode cX0_passForLoan 19 = .ok (.aload_n 0, 1) := by decide +kernel
theorem dX0_passForLoan_20 : decode cX0_passForLoan 20 = .ok (.getfield 40, 3) := by decide +kernel
theorem dX0_passForLoan_23 : decode cX0_passForLoan 23 = .ok (.iload 4, 2) := by decide +kernel
theorem dX0_passForLoan_25 : decode cX0_passForLoan 25 = .ok (.iaload, 1) := by decide +kernel
theorem dX0_passForLoan_26 : decode cX0_passForLoan 26 = .ok (.bipush 50, 2) := by decide +kernel
theorem dX0_passForLoan_28 : decode cX0_passForLoan 28 = .ok (.isub, 1) := by decide +kernel
theorem dX0_passForLoan_29 : decode cX0_passForLoan 29 = .ok (.invokestatic 190, 3) := by decide +kernel
theorem dX0_passForLoan_32 : decode cX0_passForLoan 32 = .ok (.bipush 10, 2) := by decide +kernel
theorem dX0_passForLoan_34 : decode cX0_passForLoan 34 = .ok (.if_icmp .le 13, 3) := by decide +kernel
theorem dX0_passForLoan_37 : decode cX0_passForLoan 37 = .ok (.aload_n 0, 1) := by decide +kernel
theorem dX0_passForLoan_38 : decode cX0_passForLoan 38 = .ok (.getfield 25, 3) := by decide +kernel
theorem dX0_passForLoan_41 : decode cX0_passForLoan 41 = .ok (.iload_n 1, 1) := by decide +kernel
theorem dX0_passForLoan_42 : decode cX0_passForLoan 42 = .ok (.dup2, 1) := by decide +kernel
theorem dX0_passForLoan_43 : decode cX0_passForLoan 43 = .ok (.iaload, 1) := by decide +kernel
theorem dX0_passForLoan_44 : decode cX0_passForLoan 44 = .ok (.iload_n 3, 1) := by decide +kernel
theorem dX0_passForLoan_45 : decode cX0_passForLoan 45 = .ok (.iadd, 1) := by decide +kernel
theorem dX0_passForLoan_46 : decode cX0_passForLoan 46 = .ok (.iastore, 1) := by decide +kernel
theorem dX0_passForLoan_47 : decode cX0_passForLoan 47 = .ok (.aload_n 0, 1) := by decide +kernel
theorem dX0_passForLoan_48 : decode cX0_passForLoan 48 = .ok (.getfield 43, 3) := by decide +kernel
theorem dX0_passForLoan_51 : decode cX0_passForLoan 51 = .ok (.iload 4, 2) := by decide +kernel
theorem dX0_passForLoan_53 : decode cX0_passForLoan 53 = .ok (.dup2, 1) := by decide +kernel
theorem dX0_passForLoan_54 : decode cX0_passForLoan 54 = .ok (.iaload, 1) := by decide +kernel
theorem dX0_passForLoan_55 : decode cX0_passForLoan 55 = .ok (.iload_n 3, 1) := by decide +kernel
theorem dX0_passForLoan_56 : decode cX0_passForLoan 56 = .ok (.aload_n 0, 1) := by decide +kernel
theorem dX0_passForLoan_57 : decode cX0_passForLoan 57 = .ok (.getfield 37, 3) := by decide +kernel
theorem dX0_passForLoan_60 : decode cX0_passForLoan 60 = .ok (.iload_n 1, 1) := by decide +kernel
theorem dX0_passForLoan_61 : decode cX0_passForLoan 61 = .ok (.iaload, 1) := by decide +kernel
theorem dX0_passForLoan_62 : decode cX0_passForLoan 62 = .ok (.imul, 1) := by decide +kernel
theorem dX0_passForLoan_63 : decode cX0_passForLoan 63 = .ok (.iadd, 1) := by decide +kernel
theorem dX0_passForLoan_64 : decode cX0_passForLoan 64 = .ok (.iastore, 1) := by decide +kernel
theorem dX0_passForLoan_65 : decode cX0_passForLoan 65 = .ok (.aload_n 0, 1) := by decide +kernel
theorem dX0_passForLoan_66 : decode cX0_passForLoan 66 = .ok (.getfield 31, 3) := by decide +kernel
theorem dX0_passForLoan_69 : decode cX0_passForLoan 69 = .ok (.iload_n 1, 1) := by decide +kernel
theorem dX0_passForLoan_70 : decode cX0_passForLoan 70 = .ok (.dup2, 1) := by decide +kernel
theorem dX0_passForLoan_71 : decode cX0_passForLoan 71 = .ok (.iaload, 1) := by decide +kernel
theorem dX0_passForLoan_72 : decode cX0_passForLoan 72 = .ok (.iload_n 3, 1) := by decide +kernel
theorem dX0_passForLoan_73 : decode cX0_passForLoan 73 = .ok (.isub, 1) := by decide +kernel
theorem dX0_passForLoan_74 : decode cX0_passForLoan 74 = .ok (.iastore, 1) := by decide +kernel
theorem dX0_passForLoan_75 : decode cX0_passForLoan 75 = .ok (.return_, 1) := by decide +kernel
theorem dJ9_abs_0f7a4_0 : decode cJ9_abs_0f7a4 0 = .ok (.iload_n 0, 1) := by decide +kernel
theorem dJ9_abs_0f7a4_1 : decode cJ9_abs_0f7a4 1 = .ok (.ifCond .ge 8, 3) := by decide +kernel
theorem dJ9_abs_0f7a4_4 : decode cJ9_abs_0f7a4 4 = .ok (.iload_n 0, 1) := by decide +kernel
theorem dJ9_abs_0f7a4_5 : decode cJ9_abs_0f7a4 5 = .ok (.ineg, 1) := by decide +kernel
theorem dJ9_abs_0f7a4_6 : decode cJ9_abs_0f7a4 6 = .ok (.goto 4, 3) := by decide +kernel
theorem dJ9_abs_0f7a4_9 : decode cJ9_abs_0f7a4 9 = .ok (.iload_n 0, 1) := by decide +kernel
theorem dJ9_abs_0f7a4_10 : decode cJ9_abs_0f7a4 10 = .ok (.ireturn, 1) := by decide +kernel
theorem dJ9_max_7cf53_0 : decode cJ9_max_7cf53 0 = .ok (.iload_n 0, 1) := by decide +kernel
theorem dJ9_max_7cf53_1 : decode cJ9_max_7cf53 1 = .ok (.iload_n 1, 1) := by decide +kernel
theorem dJ9_max_7cf53_2 : decode cJ9_max_7cf53 2 = .ok (.if_icmp .lt 7, 3) := by decide +kernel
theorem dJ9_max_7cf53_5 : decode cJ9_max_7cf53 5 = .ok (.iload_n 0, 1) := by decide +kernel
theorem dJ9_max_7cf53_6 : decode cJ9_max_7cf53 6 = .ok (.goto 4, 3) := by decide +kernel
theorem dJ9_max_7cf53_9 : decode cJ9_max_7cf53 9 = .ok (.iload_n 1, 1) := by decide +kernel
theorem dJ9_max_7cf53_10 : decode cJ9_max_7cf53 10 = .ok (.ireturn, 1) := by decide +kernel
theorem dJ9_min_7cf53_0 : decode cJ9_min_7cf53 0 = .ok (.iload_n 0, 1) := by decide +kernel
theorem dJ9_min_7cf53_1 : decode cJ9_min_7cf53 1 = .ok (.iload_n 1, 1) := by decide +kernel
theorem dJ9_min_7cf53_2 : decode cJ9_min_7cf53 2 = .ok (.if_icmp .gt 7, 3) := by decide +kernel
theorem dJ9_min_7cf53_5 : decode cJ9_min_7cf53 5 = .ok (.iload_n 0, 1) := by decide +kernel
theorem dJ9_min_7cf53_6 : decode cJ9_min_7cf53 6 = .ok (.goto 4, 3) := by decide +kernel
theorem dJ9_min_7cf53_9 : decode cJ9_min_7cf53 9 = .ok (.iload_n 1, 1) := by decide +kernel
theorem dJ9_min_7cf53_10 : decode cJ9_min_7cf53 10 = .ok (.ireturn, 1) := by decide +kernel
end
section
/-- the texts of the class's exceptions, by their places in its table -/
def xeStr : List (Nat × String) := [(56, "no more pigments"), (71, "no more tubes"), (76, "no more pots"), (78, "the tube has not so much"), (90, "the pots are the same"), (97, "the pot has not so much"), (108, "no more pictures"), (114, "no more layers"), (119, "the picture has not so many layers"), (121, "the picture has too many cracks"), (127, "the picture has no layer"), (132, "the book ends before that day"), (163, "there is no such number"), (166, "out of range"), (168, "the picture is lent")]
/-! The walk's own judgement over the kit's W: worlds, locals and stack as data; one kind of contract (returns or throws) for all methods. -/
def iM (n : String) : MethodName := Bundle.initS n
abbrev xeN : List String := ["java/lang/RuntimeException", "java/lang/Exception"]
abbrev eISE : String := "java/lang/IllegalStateException"
abbrev eIAE : String := "java/lang/IllegalArgumentException"
abbrev eIOB : String := "java/lang/IndexOutOfBoundsException"
def xeB : List Cond := [.declares (iM "java/lang/RuntimeException"), .declares (iM "java/lang/Exception"), .declares (iM Bundle.tN), .castable eISE eISE, .castable eIAE eIAE, .castable eIOB eIOB]
theorem xeB_tab : ∀ w ∈ xeB, w.onTables = true := by decide +kernel
theorem xeB_warm {s U : State} (hW : s.WarmedH U.vm) : ∀ w ∈ xeB, va_Nw w s → va_Nw w U := by
  intro w hw h
  simp only [xeB, List.mem_cons, List.not_mem_nil, or_false] at hw
  rcases hw with rfl | rfl | rfl | rfl | rfl | rfl
  · exact va_Nw.warmD hW h
  · exact va_Nw.warmD hW h
  · exact va_Nw.warmD hW h
  · exact va_Nw.warmC hW h
  · exact va_Nw.warmC hW h
  · exact va_Nw.warmC hW h
/-- what a throw and a catch need beside the method's words -/
def XE (A : Nat → Prop) (U : State) : Prop :=
  vx_Zq Bundle.tN "UNASSIGNED_STACK" Bundle.steD A U U.heap ∧ vx_Zq Bundle.tN "SUPPRESSED_SENTINEL" Bundle.listD A U U.heap ∧ (∀ q ∈ xeStr, ∃ a, vk_R RX0 q.1 q.2 a U) ∧ (∀ w ∈ xeB, va_Nw w U) ∧ True
theorem XE.to {A B : Nat → Prop} {s U : State} {H : Heap} {locs : List Loc} (hX : XE A s) (hS : va_S A s.heap H locs) (hU : U.heap = H) (hW : s.WarmedH U.vm) (hAB : ∀ q, B q → A q) : XE B U := by
  obtain ⟨h1, h2, h3, h4, -⟩ := hX
  refine ⟨?_, ?_, fun q hq => ?_, fun w hw => xeB_warm hW w hw (h4 w hw), trivial⟩
  · rw [hU]; exact vx_Zq.moved hW.alike ((h1.kept hS.2.1).narrow hAB)
  · rw [hU]; exact vx_Zq.moved hW.alike ((h2.kept hS.2.1).narrow hAB)
  · obtain ⟨a, ha⟩ := h3 q hq
    exact ⟨a, vk_R.warm hW ha⟩
theorem XE.same {A : Nat → Prop} {u U : State} (hX : XE A u) (hv : U.vm = u.vm) (hh : U.heap = u.heap) : XE A U := by
  obtain ⟨h1, h2, h3, h4, -⟩ := hX
  have hal : u.vm.Alike U.vm := by rw [hv]; exact Vm.Alike.refl _
  refine ⟨?_, ?_, fun q hq => ?_, fun w hw => va_Nw.same (xeB_tab w hw) hv.symm (h4 w hw), trivial⟩
  · rw [hh]; exact vx_Zq.moved hal h1
  · rw [hh]; exact vx_Zq.moved hal h2
  · obtain ⟨a, ha⟩ := h3 q hq
    exact ⟨a, vk_R.same hv ha⟩
-- contracts
def mP (D : va_G) (TY : List (ClassId × FieldType)) (w : va_W) (av : List Value) (sz : Nat) : Array Value → State → Prop := fun a U => a = av.toArray ∧ U.heap.size = sz ∧ va_P D vwCl w U.heap ∧ va_K D vwCl TY U ∧ va_D (fun _ => True) w ∧ XE (va_A w sz) U
def mQ (D : va_G) (w w' : va_W) (ex : Option String) (rv : Option Value) (sz : Nat) : Array Value → State → Outcome → State → Prop := fun _ st o t => (o = .returned rv ∧ ex = none ∧ va_P D vwCl w' t.heap) ∧ va_F (va_A w sz) st t
def mX (D : va_G) (w : va_W) (ex : Option String) (sz : Nat) : String → State → State → Prop := fun E st t => (ex = some E ∧ va_P D vwCl w t.heap) ∧ va_F (va_A w sz) st t
/-- method y, called with av in the world w, returns rv with the world w' (ex none), or throws ex with the world w; n cells of 6 slots are new at most -/
def MC (l : Launch) (y : MethodName) (ws : List Cond) (fr lo : Nat) (D : va_G) (TY : List (ClassId × FieldType)) (av : List Value) (w w' : va_W) (ex : Option String) (rv : Option Value) (n : Nat) : Prop :=
  ∀ sz : Nat, vx_Met l y ws { frames := fr, cells := n, slots := 6 * n, locals := lo } (mP D TY w av sz) (mQ D w w' ex rv sz) (mX D w ex sz) n (6 * n) (va_A w sz)
theorem mP_blind {D : va_G} {TY : List (ClassId × FieldType)} {w : va_W} {av : List Value} {sz : Nat} : FrameBlind (mP D TY w av sz) := by
  intro a U g mk h
  obtain ⟨h1, h2, h3, h4, h5, h6⟩ := h
  exact ⟨h1, h2, h3, va_K.moved (u := U) (U := U.calling g mk a) (Vm.Alike.refl U.vm) h4, h5, XE.same (u := U) h6 rfl rfl⟩
section GJ
variable {p : Program} {l : Launch} {e : Env} {R : Room} {s : State} {m : MethodId} {args : Array Value} {below : List Frame} {meth : Method} {c : Code}
variable {cc : ByteArray} {nL : Nat} {own : String} {Ts : List Cond} {D : va_G} {TY : List (ClassId × FieldType)} {A : Nat → Prop}
variable {k j : Nat} {Q : State → Prop} {w : va_W} {lv : List (Nat × Value)} {pc : Nat} {st rest : List Value}
/-- what stays the same in a method's walk -/
def gC (p : Program) (s : State) (m : MethodId) (args : Array Value) (meth : Method) (c : Code) (cc : ByteArray) (nL : Nat) (own : String) (Ts : List Cond) (D : va_G) (TY : List (ClassId × FieldType)) (A : Nat → Prop) : Prop :=
  p.tables.exec = Jvm.exec ∧ c.code = cc ∧ c.maxLocals = nL ∧ s.vm.findClass own = some m.cls ∧ (∀ w ∈ Ts, w.before args s = true) ∧ va_K D vwCl TY s ∧ (∀ q : Nat, s.heap.size ≤ q → A q) ∧ meth.locks = false ∧ XE A s
/-- the machine, at pc, in the world w with the locals lv and the stack st, comes to Q -/
def G (p : Program) (l : Launch) (e : Env) (R : Room) (s : State) (m : MethodId) (args : Array Value) (below : List Frame) (meth : Method) (c : Code) (D : va_G) (A : Nat → Prop) (nL k j : Nat) (Q : State → Prop) (w : va_W) (lv : List (Nat × Value)) (pc : Nat) (st : List Value) : Prop :=
  ∀ (H : Heap) (locs : List Loc) (ls : Array Slot), va_P D vwCl w H → va_D A w → va_S A s.heap H locs → lv_has ls nL lv → W p l e R s m args below meth c H locs k j Q (F0 m pc ls st)
theorem g_iconst {n : Int} (v : Int32) (C : gC p s m args meth c cc nL own Ts D TY A) (hd : decode cc pc = .ok (.iconst n, 1)) (hv : Int32.ofInt n = v) (K : G p l e R s m args below meth c D A nL k j Q w lv (pc + 1) (.int v :: st)) : G p l e R s m args below meth c D A nL k j Q w lv pc st :=
  fun H locs ls hP hD hS hl => lv_iconst C.1 C.2.1 hd hv (K H locs ls hP hD hS hl)
theorem g_bipush {n : Int} (v : Int32) (C : gC p s m args meth c cc nL own Ts D TY A) (hd : decode cc pc = .ok (.bipush n, 2)) (hv : (Int8.ofInt n).toInt32 = v) (K : G p l e R s m args below meth c D A nL k j Q w lv (pc + 2) (.int v :: st)) : G p l e R s m args below meth c D A nL k j Q w lv pc st :=
  fun H locs ls hP hD hS hl => lv_bipush C.1 C.2.1 hd hv (K H locs ls hP hD hS hl)
theorem g_sipush {n : Int} (v : Int32) (C : gC p s m args meth c cc nL own Ts D TY A) (hd : decode cc pc = .ok (.sipush n, 3)) (hv : (Int16.ofInt n).toInt32 = v) (K : G p l e R s m args below meth c D A nL k j Q w lv (pc + 3) (.int v :: st)) : G p l e R s m args below meth c D A nL k j Q w lv pc st :=
  fun H locs ls hP hD hS hl => lv_sipush C.1 C.2.1 hd hv (K H locs ls hP hD hS hl)
theorem g_ldc {ix : Nat} (v : Int32) (C : gC p s m args meth c cc nL own Ts D TY A) (hc : Cond.constant own ix v ∈ Ts) (hd : decode cc pc = .ok (.ldc ix, 2)) (K : G p l e R s m args below meth c D A nL k j Q w lv (pc + 2) (.int v :: st)) : G p l e R s m args below meth c D A nL k j Q w lv pc st :=
  fun H locs ls hP hD hS hl => lv_ldc C.1 C.2.1 C.2.2.2.1 (C.2.2.2.2.1 _ hc) hd (K H locs ls hP hD hS hl)
theorem g_iload_n {f : Fin 4} {i : Nat} {x : Int32} (q : Nat) (C : gC p s m args meth c cc nL own Ts D TY A) (hj : lv[q]? = some (i, .int x)) (hd : decode cc pc = .ok (.iload_n f, 1)) (hi : (f : Nat) = i) (K : G p l e R s m args below meth c D A nL k j Q w lv (pc + 1) (.int x :: st)) : G p l e R s m args below meth c D A nL k j Q w lv pc st :=
  fun H locs ls hP hD hS hl => lv_iload_n C.1 C.2.1 hd hi (lv_at hl q hj) (K H locs ls hP hD hS hl)
theorem g_iload {i : Nat} {x : Int32} (q : Nat) (C : gC p s m args meth c cc nL own Ts D TY A) (hj : lv[q]? = some (i, .int x)) (hd : decode cc pc = .ok (.iload i, 2)) (K : G p l e R s m args below meth c D A nL k j Q w lv (pc + 2) (.int x :: st)) : G p l e R s m args below meth c D A nL k j Q w lv pc st :=
  fun H locs ls hP hD hS hl => lv_iload C.1 C.2.1 hd (lv_at hl q hj) (K H locs ls hP hD hS hl)
theorem g_aload_n {f : Fin 4} {i x : Nat} (q : Nat) (C : gC p s m args meth c cc nL own Ts D TY A) (hj : lv[q]? = some (i, .ref x)) (hd : decode cc pc = .ok (.aload_n f, 1)) (hi : (f : Nat) = i) (K : G p l e R s m args below meth c D A nL k j Q w lv (pc + 1) (.ref x :: st)) : G p l e R s m args below meth c D A nL k j Q w lv pc st :=
  fun H locs ls hP hD hS hl => lv_aload_n C.1 C.2.1 hd hi (lv_at hl q hj) (K H locs ls hP hD hS hl)
theorem g_aload {i x : Nat} (q : Nat) (C : gC p s m args meth c cc nL own Ts D TY A) (hj : lv[q]? = some (i, .ref x)) (hd : decode cc pc = .ok (.aload i, 2)) (K : G p l e R s m args below meth c D A nL k j Q w lv (pc + 2) (.ref x :: st)) : G p l e R s m args below meth c D A nL k j Q w lv pc st :=
  fun H locs ls hP hD hS hl => lv_aload C.1 C.2.1 hd (lv_at hl q hj) (K H locs ls hP hD hS hl)
theorem g_istore_n {f : Fin 4} {i : Nat} {x : Int32} (lv' : List (Nat × Value)) (C : gC p s m args meth c cc nL own Ts D TY A) (hd : decode cc pc = .ok (.istore_n f, 1)) (hi : (f : Nat) = i) (hn : i < nL) (hl : (i, Value.int x) :: lv.filter (fun q => !(q.1 == i) && !(q.1 + 1 == i && q.2.category == 2)) = lv') (K : G p l e R s m args below meth c D A nL k j Q w lv' (pc + 1) st) : G p l e R s m args below meth c D A nL k j Q w lv pc (.int x :: st) :=
  fun H locs _ hP hD hS hv => lv_istore_n C.1 C.2.1 hd hi hv hn hl (fun ls' hl' => K H locs ls' hP hD hS hl')
theorem g_istore {i : Nat} {x : Int32} (lv' : List (Nat × Value)) (C : gC p s m args meth c cc nL own Ts D TY A) (hd : decode cc pc = .ok (.istore i, 2)) (hn : i < nL) (hl : (i, Value.int x) :: lv.filter (fun q => !(q.1 == i) && !(q.1 + 1 == i && q.2.category == 2)) = lv') (K : G p l e R s m args below meth c D A nL k j Q w lv' (pc + 2) st) : G p l e R s m args below meth c D A nL k j Q w lv pc (.int x :: st) :=
  fun H locs _ hP hD hS hv => lv_istore C.1 C.2.1 hd hv hn hl (fun ls' hl' => K H locs ls' hP hD hS hl')
theorem g_astore_n {f : Fin 4} {i x : Nat} (lv' : List (Nat × Value)) (C : gC p s m args meth c cc nL own Ts D TY A) (hd : decode cc pc = .ok (.astore_n f, 1)) (hi : (f : Nat) = i) (hn : i < nL) (hl : (i, Value.ref x) :: lv.filter (fun q => !(q.1 == i) && !(q.1 + 1 == i && q.2.category == 2)) = lv') (K : G p l e R s m args below meth c D A nL k j Q w lv' (pc + 1) st) : G p l e R s m args below meth c D A nL k j Q w lv pc (.ref x :: st) :=
  fun H locs _ hP hD hS hv => lv_astore_n C.1 C.2.1 hd hi hv hn hl (fun ls' hl' => K H locs ls' hP hD hS hl')
theorem g_astore {i x : Nat} (lv' : List (Nat × Value)) (C : gC p s m args meth c cc nL own Ts D TY A) (hd : decode cc pc = .ok (.astore i, 2)) (hn : i < nL) (hl : (i, Value.ref x) :: lv.filter (fun q => !(q.1 == i) && !(q.1 + 1 == i && q.2.category == 2)) = lv') (K : G p l e R s m args below meth c D A nL k j Q w lv' (pc + 2) st) : G p l e R s m args below meth c D A nL k j Q w lv pc (.ref x :: st) :=
  fun H locs _ hP hD hS hv => lv_astore C.1 C.2.1 hd hv hn hl (fun ls' hl' => K H locs ls' hP hD hS hl')
theorem g_iinc {i : Nat} {n : Int} {x : Int32} (q : Nat) (v : Int32) (lv' : List (Nat × Value)) (C : gC p s m args meth c cc nL own Ts D TY A) (hd : decode cc pc = .ok (.iinc i n, 3)) (hj : lv[q]? = some (i, .int x)) (hv : x + Int32.ofInt n = v) (hn : i < nL) (hl : (i, Value.int v) :: lv.filter (fun q => !(q.1 == i) && !(q.1 + 1 == i && q.2.category == 2)) = lv') (K : G p l e R s m args below meth c D A nL k j Q w lv' (pc + 3) st) : G p l e R s m args below meth c D A nL k j Q w lv pc st :=
  fun H locs _ hP hD hS hh => lv_iinc (v := v) (lv' := lv') C.1 C.2.1 hd hh hj hv hn hl (fun ls' hl' => K H locs ls' hP hD hS hl')
theorem g_iadd {x y : Int32} (C : gC p s m args meth c cc nL own Ts D TY A) (hd : decode cc pc = .ok (.iadd, 1)) (K : G p l e R s m args below meth c D A nL k j Q w lv (pc + 1) (.int (x + y) :: st)) : G p l e R s m args below meth c D A nL k j Q w lv pc (.int y :: .int x :: st) :=
  fun H locs ls hP hD hS hl => lv_iadd C.1 C.2.1 hd (K H locs ls hP hD hS hl)
theorem g_isub {x y : Int32} (C : gC p s m args meth c cc nL own Ts D TY A) (hd : decode cc pc = .ok (.isub, 1)) (K : G p l e R s m args below meth c D A nL k j Q w lv (pc + 1) (.int (x - y) :: st)) : G p l e R s m args below meth c D A nL k j Q w lv pc (.int y :: .int x :: st) :=
  fun H locs ls hP hD hS hl => lv_isub C.1 C.2.1 hd (K H locs ls hP hD hS hl)
theorem g_imul {x y : Int32} (C : gC p s m args meth c cc nL own Ts D TY A) (hd : decode cc pc = .ok (.imul, 1)) (K : G p l e R s m args below meth c D A nL k j Q w lv (pc + 1) (.int (x * y) :: st)) : G p l e R s m args below meth c D A nL k j Q w lv pc (.int y :: .int x :: st) :=
  fun H locs ls hP hD hS hl => lv_imul C.1 C.2.1 hd (K H locs ls hP hD hS hl)
theorem g_iand {x y : Int32} (C : gC p s m args meth c cc nL own Ts D TY A) (hd : decode cc pc = .ok (.iand, 1)) (K : G p l e R s m args below meth c D A nL k j Q w lv (pc + 1) (.int (x &&& y) :: st)) : G p l e R s m args below meth c D A nL k j Q w lv pc (.int y :: .int x :: st) :=
  fun H locs ls hP hD hS hl => lv_iand C.1 C.2.1 hd (K H locs ls hP hD hS hl)
theorem g_idiv {x y : Int32} (C : gC p s m args meth c cc nL own Ts D TY A) (hne : ¬ y = 0) (hd : decode cc pc = .ok (.idiv, 1)) (K : G p l e R s m args below meth c D A nL k j Q w lv (pc + 1) (.int (x / y) :: st)) : G p l e R s m args below meth c D A nL k j Q w lv pc (.int y :: .int x :: st) :=
  fun H locs ls hP hD hS hl => lv_idiv C.1 C.2.1 hd hne (K H locs ls hP hD hS hl)
theorem g_ineg {x : Int32} (C : gC p s m args meth c cc nL own Ts D TY A) (hd : decode cc pc = .ok (.ineg, 1)) (K : G p l e R s m args below meth c D A nL k j Q w lv (pc + 1) (.int (-x) :: st)) : G p l e R s m args below meth c D A nL k j Q w lv pc (.int x :: st) :=
  fun H locs ls hP hD hS hl => lv_ineg C.1 C.2.1 hd (K H locs ls hP hD hS hl)
theorem g_i2l {x : Int32} (C : gC p s m args meth c cc nL own Ts D TY A) (hd : decode cc pc = .ok (.i2l, 1)) (K : G p l e R s m args below meth c D A nL k j Q w lv (pc + 1) (.long x.toInt64 :: st)) : G p l e R s m args below meth c D A nL k j Q w lv pc (.int x :: st) :=
  fun H locs ls hP hD hS hl => lv_i2l C.1 C.2.1 hd rfl (K H locs ls hP hD hS hl)
theorem g_lcmp {x y : Int64} (C : gC p s m args meth c cc nL own Ts D TY A) (hd : decode cc pc = .ok (.lcmp, 1)) (K : G p l e R s m args below meth c D A nL k j Q w lv (pc + 1) (.int (lg_cmp x y) :: st)) : G p l e R s m args below meth c D A nL k j Q w lv pc (.long y :: .long x :: st) :=
  fun H locs ls hP hD hS hl => W.lcmp C.1 C.2.1 hd (K H locs ls hP hD hS hl)
theorem g_dup {v : Value} (C : gC p s m args meth c cc nL own Ts D TY A) (hd : decode cc pc = .ok (.dup, 1)) (hv : v.category = 1) (K : G p l e R s m args below meth c D A nL k j Q w lv (pc + 1) (v :: v :: st)) : G p l e R s m args below meth c D A nL k j Q w lv pc (v :: st) :=
  fun H locs ls hP hD hS hl => lv_dup C.1 C.2.1 hd hv (K H locs ls hP hD hS hl)
theorem g_dup2 {v u : Value} (C : gC p s m args meth c cc nL own Ts D TY A) (hd : decode cc pc = .ok (.dup2, 1)) (hv : v.category = 1) (hu : u.category = 1) (K : G p l e R s m args below meth c D A nL k j Q w lv (pc + 1) (v :: u :: v :: u :: st)) : G p l e R s m args below meth c D A nL k j Q w lv pc (v :: u :: st) :=
  fun H locs ls hP hD hS hl => lv_dup2_11 C.1 C.2.1 hd hv hu (K H locs ls hP hD hS hl)
theorem g_goto {off : Int} (tgt : Nat) (C : gC p s m args meth c cc nL own Ts D TY A) (hd : decode cc pc = .ok (.goto off, 3)) (ht : (pc : Int) + off = (tgt : Int)) (K : G p l e R s m args below meth c D A nL k j Q w lv tgt st) : G p l e R s m args below meth c D A nL k j Q w lv pc st :=
  fun H locs ls hP hD hS hl => lv_goto C.1 C.2.1 hd ht (K H locs ls hP hD hS hl)
theorem g_if_eq {x : Int32} {off : Int} (tgt : Nat) (C : gC p s m args meth c cc nL own Ts D TY A) (hd : decode cc pc = .ok (.ifCond .eq off, 3)) (ht : (pc : Int) + off = (tgt : Int)) (K1 : x = 0 → G p l e R s m args below meth c D A nL k j Q w lv tgt st) (K2 : ¬ x = 0 → G p l e R s m args below meth c D A nL k j Q w lv (pc + 3) st) : G p l e R s m args below meth c D A nL k j Q w lv pc (.int x :: st) :=
  fun H locs ls hP hD hS hl => lv_if_eq C.1 C.2.1 hd ht (fun q => K1 q H locs ls hP hD hS hl) (fun q => K2 q H locs ls hP hD hS hl)
theorem g_if_ne {x : Int32} {off : Int} (tgt : Nat) (C : gC p s m args meth c cc nL own Ts D TY A) (hd : decode cc pc = .ok (.ifCond .ne off, 3)) (ht : (pc : Int) + off = (tgt : Int)) (K1 : ¬ x = 0 → G p l e R s m args below meth c D A nL k j Q w lv tgt st) (K2 : x = 0 → G p l e R s m args below meth c D A nL k j Q w lv (pc + 3) st) : G p l e R s m args below meth c D A nL k j Q w lv pc (.int x :: st) :=
  fun H locs ls hP hD hS hl => lv_if_ne C.1 C.2.1 hd ht (fun q => K1 q H locs ls hP hD hS hl) (fun q => K2 q H locs ls hP hD hS hl)
theorem g_if_le {x : Int32} {off : Int} (tgt : Nat) (C : gC p s m args meth c cc nL own Ts D TY A) (hd : decode cc pc = .ok (.ifCond .le off, 3)) (ht : (pc : Int) + off = (tgt : Int)) (K1 : x ≤ 0 → G p l e R s m args below meth c D A nL k j Q w lv tgt st) (K2 : ¬ x ≤ 0 → G p l e R s m args below meth c D A nL k j Q w lv (pc + 3) st) : G p l e R s m args below meth c D A nL k j Q w lv pc (.int x :: st) :=
  fun H locs ls hP hD hS hl => lv_if_le C.1 C.2.1 hd ht (fun q => K1 q H locs ls hP hD hS hl) (fun q => K2 q H locs ls hP hD hS hl)
theorem g_if_lt {x : Int32} {off : Int} (tgt : Nat) (C : gC p s m args meth c cc nL own Ts D TY A) (hd : decode cc pc = .ok (.ifCond .lt off, 3)) (ht : (pc : Int) + off = (tgt : Int)) (K1 : x < 0 → G p l e R s m args below meth c D A nL k j Q w lv tgt st) (K2 : ¬ x < 0 → G p l e R s m args below meth c D A nL k j Q w lv (pc + 3) st) : G p l e R s m args below meth c D A nL k j Q w lv pc (.int x :: st) :=
  fun H locs ls hP hD hS hl => lv_if_lt C.1 C.2.1 hd ht (fun q => K1 q H locs ls hP hD hS hl) (fun q => K2 q H locs ls hP hD hS hl)
theorem g_if_ge {x : Int32} {off : Int} (tgt : Nat) (C : gC p s m args meth c cc nL own Ts D TY A) (hd : decode cc pc = .ok (.ifCond .ge off, 3)) (ht : (pc : Int) + off = (tgt : Int)) (K1 : 0 ≤ x → G p l e R s m args below meth c D A nL k j Q w lv tgt st) (K2 : ¬ 0 ≤ x → G p l e R s m args below meth c D A nL k j Q w lv (pc + 3) st) : G p l e R s m args below meth c D A nL k j Q w lv pc (.int x :: st) :=
  fun H locs ls hP hD hS hl => lv_if_ge C.1 C.2.1 hd ht (fun q => K1 q H locs ls hP hD hS hl) (fun q => K2 q H locs ls hP hD hS hl)
theorem g_icmp_eq {x y : Int32} {off : Int} (tgt : Nat) (C : gC p s m args meth c cc nL own Ts D TY A) (hd : decode cc pc = .ok (.if_icmp .eq off, 3)) (ht : (pc : Int) + off = (tgt : Int)) (K1 : x = y → G p l e R s m args below meth c D A nL k j Q w lv tgt st) (K2 : ¬ x = y → G p l e R s m args below meth c D A nL k j Q w lv (pc + 3) st) : G p l e R s m args below meth c D A nL k j Q w lv pc (.int y :: .int x :: st) :=
  fun H locs ls hP hD hS hl => lv_icmp_eq C.1 C.2.1 hd ht (fun q => K1 q H locs ls hP hD hS hl) (fun q => K2 q H locs ls hP hD hS hl)
theorem g_icmp_ne {x y : Int32} {off : Int} (tgt : Nat) (C : gC p s m args meth c cc nL own Ts D TY A) (hd : decode cc pc = .ok (.if_icmp .ne off, 3)) (ht : (pc : Int) + off = (tgt : Int)) (K1 : ¬ x = y → G p l e R s m args below meth c D A nL k j Q w lv tgt st) (K2 : x = y → G p l e R s m args below meth c D A nL k j Q w lv (pc + 3) st) : G p l e R s m args below meth c D A nL k j Q w lv pc (.int y :: .int x :: st) :=
  fun H locs ls hP hD hS hl => lv_icmp_ne C.1 C.2.1 hd ht (fun q => K1 q H locs ls hP hD hS hl) (fun q => K2 q H locs ls hP hD hS hl)
theorem g_icmp_lt {x y : Int32} {off : Int} (tgt : Nat) (C : gC p s m args meth c cc nL own Ts D TY A) (hd : decode cc pc = .ok (.if_icmp .lt off, 3)) (ht : (pc : Int) + off = (tgt : Int)) (K1 : x < y → G p l e R s m args below meth c D A nL k j Q w lv tgt st) (K2 : ¬ x < y → G p l e R s m args below meth c D A nL k j Q w lv (pc + 3) st) : G p l e R s m args below meth c D A nL k j Q w lv pc (.int y :: .int x :: st) :=
  fun H locs ls hP hD hS hl => lv_icmp_lt C.1 C.2.1 hd ht (fun q => K1 q H locs ls hP hD hS hl) (fun q => K2 q H locs ls hP hD hS hl)
theorem g_icmp_ge {x y : Int32} {off : Int} (tgt : Nat) (C : gC p s m args meth c cc nL own Ts D TY A) (hd : decode cc pc = .ok (.if_icmp .ge off, 3)) (ht : (pc : Int) + off = (tgt : Int)) (K1 : y ≤ x → G p l e R s m args below meth c D A nL k j Q w lv tgt st) (K2 : ¬ y ≤ x → G p l e R s m args below meth c D A nL k j Q w lv (pc + 3) st) : G p l e R s m args below meth c D A nL k j Q w lv pc (.int y :: .int x :: st) :=
  fun H locs ls hP hD hS hl => lv_icmp_ge C.1 C.2.1 hd ht (fun q => K1 q H locs ls hP hD hS hl) (fun q => K2 q H locs ls hP hD hS hl)
theorem g_icmp_gt {x y : Int32} {off : Int} (tgt : Nat) (C : gC p s m args meth c cc nL own Ts D TY A) (hd : decode cc pc = .ok (.if_icmp .gt off, 3)) (ht : (pc : Int) + off = (tgt : Int)) (K1 : y < x → G p l e R s m args below meth c D A nL k j Q w lv tgt st) (K2 : ¬ y < x → G p l e R s m args below meth c D A nL k j Q w lv (pc + 3) st) : G p l e R s m args below meth c D A nL k j Q w lv pc (.int y :: .int x :: st) :=
  fun H locs ls hP hD hS hl => lv_icmp_gt C.1 C.2.1 hd ht (fun q => K1 q H locs ls hP hD hS hl) (fun q => K2 q H locs ls hP hD hS hl)
theorem g_icmp_le {x y : Int32} {off : Int} (tgt : Nat) (C : gC p s m args meth c cc nL own Ts D TY A) (hd : decode cc pc = .ok (.if_icmp .le off, 3)) (ht : (pc : Int) + off = (tgt : Int)) (K1 : x ≤ y → G p l e R s m args below meth c D A nL k j Q w lv tgt st) (K2 : ¬ x ≤ y → G p l e R s m args below meth c D A nL k j Q w lv (pc + 3) st) : G p l e R s m args below meth c D A nL k j Q w lv pc (.int y :: .int x :: st) :=
  fun H locs ls hP hD hS hl => lv_icmp_le C.1 C.2.1 hd ht (fun q => K1 q H locs ls hP hD hS hl) (fun q => K2 q H locs ls hP hD hS hl)
theorem g_tableIn {dflt lo hi off : Int} {offs : Array Int} {len : Nat} {x : Int32} (tgt : Nat) (C : gC p s m args meth c cc nL own Ts D TY A) (hd : decode cc pc = .ok (.tableswitch dflt lo hi offs, len)) (h1 : ¬ x.toInt < lo) (h2 : ¬ hi < x.toInt) (ho : offs[(x.toInt - lo).toNat]? = some off) (ht : (pc : Int) + off = (tgt : Int)) (K : G p l e R s m args below meth c D A nL k j Q w lv tgt st) : G p l e R s m args below meth c D A nL k j Q w lv pc (.int x :: st) :=
  fun H locs ls hP hD hS hl => lv_tableIn C.1 C.2.1 hd h1 h2 ho ht (K H locs ls hP hD hS hl)
theorem g_tableOut {dflt lo hi : Int} {offs : Array Int} {len : Nat} {x : Int32} (tgt : Nat) (C : gC p s m args meth c cc nL own Ts D TY A) (hd : decode cc pc = .ok (.tableswitch dflt lo hi offs, len)) (h : x.toInt < lo ∨ hi < x.toInt) (ht : (pc : Int) + dflt = (tgt : Int)) (K : G p l e R s m args below meth c D A nL k j Q w lv tgt st) : G p l e R s m args below meth c D A nL k j Q w lv pc (.int x :: st) :=
  fun H locs ls hP hD hS hl => lv_tableOut C.1 C.2.1 hd h ht (K H locs ls hP hD hS hl)
-- the world
theorem g_get {C0 : String} {T : u_T} {N ix : Nat} {fs : List Value} {a : Nat} (q0 ci f : Nat) (v : Value) (C : gC p s m args meth c cc nL own Ts D TY A) (hin : ∀ w ∈ u_ws C0 T N, w ∈ Ts) (he : w[q0]? = some (a, .inr (ci, fs))) (hc : vwCl[ci]? = some (C0, T, N)) (hf : f < N) (hlink : Cond.fieldLink own ix (T f).1 (T f).2.1 (T f).2.2.1 ∈ Ts) (hv : fs[f]? = some v) (hd : decode cc pc = .ok (.getfield ix, 3)) (K : G p l e R s m args below meth c D A nL k j Q w lv (pc + 3) (v :: st)) : G p l e R s m args below meth c D A nL k j Q w lv pc (.ref a :: st) :=
  fun H locs ls hP hD hS hl => va_get (D := D) (ci := ci) (v := v) (C := C0) (T := T) (N := N) C.1 C.2.1 C.2.2.2.2.1 hin C.2.2.2.1 C.2.2.2.2.2.1 hP q0 he hc f hf (C.2.2.2.2.1 _ hlink) (fun _ h9 => h9) hv hd (K H locs ls hP hD hS hl)
theorem g_put {C0 : String} {T : u_T} {N ix : Nat} {fs : List Value} {a : Nat} (q0 ci f : Nat) (w' : va_W) {ty0 : Nat → FieldType} {x : Int32} (C : gC p s m args meth c cc nL own Ts D TY A) (hin : ∀ w ∈ u_ws C0 T N, w ∈ Ts) (hty : ∀ k, k < N → parseFieldDescriptor (T k).2.2.1 = some (ty0 k)) (hnm : ∀ a, a < N → ∀ b, b < N → a ≠ b → (T a).2.1 ≠ (T b).2.1) (he : w[q0]? = some (a, .inr (ci, fs))) (hc : vwCl[ci]? = some (C0, T, N)) (hf : f < N) (hlink : Cond.fieldLink own ix (T f).1 (T f).2.1 (T f).2.2.1 ∈ Ts) (hfin : (T f).2.2.2 = false) (hdsc : parseFieldDescriptor (T f).2.2.1 = some .int) (hl : f < fs.length) (hw' : w.set q0 (a, .inr (ci, fs.set f (.int x))) = w') (hd : decode cc pc = .ok (.putfield ix, 3)) (K : G p l e R s m args below meth c D A nL k j Q w' lv (pc + 3) st) : G p l e R s m args below meth c D A nL k j Q w lv pc (.int x :: .ref a :: st) :=
  fun H locs ls hP hD hS hv => va_put (D := D) (ci := ci) (v := .int x) (ty := .int) (C := C0) (T := T) (N := N) C.1 C.2.1 C.2.2.2.2.1 hin ty0 hty hnm C.2.2.2.1 C.2.2.2.2.2.1 hP hD hS q0 he hc f hf (C.2.2.2.2.1 _ hlink) (fun _ h9 => h9) hfin hdsc rfl rfl hl hd (fun H1 locs1 hP1 hD1 hS1 => K H1 locs1 ls (hw' ▸ hP1) (hw' ▸ hD1) hS1 hv)
theorem g_iald {cA : ClassId} {n a : Nat} {f : Nat → Int32} {i : Int32} (q0 t0 : Nat) (C : gC p s m args meth c cc nL own Ts D TY A) (ha : w[q0]? = some (a, .inl (cA, n, .inl f))) (ht : TY[t0]? = some (cA, .int)) (hin : vp_in i n) (hd : decode cc pc = .ok (.iaload, 1)) (K : G p l e R s m args below meth c D A nL k j Q w lv (pc + 1) (.int (f i.toNatClampNeg) :: st)) : G p l e R s m args below meth c D A nL k j Q w lv pc (.int i :: .ref a :: st) :=
  fun H locs ls hP hD hS hl => va_iald C.1 C.2.1 C.2.2.2.2.2.1 hP q0 t0 ha ht hin hd (K H locs ls hP hD hS hl)
theorem g_lald {cA : ClassId} {n a : Nat} {f : Nat → Int64} {i : Int32} (q0 t0 : Nat) (C : gC p s m args meth c cc nL own Ts D TY A) (ha : w[q0]? = some (a, .inl (cA, n, .inr (.inl f)))) (ht : TY[t0]? = some (cA, .long)) (hin : vp_in i n) (hd : decode cc pc = .ok (.laload, 1)) (K : G p l e R s m args below meth c D A nL k j Q w lv (pc + 1) (.long (f i.toNatClampNeg) :: st)) : G p l e R s m args below meth c D A nL k j Q w lv pc (.int i :: .ref a :: st) :=
  fun H locs ls hP hD hS hl => va_lald C.1 C.2.1 C.2.2.2.2.2.1 hP q0 t0 ha ht hin hd (K H locs ls hP hD hS hl)
theorem g_iast {cA : ClassId} {n a : Nat} {f : Nat → Int32} {i x : Int32} (q0 t0 : Nat) (w' : va_W) (C : gC p s m args meth c cc nL own Ts D TY A) (ha : w[q0]? = some (a, .inl (cA, n, .inl f))) (ht : TY[t0]? = some (cA, .int)) (hin : vp_in i n) (hw' : w.set q0 (a, .inl (cA, n, .inl (upd f i.toNatClampNeg x))) = w') (hd : decode cc pc = .ok (.iastore, 1)) (K : G p l e R s m args below meth c D A nL k j Q w' lv (pc + 1) st) : G p l e R s m args below meth c D A nL k j Q w lv pc (.int x :: .int i :: .ref a :: st) :=
  fun H locs ls hP hD hS hv => va_iast C.1 C.2.1 C.2.2.2.2.2.1 hP hD hS q0 t0 ha ht hin hd (fun H1 locs1 hP1 hD1 hS1 => K H1 locs1 ls (hw' ▸ hP1) (hw' ▸ hD1) hS1 hv)
theorem g_last {cA : ClassId} {n a : Nat} {f : Nat → Int64} {i : Int32} {x : Int64} (q0 t0 : Nat) (w' : va_W) (C : gC p s m args meth c cc nL own Ts D TY A) (ha : w[q0]? = some (a, .inl (cA, n, .inr (.inl f)))) (ht : TY[t0]? = some (cA, .long)) (hin : vp_in i n) (hw' : w.set q0 (a, .inl (cA, n, .inr (.inl (vp_updL f i.toNatClampNeg x)))) = w') (hd : decode cc pc = .ok (.lastore, 1)) (K : G p l e R s m args below meth c D A nL k j Q w' lv (pc + 1) st) : G p l e R s m args below meth c D A nL k j Q w lv pc (.long x :: .int i :: .ref a :: st) :=
  fun H locs ls hP hD hS hv => va_last C.1 C.2.1 C.2.2.2.2.2.1 hP hD hS q0 t0 ha ht hin hd (fun H1 locs1 hP1 hD1 hS1 => K H1 locs1 ls (hw' ▸ hP1) (hw' ▸ hD1) hS1 hv)
/-- a computed number gets a name -/
theorem g_nm {x : Int32} (K : ∀ y : Int32, y = x → G p l e R s m args below meth c D A nL k j Q w lv pc (.int y :: st)) : G p l e R s m args below meth c D A nL k j Q w lv pc (.int x :: st) := K x rfl
/-- .. or is another way of saying it -/
theorem g_is {x : Int32} (y : Int32) (h : x = y) (K : G p l e R s m args below meth c D A nL k j Q w lv pc (.int y :: st)) : G p l e R s m args below meth c D A nL k j Q w lv pc (.int x :: st) := by rw [h]; exact K
theorem g_w (w' : va_W) (h : w = w') (K : G p l e R s m args below meth c D A nL k j Q w' lv pc st) : G p l e R s m args below meth c D A nL k j Q w lv pc st := by rw [h]; exact K
/-- the locals picked out and put in order -/
theorem g_lv (ks : List Nat) (lv' : List (Nat × Value)) (h : lv_pick lv ks = lv') (K : G p l e R s m args below meth c D A nL k j Q w lv' pc st) : G p l e R s m args below meth c D A nL k j Q w lv pc st :=
  fun H locs ls hP hD hS hl => K H locs ls hP hD hS (lv_sub hl ks h)
theorem g_widen {k' j' : Nat} (h1 : k ≤ k') (h2 : j ≤ j') (K : G p l e R s m args below meth c D A nL k' j' Q w lv pc st) : G p l e R s m args below meth c D A nL k j Q w lv pc st :=
  fun H locs ls hP hD hS hl => W.widen h1 h2 (K H locs ls hP hD hS hl)
end GJ
end
section
/-! Calls, ends, throws and entries of the walk. -/
-- worlds side by side
theorem wp_mem {D : va_G} {cl : List vw_C} {w : va_W} {H : Heap} : va_P D cl w H ↔ ∀ q ∈ w, va_at D cl q H := by
  constructor
  · intro h q hq
    obtain ⟨i, hi⟩ := List.getElem?_of_mem hq
    exact h i q hi
  · intro h i q hi
    exact h q (List.mem_of_getElem? hi)
theorem wd_same {A : Nat → Prop} {w w' : va_W} (hm : w'.map Prod.fst = w.map Prod.fst) (h : va_D A w) : va_D A w' := by
  have key : ∀ (i : Nat) (q : Nat × va_E), w'[i]? = some q → ∃ q0, w[i]? = some q0 ∧ q0.1 = q.1 := by
    intro i q hi
    have h1 : (w'.map Prod.fst)[i]? = some q.1 := by rw [List.getElem?_map, hi]; rfl
    rw [hm, List.getElem?_map] at h1
    cases h2 : w[i]? with
    | none => rw [h2] at h1; cases h1
    | some q0 => rw [h2] at h1; exact ⟨q0, rfl, Option.some.inj h1⟩
  refine ⟨fun i j p q hi hj hpq => ?_, fun i q hi => ?_⟩
  · obtain ⟨p0, a1, a2⟩ := key i p hi
    obtain ⟨q0, b1, b2⟩ := key j q hj
    exact h.1 i j p0 q0 a1 b1 (by rw [a2, b2, hpq])
  · obtain ⟨q0, b1, b2⟩ := key i q hi
    rw [← b2]; exact h.2 i q0 b1
/-- the callee's world wc lies in the caller's, between wl and wr -/
def wX (K : va_W → va_W) (wl wr : va_W) : Prop := ∀ w, K w = wl ++ w ++ wr
theorem wX_id : wX (fun w => w) [] [] := fun w => by simp
theorem wX_pre (wr : va_W) : wX (fun w => w ++ wr) [] wr := fun w => by simp
theorem wX_suf (wl : va_W) : wX (fun w => wl ++ w) wl [] := fun w => by simp
theorem wX_P {K : va_W → va_W} {wl wr wc : va_W} (hK : wX K wl wr) {D : va_G} {cl : List vw_C} {H : Heap} (h : va_P D cl (K wc) H) : va_P D cl wc H :=
  wp_mem.mpr fun q hq => wp_mem.mp h q (by rw [hK wc]; exact List.mem_append_left _ (List.mem_append_right _ hq))
theorem wX_D {K : va_W → va_W} {wl wr wc : va_W} (hK : wX K wl wr) {A : Nat → Prop} (h : va_D A (K wc)) : va_D A wc := by
  have hg : ∀ (i : Nat) (q : Nat × va_E), wc[i]? = some q → (K wc)[wl.length + i]? = some q := by
    intro i q hi
    have hl := (List.getElem?_eq_some_iff.mp hi).1
    rw [hK wc, List.append_assoc, List.getElem?_append_right (by omega), Nat.add_sub_cancel_left, List.getElem?_append_left hl]
    exact hi
  exact ⟨fun i j p q hi hj hpq => by have := h.1 _ _ p q (hg i p hi) (hg j q hj) hpq; omega, fun i q hi => h.2 _ q (hg i q hi)⟩
theorem wX_map {K : va_W → va_W} {wl wr wc w1 : va_W} (hK : wX K wl wr) (hm : w1.map Prod.fst = wc.map Prod.fst) : (K w1).map Prod.fst = (K wc).map Prod.fst := by
  rw [hK, hK]; simp [hm]
theorem wX_join {K : va_W → va_W} {wl wr wc w1 : va_W} (hK : wX K wl wr) {A : Nat → Prop} {D : va_G} {cl : List vw_C} {H H1 : Heap} (hP : va_P D cl (K wc) H) (hD : va_D A (K wc))
    (hk : ∀ q : Nat, q < H.size → ¬ va_A wc H.size q → H1[q]? = H[q]?) (hP1 : va_P D cl w1 H1) : va_P D cl (K w1) H1 := by
  have hapart : ∀ (q : Nat × va_E), (q ∈ wl ∨ q ∈ wr) → va_at D cl q H → H1[q.1]? = H[q.1]? := by
    intro q hq hat
    refine hk q.1 hat.lt ?_
    rintro (⟨i, e, hi⟩ | h)
    · have hl := (List.getElem?_eq_some_iff.mp hi).1
      have h2 : (K wc)[wl.length + i]? = some (q.1, e) := by
        rw [hK wc, List.append_assoc, List.getElem?_append_right (by omega), Nat.add_sub_cancel_left, List.getElem?_append_left hl]; exact hi
      rcases hq with hq | hq
      · obtain ⟨n, hn⟩ := List.getElem?_of_mem hq
        have hnl := (List.getElem?_eq_some_iff.mp hn).1
        have h3 : (K wc)[n]? = some q := by rw [hK wc, List.append_assoc, List.getElem?_append_left hnl]; exact hn
        have := hD.1 _ _ _ _ h2 h3 rfl
        omega
      · obtain ⟨n, hn⟩ := List.getElem?_of_mem hq
        have h3 : (K wc)[(wl ++ wc).length + n]? = some q := by rw [hK wc, List.getElem?_append_right (by omega), Nat.add_sub_cancel_left]; exact hn
        have := hD.1 _ _ _ _ h2 h3 rfl
        simp at this
        omega
    · exact absurd hat.lt (Nat.not_lt.mpr h)
  refine wp_mem.mpr fun q hq => ?_
  rw [hK w1] at hq
  have hmem : ∀ q, q ∈ wl ∨ q ∈ wr → va_at D cl q H := fun q h => wp_mem.mp hP q (by rw [hK wc]; rcases h with h | h <;> simp [h])
  rcases List.mem_append.mp hq with h | h
  · rcases List.mem_append.mp h with h | h
    · exact (hmem q (Or.inl h)).kept (hapart q (Or.inl h) (hmem q (Or.inl h)))
    · exact wp_mem.mp hP1 q h
  · exact (hmem q (Or.inr h)).kept (hapart q (Or.inr h) (hmem q (Or.inr h)))
theorem wX_free {K : va_W → va_W} {wl wr wc : va_W} (hK : wX K wl wr) {A : Nat → Prop} {H0 H : Heap} {locs : List Loc} (hD : va_D A (K wc)) (hS : va_S A H0 H locs) (hA : ∀ q, H0.size ≤ q → A q) : ∀ q, va_A wc H.size q → A q := by
  rintro q (⟨i, e, hi⟩ | h)
  · exact (wX_D hK hD).2 i (q, e) hi
  · exact hA q (Nat.le_trans hS.1 h)
section GK
variable {p : Program} {l : Launch} {e : Env} {R : Room} {s : State} {m : MethodId} {args : Array Value} {below : List Frame} {meth : Method} {c : Code}
variable {cc : ByteArray} {nL : Nat} {own : String} {Ts : List Cond} {D : va_G} {TY : List (ClassId × FieldType)} {A : Nat → Prop}
variable {k j : Nat} {Q : State → Prop} {w : va_W} {lv : List (Nat × Value)} {pc : Nat} {st rest : List Value}
variable {y : MethodName} {bytes : ByteArray} {maxL fr lo n ix na : Nat} {ret : Option FieldType} {ws ws' : List Cond} {av As : List Value} {wc w1 wl wr : va_W} {K : va_W → va_W} {ex : Option String} {rv : Option Value} {E : String}
/-- behind a call that returned -/
theorem g_ret_of {H : Heap} {locs : List Loc} {ls : Array Slot} {a : Array Value} (hK : wX K wl wr) (hm : w1.map Prod.fst = wc.map Prod.fst) (hA : ∀ q : Nat, s.heap.size ≤ q → A q) (hP : va_P D vwCl (K wc) H) (hD : va_D A (K wc)) (hS : va_S A s.heap H locs) (hl : lv_has ls nL lv)
    (hr : vx_Run p l e R s m args below meth c H locs k j n (6 * n) (F0 m pc ls st) rest (mQ D wc w1 none rv H.size a) (mX D wc none H.size) (va_A wc H.size))
    (KK : G p l e R s m args below meth c D A nL (k + n) (j + 6 * n) Q (K w1) lv (pc + 3) (rv.toList ++ rest)) : W p l e R s m args below meth c H locs k j Q (F0 m pc ls st) := by
  intro T hT X
  rcases hr T hT X with ⟨v, st₀, t, T', L, h0, X', hL, e1, e2, ⟨⟨hv, -, hP1⟩, hz, hk⟩, stp⟩ | ⟨q, st₀, t, T', L, E, ce, h0, X', hL, e1, e2, ⟨⟨hE, -⟩, -⟩, -⟩
  · cases hv
    rw [h0] at hz hk
    rw [← e1] at hz hk hP1
    have hF := wX_free hK hD hS hA
    obtain ⟨t2, a1, b1⟩ := KK T'.heap (locs ++ L) ls (wX_join hK hP hD hk hP1) (wd_same (wX_map hK hm) hD)
      ⟨Nat.le_trans hS.1 hz, fun q h1 h2 => by rw [hk q (Nat.lt_of_lt_of_le h1 hS.1) (fun z => h2 (hF q z))]; exact hS.2.1 q h1 h2, fun q hq => by
        rcases List.mem_append.mp hq with h | h
        · exact hS.2.2 q h
        · exact hF _ (hL q h)⟩ hl T' rfl X'
    exact ⟨t2, stp t2 a1, b1⟩
  · cases hE
/-- what a body owes -/
def gQ (below : List Frame) (D : va_G) (w w' : va_W) (ex : Option String) (rv : Option Value) (n : Nat) (args : Array Value) (s : State) : State → Prop := vx_MQ below (mQ D w w' ex rv s.heap.size) (mX D w ex s.heap.size) args s n (6 * n) (va_A w s.heap.size)
/-- behind a call that threw: it goes on to the caller -/
theorem g_out_of {H : Heap} {locs : List Loc} {ls : Array Slot} {a : Array Value} {w' : va_W} {n0 : Nat} {rv0 : Option Value} (hout : ∀ x ∈ c.exceptionTable.toList, False) (hlocks : meth.locks = false) (hA : ∀ q : Nat, s.heap.size ≤ q → va_A wc s.heap.size q) (hK : wX K wl wr) (hw : K wc = w) (hP : va_P D vwCl (K wc) H) (hD : va_D (va_A w s.heap.size) (K wc)) (hS : va_S (va_A w s.heap.size) s.heap H locs)
    (hr : vx_Run p l e R s m args below meth c H locs k j n (6 * n) (F0 m pc ls st) rest (mQ D wc w1 (some E) rv H.size a) (mX D wc (some E) H.size) (va_A wc H.size)) (hn : k + n ≤ n0) (hj : j + 6 * n ≤ 6 * n0)
    : W p l e R s m args below meth c H locs k j (gQ below D w w' (some E) rv0 n0 args s) (F0 m pc ls st) := by
  have hA' : ∀ q : Nat, s.heap.size ≤ q → va_A w s.heap.size q := fun q h => Or.inr h
  intro T hT X
  rcases hr T hT X with ⟨v, st₀, t, T', L, h0, X', hL, e1, e2, ⟨⟨hv, hE, hP1⟩, hz, hk⟩, stp⟩ | ⟨q, st₀, t, T', L, E', ce, h0, X', hL, e1, e2, ⟨⟨hE, hP1⟩, hz, hk⟩, hce, hcv, hcl, stp⟩
  · cases hE
  · cases hE
    rw [h0] at hz hk
    rw [← e1] at hz hk hP1 hce
    have hF := wX_free hK hD hS hA'
    have hPn := wX_join hK hP hD hk hP1
    have hSn : va_S (va_A w s.heap.size) s.heap T'.heap (locs ++ L) := ⟨Nat.le_trans hS.1 hz, fun q h1 h2 => by rw [hk q (Nat.lt_of_lt_of_le h1 hS.1) (fun z => h2 (hF q z))]; exact hS.2.1 q h1 h2, fun q hq => by
        rcases List.mem_append.mp hq with h | h
        · exact hS.2.2 q h
        · exact hF _ (hL q h)⟩
    rw [hw] at hPn
    obtain ⟨t2, a1, b1⟩ := vx_out (Qc := mQ D w w' (some E) rv0 s.heap.size) (XC := mX D w (some E) s.heap.size) (free := va_A w s.heap.size) (mc := n0) (ms := 6 * n0) (pc := pc) (ls := ls) (rest := rest) (fun x hx => (hout x hx).elim) hlocks hce hcv hcl (fun t ht _ => ⟨⟨rfl, by rw [ht]; exact hPn⟩, by rw [va_F, ht]; exact ⟨hSn.1, hSn.2.1⟩⟩) hSn.2.2 hn hj T' rfl X'
    exact ⟨t2, stp.trans a1, b1⟩
/-- the callee's start -/
theorem mP_of {H : Heap} {locs : List Loc} (hK : wX K wl wr) (C : gC p s m args meth c cc nL own Ts D TY A) (hP : va_P D vwCl (K wc) H) (hD : va_D A (K wc)) (hS : va_S A s.heap H locs) : ∀ U : State, U.heap = H → s.WarmedH U.vm → mP D TY wc av H.size av.toArray U := by
  intro U hU hW
  refine ⟨rfl, by rw [hU], by rw [hU]; exact wX_P hK hP, va_K.moved hW.alike C.2.2.2.2.2.1, (wX_D hK hD).weaken (fun _ _ _ _ => trivial), ?_⟩
  exact XE.to C.2.2.2.2.2.2.2.2 hS hU hW (fun q h => wX_free hK hD hS C.2.2.2.2.2.2.1 q h)
/-- a static call that returns -/
theorem g_callS (K : va_W → va_W) (hK : wX K wl wr) (hM : MC l y ws fr lo D TY av wc w1 none rv n) (C : gC p s m args meth c cc nL own Ts D TY A) (hG : GoodIn Ts (va_wsS own ix y ws)) (hw : ws = Cond.code y bytes maxL ret :: ws')
    (hd : y.cls ≠ "java/lang/invoke/MethodHandle" ∧ y.cls ≠ "java/lang/invoke/VarHandle" ∧ (parseMethodDescriptor y.desc).map (fun d => d.parameters.length) = some na) (hna : av.length = na) (hR : fr + 1 ≤ R.frames ∧ 8 + (maxL + 11) + lo ≤ R.locals)
    (hst : st = av.reverse ++ rest) (hW : (rest.map fun v => v.category).sum ≤ 8) (hf : k + n ≤ R.cells ∧ j + 6 * n ≤ R.slots) (hm : w1.map Prod.fst = wc.map Prod.fst) (hdg : decode cc pc = .ok (.invokestatic ix, 3))
    (KK : G p l e R s m args below meth c D A nL (k + n) (j + 6 * n) Q (K w1) lv (pc + 3) (rv.toList ++ rest)) : G p l e R s m args below meth c D A nL k j Q (K wc) lv pc st := by
  subst hst; subst hna
  intro H locs ls hP hD hS hl
  refine g_ret_of hK hm C.2.2.2.2.2.2.1 hP hD hS hl (vx_runS (As := av) (rest := rest) ⟨C.1, C.2.1, C.2.2.1, C.2.2.2.1, C.2.2.2.2.1⟩ (hM H.size) (va_cwS av.length C.2.2.2.2.1 hG hw rfl rfl hd hR) ⟨mP_blind, mP_of hK C hP hD hS⟩ rfl rfl hl.1 rfl (lv_room hW) hdg hf) KK
/-- a call by an object that returns -/
theorem g_callV {C0 : String} {fs : List Value} {T : u_T} {N b ci : Nat} (K : va_W → va_W) (hK : wX K wl wr) (hM : MC l y ws fr lo D TY (.ref b :: As) wc w1 none rv n) (C : gC p s m args meth c cc nL own Ts D TY A) (hG : GoodIn Ts (wsV own ix C0 y ws)) (hw : ws = Cond.code y bytes maxL ret :: ws')
    (hd : y.cls = C0 ∧ y.cls ≠ "java/lang/invoke/MethodHandle" ∧ y.cls ≠ "java/lang/invoke/VarHandle" ∧ (parseMethodDescriptor y.desc).map (fun d => d.parameters.length) = some na) (hna : As.length = na) (hR : fr + 1 ≤ R.frames ∧ 8 + (maxL + 11) + lo ≤ R.locals)
    (he : wc[0]? = some (b, .inr (ci, fs))) (hc : vwCl[ci]? = some (C0, T, N))
    (hst : st = As.reverse ++ .ref b :: rest) (hW : (rest.map fun v => v.category).sum ≤ 8) (hf : k + n ≤ R.cells ∧ j + 6 * n ≤ R.slots) (hm : w1.map Prod.fst = wc.map Prod.fst) (hdg : decode cc pc = .ok (.invokevirtual ix, 3))
    (KK : G p l e R s m args below meth c D A nL (k + n) (j + 6 * n) Q (K w1) lv (pc + 3) (rv.toList ++ rest)) : G p l e R s m args below meth c D A nL k j Q (K wc) lv pc st := by
  subst hst; subst hna
  intro H locs ls hP hD hS hl
  refine g_ret_of hK hm C.2.2.2.2.2.2.1 hP hD hS hl (vx_runV (As := As) (rest := rest) ⟨C.1, C.2.1, C.2.2.1, C.2.2.2.1, C.2.2.2.2.1⟩ (hM H.size) (cwV As.length C.2.2.2.2.1 hG hw rfl rfl hd hR) ⟨mP_blind, va_recv C.2.2.2.2.2.1 (wX_P hK hP) hc he, mP_of hK C hP hD hS⟩ rfl rfl hl.1 rfl (lv_room hW) hdg hf) KK
/-- a static call that throws: so does this method -/
theorem g_callSX {w' : va_W} {n0 : Nat} {rv0 : Option Value} (hM : MC l y ws fr lo D TY av w w1 (some E) rv n) (C : gC p s m args meth c cc nL own Ts D TY (va_A w s.heap.size)) (hG : GoodIn Ts (va_wsS own ix y ws)) (hw : ws = Cond.code y bytes maxL ret :: ws')
    (hd : y.cls ≠ "java/lang/invoke/MethodHandle" ∧ y.cls ≠ "java/lang/invoke/VarHandle" ∧ (parseMethodDescriptor y.desc).map (fun d => d.parameters.length) = some na) (hna : av.length = na) (hR : fr + 1 ≤ R.frames ∧ 8 + (maxL + 11) + lo ≤ R.locals)
    (hst : st = av.reverse ++ rest) (hW : (rest.map fun v => v.category).sum ≤ 8) (hf : k + n ≤ R.cells ∧ j + 6 * n ≤ R.slots) (hout : ∀ x ∈ c.exceptionTable.toList, False) (hn : k + n ≤ n0) (hj : j + 6 * n ≤ 6 * n0) (hex : ex = some E) (hdg : decode cc pc = .ok (.invokestatic ix, 3))
    : G p l e R s m args below meth c D (va_A w s.heap.size) nL k j (gQ below D w w' ex rv0 n0 args s) w lv pc st := by
  subst hst; subst hna
  subst hex
  intro H locs ls hP hD hS hl
  exact g_out_of hout C.2.2.2.2.2.2.2.1 (fun q h => Or.inr h) wX_id rfl hP hD hS (vx_runS (As := av) (rest := rest) ⟨C.1, C.2.1, C.2.2.1, C.2.2.2.1, C.2.2.2.2.1⟩ (hM H.size) (va_cwS av.length C.2.2.2.2.1 hG hw rfl rfl hd hR) ⟨mP_blind, mP_of wX_id C hP hD hS⟩ rfl rfl hl.1 rfl (lv_room hW) hdg hf) hn hj
/-- a call by an object that throws: so does this method -/
theorem g_callVX {C0 : String} {fs : List Value} {T : u_T} {N b ci : Nat} {w' : va_W} {n0 : Nat} {rv0 : Option Value} (hM : MC l y ws fr lo D TY (.ref b :: As) w w1 (some E) rv n) (C : gC p s m args meth c cc nL own Ts D TY (va_A w s.heap.size)) (hG : GoodIn Ts (wsV own ix C0 y ws)) (hw : ws = Cond.code y bytes maxL ret :: ws')
    (hd : y.cls = C0 ∧ y.cls ≠ "java/lang/invoke/MethodHandle" ∧ y.cls ≠ "java/lang/invoke/VarHandle" ∧ (parseMethodDescriptor y.desc).map (fun d => d.parameters.length) = some na) (hna : As.length = na) (hR : fr + 1 ≤ R.frames ∧ 8 + (maxL + 11) + lo ≤ R.locals)
    (he : w[0]? = some (b, .inr (ci, fs))) (hc : vwCl[ci]? = some (C0, T, N))
    (hst : st = As.reverse ++ .ref b :: rest) (hW : (rest.map fun v => v.category).sum ≤ 8) (hf : k + n ≤ R.cells ∧ j + 6 * n ≤ R.slots) (hout : ∀ x ∈ c.exceptionTable.toList, False) (hn : k + n ≤ n0) (hj : j + 6 * n ≤ 6 * n0) (hex : ex = some E) (hdg : decode cc pc = .ok (.invokevirtual ix, 3))
    : G p l e R s m args below meth c D (va_A w s.heap.size) nL k j (gQ below D w w' ex rv0 n0 args s) w lv pc st := by
  subst hst; subst hna
  subst hex
  intro H locs ls hP hD hS hl
  exact g_out_of hout C.2.2.2.2.2.2.2.1 (fun q h => Or.inr h) wX_id rfl hP hD hS (vx_runV (As := As) (rest := rest) ⟨C.1, C.2.1, C.2.2.1, C.2.2.2.1, C.2.2.2.2.1⟩ (hM H.size) (cwV As.length C.2.2.2.2.1 hG hw rfl rfl hd hR) ⟨mP_blind, va_recv C.2.2.2.2.2.1 (wX_P wX_id hP) hc he, mP_of wX_id C hP hD hS⟩ rfl rfl hl.1 rfl (lv_room hW) hdg hf) hn hj
-- ends
theorem g_iret {v : Int32} {ty : FieldType} {w0 w' : va_W} {n : Nat} (C : gC p s m args meth c cc nL own Ts D TY (va_A w0 s.heap.size)) (hr : meth.sig.returnType = some ty) (hn : narrow ty (.int v) = .int v) (hd : decode cc pc = .ok (.ireturn, 1)) (hk : k ≤ n) (hj : j ≤ 6 * n) (hex : ex = none) (hrv : some (.int v) = rv) (hw : w = w') : G p l e R s m args below meth c D (va_A w0 s.heap.size) nL k j (gQ below D w0 w' ex rv n args s) w lv pc [.int v] := by
  intro H locs ls hP hD hS hl
  subst hw; subst hex; subst hrv
  refine vx_ret (W.widen hk hj (W.zret (v := v) C.1 C.2.1 hr hn (fun t ht hW => ⟨⟨rfl, rfl, by rw [ht]; exact hP⟩, hS.F ht⟩) hS.2.2 hd C.2.2.2.2.2.2.2.1))
theorem g_vret {w0 w' : va_W} {n : Nat} (C : gC p s m args meth c cc nL own Ts D TY (va_A w0 s.heap.size)) (hr : meth.sig.returnType = none) (hd : decode cc pc = .ok (.return_, 1)) (hk : k ≤ n) (hj : j ≤ 6 * n) (hex : ex = none) (hrv : none = rv) (hw : w = w') : G p l e R s m args below meth c D (va_A w0 s.heap.size) nL k j (gQ below D w0 w' ex rv n args s) w lv pc [] := by
  intro H locs ls hP hD hS hl
  subst hw; subst hex; subst hrv
  refine vx_ret (W.widen hk hj (W.vret C.1 C.2.1 hr (fun t ht hW => ⟨⟨rfl, rfl, by rw [ht]; exact hP⟩, hS.F ht⟩) hS.2.2 hd C.2.2.2.2.2.2.2.1))
/-- throw new E("text") -/
theorem g_throw {cls text : String} {ik is ic : Nat} {w' : va_W} {n : Nat} (C : gC p s m args meth c cc nL own Ts D TY (va_A w s.heap.size)) (hl : l.stackTraces = false) (how : own = RX0) (hcls : Bundle.fit cls = true) (hk : Cond.classLink own ik cls ∈ Ts) (hini : Cond.initialized cls ∈ Ts) (hgw : ∀ w ∈ (vx_atS own ic cls xeN).filter goodWord, w ∈ Ts) (hbw : ∀ w ∈ (vx_atS own ic cls xeN).filter (fun w => !goodWord w), w ∈ xeB)
    (hgood : ∀ w ∈ Cond.classLink own ik cls :: Cond.initialized cls :: vx_atS own ic cls xeN, vx_ot w = true) (hs : (is, text) ∈ xeStr) (hout : ∀ x ∈ c.exceptionTable.toList, False)
    (d0 : decode cc pc = .ok (.new ik, 3)) (d3 : decode cc (pc + 3) = .ok (.dup, 1)) (d4 : decode cc (pc + 4) = .ok (.ldc is, 2)) (d6 : decode cc (pc + 6) = .ok (.invokespecial ic, 3)) (d9 : decode cc (pc + 9) = .ok (.athrow, 1))
    (hRf : 5 < R.frames) (hRl : (rest.map fun v => v.category).sum + 82 ≤ R.locals) (hRc : k + 1 ≤ R.cells) (hRs : j + 6 ≤ R.slots) (hn : k + 1 ≤ n) (hj : j + 6 ≤ 6 * n) (hex : ex = some cls)
    : G p l e R s m args below meth c D (va_A w s.heap.size) nL k j (gQ below D w w' ex rv n args s) w lv pc rest := by
  intro H locs ls hP hD hS hlv
  subst hex
  have X := C.2.2.2.2.2.2.2.2
  obtain ⟨sa, hsa⟩ := X.2.2.1 _ hs
  have hB : ∀ w ∈ xeB, w.before args s = true := fun w hw => va_Nw.use (xeB_tab w hw) (X.2.2.2.1 w hw)
  refine vx_throwS (text := text) (names := xeN) (sa := sa) (A := va_A w s.heap.size) C.1 C.2.1 hl C.2.2.2.1 hcls (by decide +kernel) (C.2.2.2.2.1 _ hk) (C.2.2.2.2.1 _ hini) (by rw [how]; exact hsa) (vx_hat (fun w h => C.2.2.2.2.1 w (hgw w h)) hbw hB) hgood X.1 X.2.1 hS (hlv.1.trans C.2.2.1.symm) d0 d3 d4 d6 d9 (fun x hx => (hout x hx).elim) hRf hRl hRc hRs C.2.2.2.2.2.2.2.1 ?_ hS.2.2 hn hj
  intro t hal hz hq
  refine ⟨⟨rfl, ?_⟩, Nat.le_trans hS.1 hz, fun q h1 h2 => (hq q (Nat.lt_of_lt_of_le h1 hS.1)).trans (hS.2.1 q h1 h2)⟩
  exact hP.kept fun i q hi => hq q.1 (hP i q hi).lt
end GK
/-- a method's body, walked, gives its contract -/
theorem MC.ofG {l : Launch} {y : MethodName} {ws ws' : List Cond} {fr lo : Nat} {D : va_G} {TY : List (ClassId × FieldType)} {av : List Value} {w w' : va_W} {ex : Option String} {rv : Option Value} {n : Nat} {cc : ByteArray} {maxL : Nat} {ret : Option FieldType} (lv0 : List (Nat × Value)) (hy : plainName y.cls = true) (hw : ws = Cond.code y cc maxL ret :: ws') (hlen : (lg_sl av).length ≤ maxL) (hlv : lv_args 0 av = lv0)
    (body : ∀ (p : Program) (e : Env) (s : State) (m : MethodId) (args : Array Value) (below : List Frame) (meth : Method) (c : Code), gC p s m args meth c cc maxL y.cls ws D TY (va_A w s.heap.size) → meth.sig.returnType = ret → (∀ x ∈ c.exceptionTable.toList, False) →
      G p l e { frames := fr, cells := n, slots := 6 * n, locals := lo } s m args below meth c D (va_A w s.heap.size) maxL 0 0 (gQ below D w w' ex rv n args s) w lv0 0 []) : MC l y ws fr lo D TY av w w' ex rv n := by
  intro sz
  refine vx_ofW (cc := cc) (maxL := maxL) (ret := ret) hy hw ?_
  intro p e s m args below meth c s₁ B hml hout hv
  obtain ⟨rfl, rfl, hP, hK, hD0, hX⟩ := hv
  have hl := lv_entry av (n := maxL) hlen
  rw [lg_entry_eq]
  rw [hlv] at hl
  exact body p e s m _ below meth c ⟨B.exec, B.bytes, hml, findClass_of_methodNamed B.named, atoms_spec (ws := ws) B.pre, hK, fun q h => Or.inr h, B.notSynchronized, hX⟩ B.returns hout s.heap [] _ hP hD0.self va_S.rf hl
end
section
/-! The states of the book and of the reference as data; the worlds that hold them; plain facts. -/
abbrev gS : Type := (Nat → Int32) × (Nat → Nat → Int32)
def sS (σ : gS) (k : Nat) (v : Int32) : gS := (upd σ.1 k v, σ.2)
def sA (σ : gS) (k : Nat) (f : Nat → Int32) : gS := (σ.1, va_up σ.2 k f)
/-- the book: its numbers, and its arrays in the order of its fields -/
def wA (cI : ClassId) (h : Nat → Nat) (σ : gS) : va_W := [(h 0, .inr (0, [.int (σ.1 0), .int (σ.1 1), .int (σ.1 2), .int (σ.1 3), .int (σ.1 4), .ref (h 1), .ref (h 2), .ref (h 3), .ref (h 4), .ref (h 5), .ref (h 6), .ref (h 7), .ref (h 8), .ref (h 9), .ref (h 10), .ref (h 11), .ref (h 12)])),
  (h 1, .inl (cI, 18, .inl (σ.2 0))), (h 2, .inl (cI, 12, .inl (σ.2 1))), (h 3, .inl (cI, 12, .inl (σ.2 2))), (h 4, .inl (cI, 1284, .inl (σ.2 3))), (h 5, .inl (cI, 8, .inl (σ.2 4))), (h 6, .inl (cI, 8, .inl (σ.2 5))), (h 7, .inl (cI, 8, .inl (σ.2 6))), (h 8, .inl (cI, 8, .inl (σ.2 7))), (h 9, .inl (cI, 8, .inl (σ.2 8))), (h 10, .inl (cI, 8, .inl (σ.2 9))), (h 11, .inl (cI, 4, .inl (σ.2 10))), (h 12, .inl (cI, 4, .inl (σ.2 11)))]
/-- the reference: thrown, pigments, tubes, pots, pictures, today; its arrays in the order of its fields -/
def wM (cI : ClassId) (h : Nat → Nat) (τ : gS) : va_W := [(h 0, .inr (1, [.int (τ.1 0), .int (τ.1 1), .ref (h 1), .int (τ.1 2), .ref (h 2), .ref (h 3), .ref (h 4), .int (τ.1 3), .ref (h 5), .int (τ.1 4), .ref (h 6), .ref (h 7), .ref (h 8), .ref (h 9), .ref (h 10), .ref (h 11), .ref (h 12), .ref (h 13), .ref (h 14), .int (τ.1 5), .ref (h 15), .ref (h 16)])),
  (h 1, .inl (cI, 18, .inl (τ.2 0))), (h 2, .inl (cI, 12, .inl (τ.2 1))), (h 3, .inl (cI, 12, .inl (τ.2 2))), (h 4, .inl (cI, 12, .inl (τ.2 3))), (h 5, .inl (cI, 120, .inl (τ.2 4))), (h 6, .inl (cI, 8, .inl (τ.2 5))), (h 7, .inl (cI, 1152, .inl (τ.2 6))), (h 8, .inl (cI, 8, .inl (τ.2 7))), (h 9, .inl (cI, 8, .inl (τ.2 8))), (h 10, .inl (cI, 8, .inl (τ.2 9))), (h 11, .inl (cI, 8, .inl (τ.2 10))), (h 12, .inl (cI, 8, .inl (τ.2 11))), (h 13, .inl (cI, 4, .inl (τ.2 12))), (h 14, .inl (cI, 4, .inl (τ.2 13))), (h 15, .inl (cI, 12, .inl (τ.2 14))), (h 16, .inl (cI, 6, .inl (τ.2 15)))]
abbrev tyIJ (cI cJ : ClassId) : List (ClassId × FieldType) := [(cI, .int)]
def isum (f : Nat → Int32) : Nat → Int32
  | 0 => 0
  | n + 1 => isum f n + f n
abbrev bad (n c : Int32) : Prop := n < 0 ∨ ¬ n < c
abbrev out (v lo hi : Int32) : Prop := v < lo ∨ ¬ v ≤ hi
def bI (c : Prop) [Decidable c] : Int32 := if c then 1 else 0
theorem bI_1 {c : Prop} [Decidable c] (h : c) : bI c = 1 := if_pos h
theorem bI_0 {c : Prop} [Decidable c] (h : ¬ c) : bI c = 0 := if_neg h
theorem bI_ne {c : Prop} [Decidable c] (h : ¬ bI c = 0) : c := Classical.byContradiction fun q => h (bI_0 q)
theorem bI_eq {c : Prop} [Decidable c] (h : bI c = 0) : ¬ c := fun q => by rw [bI_1 q] at h; exact absurd h (by decide)
/-- the exceptions by numbers -/
def exT : Nat → Option String
  | 0 => none
  | 1 => some eIOB
  | 2 => some eIAE
  | _ => some eISE
def nT : Nat → Nat
  | 0 => 0
  | _ => 1
def exB (E : String) (c : Prop) [Decidable c] : Option String := if c then some E else none
def nB (c : Prop) [Decidable c] : Nat := if c then 1 else 0
theorem nb_of {x c : Int32} {N : Nat} (hc : c = nI N) (hN : N < 2 ^ 31) (h : ¬ bad x c) : ∃ a : Nat, a < N ∧ x = nI a := by
  have h1 : ¬ x < 0 := fun q => h (Or.inl q)
  have h2 : x < c := Classical.byContradiction fun q => h (Or.inr q)
  obtain ⟨a, ha, rfl⟩ := nI_of h1
  exact ⟨a, by rw [hc] at h2; exact (nI_ltI ha hN).mp h2, rfl⟩
theorem nb_in {a N : Nat} (ha : a < N) (hN : N < 2 ^ 31) : ¬ bad (nI a) (nI N) := by
  rintro (h | h)
  · exact nI_pos (by omega) h
  · exact h (nI_lt ha hN)
theorem i32_le {x y : Int32} : x ≤ y ↔ x.toInt ≤ y.toInt := Int32.le_iff_toInt_le
theorem i32_lt {x y : Int32} : x < y ↔ x.toInt < y.toInt := Int32.lt_iff_toInt_lt
theorem i32_eq {x y : Int32} : x = y ↔ x.toInt = y.toInt := ⟨fun h => by rw [h], fun h => Int32.toInt_inj.mp h⟩
section GN
variable {p : Program} {l : Launch} {e : Env} {R : Room} {s : State} {m : MethodId} {args : Array Value} {below : List Frame} {meth : Method} {c : Code}
variable {cc : ByteArray} {nL : Nat} {own : String} {Ts : List Cond} {D : va_G} {TY : List (ClassId × FieldType)} {A : Nat → Prop}
variable {k j : Nat} {Q : State → Prop} {w : va_W} {lv : List (Nat × Value)} {pc : Nat} {st rest : List Value}
theorem g_iaddN (a b : Nat) (C : gC p s m args meth c cc nL own Ts D TY A) (hd : decode cc pc = .ok (.iadd, 1)) (K : G p l e R s m args below meth c D A nL k j Q w lv (pc + 1) (.int (nI (a + b)) :: st)) : G p l e R s m args below meth c D A nL k j Q w lv pc (.int (nI b) :: .int (nI a) :: st) :=
  g_iadd C hd (by rw [nI_add]; exact K)
theorem g_imulN (a b : Nat) (C : gC p s m args meth c cc nL own Ts D TY A) (hd : decode cc pc = .ok (.imul, 1)) (K : G p l e R s m args below meth c D A nL k j Q w lv (pc + 1) (.int (nI (a * b)) :: st)) : G p l e R s m args below meth c D A nL k j Q w lv pc (.int (nI b) :: .int (nI a) :: st) :=
  g_imul C hd (by rw [pk_mul]; exact K)
theorem g_isubN (a b : Nat) (C : gC p s m args meth c cc nL own Ts D TY A) (h : b ≤ a) (hd : decode cc pc = .ok (.isub, 1)) (K : G p l e R s m args below meth c D A nL k j Q w lv (pc + 1) (.int (nI (a - b)) :: st)) : G p l e R s m args below meth c D A nL k j Q w lv pc (.int (nI b) :: .int (nI a) :: st) :=
  g_isub C hd (by rw [pk_sub h]; exact K)
theorem g_iincN {i : Nat} {n : Int} (q a b : Nat) (lv' : List (Nat × Value)) (C : gC p s m args meth c cc nL own Ts D TY A) (hd : decode cc pc = .ok (.iinc i n, 3)) (hj : lv[q]? = some (i, .int (nI a))) (hv : Int32.ofInt n = nI b) (hn : i < nL) (hl : (i, Value.int (nI (a + b))) :: lv.filter (fun q => !(q.1 == i) && !(q.1 + 1 == i && q.2.category == 2)) = lv') (K : G p l e R s m args below meth c D A nL k j Q w lv' (pc + 3) st) : G p l e R s m args below meth c D A nL k j Q w lv pc st :=
  g_iinc q (nI (a + b)) lv' C hd hj (by rw [hv, nI_add]) hn hl K
theorem g_ialdN {cA : ClassId} {n a : Nat} {f : Nat → Int32} (i q0 t0 : Nat) (C : gC p s m args meth c cc nL own Ts D TY A) (ha : w[q0]? = some (a, .inl (cA, n, .inl f))) (ht : TY[t0]? = some (cA, .int)) (hin : i < n) (hN : n < 2 ^ 31) (hd : decode cc pc = .ok (.iaload, 1)) (K : G p l e R s m args below meth c D A nL k j Q w lv (pc + 1) (.int (f i) :: st)) : G p l e R s m args below meth c D A nL k j Q w lv pc (.int (nI i) :: .ref a :: st) :=
  g_iald q0 t0 C ha ht (vp_in_nI hin hN) hd (by rw [nI_clamp (by omega)]; exact K)
theorem g_iastN {cA : ClassId} {n a : Nat} {f : Nat → Int32} {x : Int32} (i q0 t0 : Nat) (w' : va_W) (C : gC p s m args meth c cc nL own Ts D TY A) (ha : w[q0]? = some (a, .inl (cA, n, .inl f))) (ht : TY[t0]? = some (cA, .int)) (hin : i < n) (hN : n < 2 ^ 31) (hw' : w.set q0 (a, .inl (cA, n, .inl (upd f i x))) = w') (hd : decode cc pc = .ok (.iastore, 1)) (K : G p l e R s m args below meth c D A nL k j Q w' lv (pc + 1) st) : G p l e R s m args below meth c D A nL k j Q w lv pc (.int x :: .int (nI i) :: .ref a :: st) :=
  g_iast q0 t0 w' C ha ht (vp_in_nI hin hN) (by rw [nI_clamp (by omega)]; exact hw') hd K
end GN
section GM
variable {p : Program} {l : Launch} {e : Env} {R : Room} {s : State} {m : MethodId} {args : Array Value} {below : List Frame} {meth : Method} {c : Code}
variable {cc : ByteArray} {nL : Nat} {own : String} {Ts : List Cond} {D : va_G} {TY : List (ClassId × FieldType)} {A : Nat → Prop}
variable {k j : Nat} {Q : State → Prop} {w : va_W} {lv : List (Nat × Value)} {pc : Nat} {st rest : List Value}
variable {y : MethodName} {bytes : ByteArray} {maxL fr lo ix na : Nat} {ret : Option FieldType} {ws ws' : List Cond} {av As : List Value} {w1 : va_W} {rv : Option Value}
theorem g_callS0 (hM : MC l y ws fr lo D TY av w w1 none rv 0) (C : gC p s m args meth c cc nL own Ts D TY A) (hG : GoodIn Ts (va_wsS own ix y ws)) (hw : ws = Cond.code y bytes maxL ret :: ws')
    (hd : y.cls ≠ "java/lang/invoke/MethodHandle" ∧ y.cls ≠ "java/lang/invoke/VarHandle" ∧ (parseMethodDescriptor y.desc).map (fun d => d.parameters.length) = some na) (hna : av.length = na) (hR : fr + 1 ≤ R.frames ∧ 8 + (maxL + 11) + lo ≤ R.locals)
    (hst : st = av.reverse ++ rest) (hW : (rest.map fun v => v.category).sum ≤ 8) (hf : k ≤ R.cells ∧ j ≤ R.slots) (hm : w1.map Prod.fst = w.map Prod.fst) (hdg : decode cc pc = .ok (.invokestatic ix, 3))
    (KK : G p l e R s m args below meth c D A nL k j Q w1 lv (pc + 3) (rv.toList ++ rest)) : G p l e R s m args below meth c D A nL k j Q w lv pc st :=
  g_callS (fun w => w) wX_id hM C hG hw hd hna hR hst hW hf hm hdg KK
theorem g_callV0 {C0 : String} {fs : List Value} {T : u_T} {N b ci : Nat} (hM : MC l y ws fr lo D TY (.ref b :: As) w w1 none rv 0) (C : gC p s m args meth c cc nL own Ts D TY A) (hG : GoodIn Ts (wsV own ix C0 y ws)) (hw : ws = Cond.code y bytes maxL ret :: ws')
    (hd : y.cls = C0 ∧ y.cls ≠ "java/lang/invoke/MethodHandle" ∧ y.cls ≠ "java/lang/invoke/VarHandle" ∧ (parseMethodDescriptor y.desc).map (fun d => d.parameters.length) = some na) (hna : As.length = na) (hR : fr + 1 ≤ R.frames ∧ 8 + (maxL + 11) + lo ≤ R.locals)
    (he : w[0]? = some (b, .inr (ci, fs))) (hc : vwCl[ci]? = some (C0, T, N))
    (hst : st = As.reverse ++ .ref b :: rest) (hW : (rest.map fun v => v.category).sum ≤ 8) (hf : k ≤ R.cells ∧ j ≤ R.slots) (hm : w1.map Prod.fst = w.map Prod.fst) (hdg : decode cc pc = .ok (.invokevirtual ix, 3))
    (KK : G p l e R s m args below meth c D A nL k j Q w1 lv (pc + 3) (rv.toList ++ rest)) : G p l e R s m args below meth c D A nL k j Q w lv pc st :=
  g_callV (fun w => w) wX_id hM C hG hw hd hna hR he hc hst hW hf hm hdg KK
end GM
end
section
/-! What the book's methods answer, as functions of its state. -/
section GX
variable {p : Program} {l : Launch} {e : Env} {R : Room} {s : State} {m : MethodId} {args : Array Value} {below : List Frame} {meth : Method} {c : Code}
variable {cc : ByteArray} {nL : Nat} {own : String} {Ts : List Cond} {D : va_G} {TY : List (ClassId × FieldType)} {A : Nat → Prop}
variable {k j : Nat} {Q : State → Prop} {w : va_W} {lv : List (Nat × Value)} {pc : Nat} {st rest : List Value}
theorem g_max {ix : Nat} {x y : Int32} (C : gC p s m args meth c cc nL own Ts D TY A) (h1 : Cond.methodLink own ix Lib.Math.max.name ∈ Ts) (h2 : Cond.static Lib.Math.max.name ∈ Ts) (h3 : Cond.initialized "java/lang/Math" ∈ Ts) (h4 : Cond.code Lib.Math.max.name Lib.Math.max.code 2 (some .int) ∈ Ts) (hf : 1 ≤ R.frames) (hl : (st.map fun v => v.category).sum + 13 ≤ R.locals) (hc : k ≤ R.cells) (hs : j ≤ R.slots) (hd : decode cc pc = .ok (.invokestatic ix, 3)) (K : G p l e R s m args below meth c D A nL k j Q w lv (pc + 3) (.int (if x < y then y else x) :: st)) : G p l e R s m args below meth c D A nL k j Q w lv pc (.int y :: .int x :: st) :=
  fun H locs ls hP hD hS hv => va_mmax C.1 C.2.1 (C.2.2.1.trans hv.1.symm) C.2.2.2.1 (C.2.2.2.2.1 _ h1) (C.2.2.2.2.1 _ h2) (C.2.2.2.2.1 _ h3) (C.2.2.2.2.1 _ h4) hf hl hc hs hd (K H locs ls hP hD hS hv)
theorem g_min {ix : Nat} {x y : Int32} (C : gC p s m args meth c cc nL own Ts D TY A) (h1 : Cond.methodLink own ix Lib.Math.min.name ∈ Ts) (h2 : Cond.static Lib.Math.min.name ∈ Ts) (h3 : Cond.initialized "java/lang/Math" ∈ Ts) (h4 : Cond.code Lib.Math.min.name Lib.Math.min.code 2 (some .int) ∈ Ts) (hf : 1 ≤ R.frames) (hl : (st.map fun v => v.category).sum + 13 ≤ R.locals) (hc : k ≤ R.cells) (hs : j ≤ R.slots) (hd : decode cc pc = .ok (.invokestatic ix, 3)) (K : G p l e R s m args below meth c D A nL k j Q w lv (pc + 3) (.int (if y < x then y else x) :: st)) : G p l e R s m args below meth c D A nL k j Q w lv pc (.int y :: .int x :: st) :=
  fun H locs ls hP hD hS hv => va_mmin C.1 C.2.1 (C.2.2.1.trans hv.1.symm) C.2.2.2.1 (C.2.2.2.2.1 _ h1) (C.2.2.2.2.1 _ h2) (C.2.2.2.2.1 _ h3) (C.2.2.2.2.1 _ h4) hf hl hc hs hd (K H locs ls hP hD hS hv)
theorem g_abs {ix : Nat} {x : Int32} (C : gC p s m args meth c cc nL own Ts D TY A) (h1 : Cond.methodLink own ix Lib.Math.abs.name ∈ Ts) (h2 : Cond.static Lib.Math.abs.name ∈ Ts) (h3 : Cond.initialized "java/lang/Math" ∈ Ts) (h4 : Cond.code Lib.Math.abs.name Lib.Math.abs.code 1 (some .int) ∈ Ts) (hf : 1 ≤ R.frames) (hl : (st.map fun v => v.category).sum + 13 ≤ R.locals) (hc : k ≤ R.cells) (hs : j ≤ R.slots) (hd : decode cc pc = .ok (.invokestatic ix, 3)) (K : G p l e R s m args below meth c D A nL k j Q w lv (pc + 3) (.int (if 0 ≤ x then x else 0 - x) :: st)) : G p l e R s m args below meth c D A nL k j Q w lv pc (.int x :: st) :=
  fun H locs ls hP hD hS hv => va_mabs C.1 C.2.1 (C.2.2.1.trans hv.1.symm) C.2.2.2.1 (C.2.2.2.2.1 _ h1) (C.2.2.2.2.1 _ h2) (C.2.2.2.2.1 _ h3) (C.2.2.2.2.1 _ h4) hf hl hc hs hd (K H locs ls hP hD hS hv)
end GX
/-- the counts and the places that the book's numbers point at -/
def iA (σ : gS) (np nt no ni : Nat) : Prop := (σ.1 0 = nI np ∧ np ≤ 6) ∧ (σ.1 1 = nI nt ∧ nt ≤ 12) ∧ (σ.1 2 = nI no ∧ no ≤ 10) ∧ (σ.1 3 = nI ni ∧ ni ≤ 8) ∧ (∀ t, ∃ j, j < 6 ∧ σ.2 1 t = nI j) ∧ (∀ q, ∃ j, j ≤ 12 ∧ σ.2 4 q = nI j) ∧ (∀ q, ∃ j, j < 4 ∧ σ.2 8 q = nI j)
abbrev cl (x : Int32) : Nat := x.toNatClampNeg
theorem cl_nI {n : Nat} (h : n < 2 ^ 31) : cl (nI n) = n := nI_clamp h
def rowS (L : Nat → Int32) (r : Nat) : Nat → Int32 := isum (fun t => L (r * 12 + t))
def tubS (L : Nat → Int32) (t f : Nat) : Nat → Int32 := isum (fun i => L ((f + i) * 12 + t))
def mvL (L : Nat → Int32) (f t : Nat) (fl : Nat → Int32) : Nat → Nat → Int32
  | 0 => L
  | n + 1 => upd (upd (mvL L f t fl n) (f * 12 + n) (mvL L f t fl n (f * 12 + n) - fl n)) (t * 12 + n) (upd (mvL L f t fl n) (f * 12 + n) (mvL L f t fl n (f * 12 + n) - fl n) (t * 12 + n) + fl n)
def flw (L : Nat → Int32) (r : Nat) (g all : Int32) : Nat → Int32 := fun n => (rowS L r n + L (r * 12 + n)) * g / all - rowS L r n * g / all
theorem mvL_at (L : Nat → Int32) (f t : Nat) (fl : Nat → Int32) : ∀ (n m : Nat), n ≤ m → m < 12 → mvL L f t fl n (f * 12 + m) = L (f * 12 + m)
  | 0, m, _, _ => rfl
  | n + 1, m, h, h2 => by
    have h1 : f * 12 + m ≠ f * 12 + n := by omega
    have h3 : f * 12 + m ≠ t * 12 + n := by omega
    rw [mvL, upd, if_neg h3, upd, if_neg h1]
    exact mvL_at L f t fl n m (by omega) h2
def wzL (L : Nat → Int32) (r : Nat) : Nat → Nat → Int32
  | 0 => L
  | n + 1 => upd (upd (wzL L r n) (r * 12 + n) 0) (106 * 12 + n) (upd (wzL L r n) (r * 12 + n) 0 (106 * 12 + n) + L (r * 12 + n))
theorem wzL_at (L : Nat → Int32) (r : Nat) : ∀ (n m : Nat), n ≤ m → m < 12 → r < 106 → wzL L r n (r * 12 + m) = L (r * 12 + m)
  | 0, m, _, _, _ => rfl
  | n + 1, m, h, h2, h4 => by
    have h1 : r * 12 + m ≠ r * 12 + n := by omega
    have h3 : r * 12 + m ≠ 106 * 12 + n := by omega
    rw [wzL, upd, if_neg h3, upd, if_neg h1]
    exact wzL_at L r n m (by omega) h2 h4
def colT (σ : gS) (t ch : Nat) : Int32 := σ.2 0 (cl (σ.2 1 t) * 3 + ch)
def colR (σ : gS) (nt r ch : Nat) : Int32 := if rowS (σ.2 3) r nt = 0 then -1 else isum (fun t => σ.2 3 (r * 12 + t) * colT σ t ch) nt / rowS (σ.2 3) r nt
def gopN (σ : gS) (r : Nat) (k : Int32) : Nat → Int32
  | 0 => 0
  | n + 1 => if σ.2 1 n = k then gopN σ r k n + σ.2 3 (r * 12 + n) else gopN σ r k n
def mpr (g : Nat → Int32) : Nat → Int32 × Int32
  | 0 => (-1, 0)
  | n + 1 => if g n ≤ (mpr g n).2 then mpr g n else (nI n, g n)
def mixd (σ : gS) (a b : Nat) (q : Int32) (ch : Nat) : Int32 := (q * colT σ a ch + (4 - q) * colT σ b ch) / 4
def topR (σ : gS) (q : Nat) : Nat := 10 + q * 12 + (cl (σ.2 4 q) - 1)
def mpo (σ : gS) (np nt q : Nat) : Int32 := if σ.2 4 q = 0 then -1 else (mpr (fun k => gopN σ (topR σ q) (nI k) nt) np).1
def lko (σ : gS) (nt q ch : Nat) : Int32 := if σ.2 4 q = 0 then -1 else colR σ nt (topR σ q) ch
def alk (σ : gS) (np nt : Nat) (mn : Int32) : Nat → Int32 × Int32
  | 0 => (0, 0)
  | n + 1 => if ¬ σ.2 6 n ≤ 0 ∧ mpo σ np nt n = mn then ((alk σ np nt mn n).1 + σ.2 6 n, (alk σ np nt mn n).2 + 1) else alk σ np nt mn n
def avgA (σ : gS) (np nt ni q : Nat) : Int32 := if mpo σ np nt q = -1 then 0 else if (alk σ np nt (mpo σ np nt q) ni).2 = 0 then 0 else (alk σ np nt (mpo σ np nt q) ni).1 / (alk σ np nt (mpo σ np nt q) ni).2
def valA (σ : gS) (np nt ni q : Nat) : Int32 := if 0 < avgA σ np nt ni q - σ.2 5 q * (avgA σ np nt ni q / 20) then avgA σ np nt ni q - σ.2 5 q * (avgA σ np nt ni q / 20) else 0
def lentD (σ : gS) (d : Int32) (q : Nat) : Int32 := if σ.2 7 q < d then σ.2 7 q else d
def harm (σ : gS) (h : Nat) : Prop := ¬ (if 0 ≤ σ.2 10 h - 50 then σ.2 10 h - 50 else 0 - (σ.2 10 h - 50)) ≤ 10
def pfl (σ : gS) (d : Int32) (q : Nat) : gS :=
  sA (sA (if (if 0 ≤ σ.2 10 (cl (σ.2 8 q)) - 50 then σ.2 10 (cl (σ.2 8 q)) - 50 else 0 - (σ.2 10 (cl (σ.2 8 q)) - 50)) ≤ 10 then σ else sA σ 5 (upd (σ.2 5) q (σ.2 5 q + lentD σ d q))) 11 (upd (σ.2 11) (cl (σ.2 8 q)) (σ.2 11 (cl (σ.2 8 q)) + lentD σ d q * σ.2 9 q))) 7 (upd (σ.2 7) q (σ.2 7 q - lentD σ d q))
theorem i32_nle {x y : Int32} (h : x < y) : ¬ y ≤ x := by rw [i32_le]; rw [i32_lt] at h; omega
theorem i32_ge {x y : Int32} (h : ¬ x < y) : y ≤ x := by rw [i32_le]; rw [i32_lt] at h; omega
theorem i32_n1 {x g : Int32} (hg : 1 ≤ g) (h : ¬ x < g) : ¬ x < 1 := by
  rw [i32_lt] at h ⊢; rw [i32_le] at hg; omega
theorem i32_n0 {x g : Int32} (hg : 1 ≤ g) (h : ¬ x < g) : ¬ x = 0 := by
  intro e
  rw [e] at h
  exact h (by rw [i32_lt]; rw [i32_le] at hg; exact Int.lt_of_lt_of_le (by decide) hg)
theorem out_nat {x : Int32} {M : Nat} {lo hi : Int32} (hh : hi = nI M) (h0 : 0 ≤ lo.toInt ∧ M < 2 ^ 31) (h : ¬ out x lo hi) : ∃ a : Nat, (lo.toInt ≤ (a : Int) ∧ a ≤ M) ∧ x = nI a := by
  have h1 : ¬ x < lo := fun q => h (Or.inl q)
  have h2 : x ≤ hi := Classical.byContradiction fun q => h (Or.inr q)
  have h3 : ¬ x < 0 := by rw [i32_lt] at h1 ⊢; simp; omega
  obtain ⟨a, ha, rfl⟩ := nI_of h3
  refine ⟨a, ⟨?_, ?_⟩, rfl⟩
  · rw [i32_lt, nI_toInt ha] at h1; omega
  · rw [hh] at h2; exact (nI_leI ha h0.2).mp h2
theorem out_lo {x lo hi : Int32} (h : ¬ out x lo hi) : lo ≤ x := by
  have h1 : ¬ x < lo := fun q => h (Or.inl q)
  rw [i32_lt] at h1; rw [i32_le]; omega
end
section
/-! The book's calls: which exception (0 none, 1 index, 2 argument, 3 state), the answer, the next state. -/
def th_pigment (np : Nat) (r g b : Int32) : Nat := if out r 0 255 ∨ out g 0 255 ∨ out b 0 255 then 2 else if ¬ nI np < 6 then 3 else 0
def s_pigment (σ : gS) (np : Nat) (r g b : Int32) : gS := sS (sA σ 0 (upd (upd (upd (σ.2 0) (np * 3) r) (np * 3 + 1) g) (np * 3 + 2) b)) 0 (nI (np + 1))
def th_tube (np nt : Nat) (x g : Int32) : Nat := if bad x (nI np) then 1 else if out g 1 1000 then 2 else if ¬ nI nt < 12 then 3 else 0
def s_tube (σ : gS) (nt : Nat) (x g : Int32) : gS := sS (sA (sA σ 1 (upd (σ.2 1) nt x)) 2 (upd (σ.2 2) nt g)) 1 (nI (nt + 1))
def th_pot (no : Nat) : Nat := if ¬ nI no < 10 then 3 else 0
def th_picture (ni : Nat) : Nat := if ¬ nI ni < 8 then 3 else 0
def th_squeeze (σ : gS) (nt no : Nat) (x t g : Int32) : Nat := if bad x (nI no) ∨ bad t (nI nt) then 1 else if out g 1 1000 then 2 else if ¬ g ≤ σ.2 2 (cl t) then 3 else 0
def s_squeeze (σ : gS) (x t : Nat) (g : Int32) : gS := sA (sA σ 2 (upd (σ.2 2) t (σ.2 2 t - g))) 3 (upd (σ.2 3) (x * 12 + t) (σ.2 3 (x * 12 + t) + g))
def th_pour (σ : gS) (nt no : Nat) (x y g : Int32) : Nat := if bad x (nI no) ∨ bad y (nI no) then 1 else if x = y ∨ out g 1 12000 then 2 else if rowS (σ.2 3) (cl x) nt < g then 3 else 0
def mvS (σ : gS) (nt f t : Nat) (g : Int32) : Nat → Int32 := mvL (σ.2 3) f t (flw (σ.2 3) f g (rowS (σ.2 3) f nt)) nt
def th_scrape (no : Nat) (x : Int32) : Nat := if bad x (nI no) then 1 else 0
def th_paint (σ : gS) (nt no ni : Nat) (q x g : Int32) : Nat := if bad q (nI ni) ∨ bad x (nI no) then 1 else if out g 1 1000 then 2 else if ¬ σ.2 7 (cl q) ≤ 0 ∨ ¬ σ.2 4 (cl q) < 12 ∨ rowS (σ.2 3) (cl x) nt < g then 3 else 0
def s_paint (σ : gS) (nt q x : Nat) (g : Int32) : gS := sA (sA σ 3 (mvS σ nt x (10 + q * 12 + cl (σ.2 4 q)) g)) 4 (upd (σ.2 4) q (nI (cl (σ.2 4 q) + 1)))
def th_clean (σ : gS) (ni : Nat) (q n : Int32) : Nat := if bad q (nI ni) then 1 else if out n 1 12 then 2 else if ¬ σ.2 7 (cl q) ≤ 0 ∨ ¬ n ≤ σ.2 4 (cl q) then 3 else 0
def clL (L : Nat → Int32) (nt q lc : Nat) : Nat → Nat → Int32
  | 0 => L
  | k + 1 => wzL (clL L nt q lc k) (10 + q * 12 + (lc - k - 1)) nt
def clS (L : Nat → Int32) (nt q lc : Nat) : Nat → Int32
  | 0 => 0
  | k + 1 => clS L nt q lc k + rowS (clL L nt q lc k) (10 + q * 12 + (lc - k - 1)) nt
def s_clean (σ : gS) (nt q n : Nat) : gS := sA (sA σ 3 (clL (σ.2 3) nt q (cl (σ.2 4 q)) n)) 4 (upd (σ.2 4) q (nI (cl (σ.2 4 q) - n)))
def th_damp (h d : Int32) : Nat := if bad h 4 then 1 else if out d 0 100 then 2 else 0
def th_lend (σ : gS) (ni : Nat) (q h d : Int32) : Nat := if bad q (nI ni) ∨ bad h 4 then 1 else if out d 1 100 then 2 else if ¬ σ.2 7 (cl q) ≤ 0 ∨ ¬ σ.2 5 (cl q) < 10 then 3 else 0
def s_lend (σ : gS) (np nt ni q h : Nat) (d : Int32) : gS := sA (sA (sA σ 9 (upd (σ.2 9) q (valA σ np nt ni q / 100 + 1))) 8 (upd (σ.2 8) q (nI h))) 7 (upd (σ.2 7) q d)
def th_sell (σ : gS) (ni : Nat) (q x : Int32) : Nat := if bad q (nI ni) then 1 else if out x 1 100000 then 2 else if ¬ σ.2 7 (cl q) ≤ 0 ∨ σ.2 4 (cl q) = 0 then 3 else 0
def s_sell (σ : gS) (q : Nat) (x : Int32) : gS := sA σ 6 (upd (σ.2 6) q x)
def th_pass (σ : gS) (d : Int32) : Nat := if out d 1 100 then 2 else if ¬ σ.1 4 + d ≤ 5000 then 3 else 0
def pfls (σ : gS) (d : Int32) : Nat → gS
  | 0 => σ
  | k + 1 => pfl (pfls σ d k) d k
def th_left (nt : Nat) (t : Int32) : Nat := if bad t (nI nt) then 1 else 0
def th_has (nt no : Nat) (x t : Int32) : Nat := if bad x (nI no) then 1 else if ¬ t = -1 ∧ bad t (nI nt) then 1 else 0
def r_has (σ : gS) (nt x : Nat) (t : Int32) : Int32 := if t = -1 then rowS (σ.2 3) x nt else σ.2 3 (x * 12 + cl t)
def th_colour (no : Nat) (x v : Int32) : Nat := if bad x (nI no) then 1 else if out v 0 2 then 2 else 0
def th_of (ni : Nat) (q v : Int32) : Nat := if bad q (nI ni) then 1 else if out v 0 8 then 2 else 0
def r_of (σ : gS) (np nt ni q v : Nat) : Int32 := if v = 0 then σ.2 4 q else if v = 1 then σ.2 5 q else if v = 2 then valA σ np nt ni q else if v = 3 then mpo σ np nt q else if v = 4 then (if ¬ σ.2 7 q ≤ 0 then σ.2 8 q else -1) else if v = 5 then σ.2 7 q else lko σ nt q (v - 6)
def th_layer (σ : gS) (nt ni : Nat) (q k t : Int32) : Nat := if bad q (nI ni) ∨ bad k (σ.2 4 (cl q)) ∨ bad t (nI nt) then 1 else 0
def th_where (nt : Nat) (t v : Int32) : Nat := if bad t (nI nt) then 1 else if out v 0 3 then 2 else 0
def r_where (σ : gS) (t v : Nat) : Int32 := if v = 0 then σ.2 2 t else if v = 1 then tubS (σ.2 3) t 0 10 else if v = 2 then tubS (σ.2 3) t 10 96 else tubS (σ.2 3) t 106 1
def th_recipe (r g b : Int32) : Nat := if out r 0 255 ∨ out g 0 255 ∨ out b 0 255 then 2 else 0
def th_paid (h : Int32) : Nat := if bad h 4 then 1 else 0
theorem upd_id {f : Nat → Int32} {k : Nat} {x : Int32} (h : f k = x) : upd f k x = f := by
  funext j; by_cases e : j = k
  · rw [upd, if_pos e, e, h]
  · rw [upd, if_neg e]
theorem upd_two (f : Nat → Int32) (k : Nat) (x y : Int32) : upd (upd f k x) k y = upd f k y := by
  funext j; by_cases e : j = k
  · rw [upd, if_pos e, upd, if_pos e]
  · rw [upd, if_neg e, upd, if_neg e, upd, if_neg e]
theorem iA_LC {σ : gS} {np nt no ni : Nat} (h : iA σ np nt no ni) (f : Nat → Int32) (q : Nat) {j : Nat} (hj : j ≤ 12) : iA (sA (sA σ 3 f) 4 (upd (σ.2 4) q (nI j))) np nt no ni := by
  obtain ⟨h1, h2, h3, h4, h5, h6, h7⟩ := h
  refine ⟨h1, h2, h3, h4, h5, fun p => ?_, h7⟩
  show ∃ j', j' ≤ 12 ∧ upd (σ.2 4) q (nI j) p = nI j'
  by_cases e : p = q
  · exact ⟨j, hj, by rw [upd, if_pos e]⟩
  · rw [upd, if_neg e]; exact h6 p
theorem pfl_1 (σ : gS) (d : Int32) (q : Nat) : (pfl σ d q).1 = σ.1 := by
  rw [pfl]
  repeat' split
  all_goals rfl
theorem pfl_2 (σ : gS) (d : Int32) (q k : Nat) (h5 : k ≠ 5) (h7 : k ≠ 7) (h11 : k ≠ 11) : (pfl σ d q).2 k = σ.2 k := by
  rw [pfl]
  repeat' split
  all_goals simp [sA, va_up, h5, h7, h11]
theorem iA_pfl {σ : gS} {np nt no ni : Nat} (h : iA σ np nt no ni) (d : Int32) (q : Nat) : iA (pfl σ d q) np nt no ni := by
  obtain ⟨h1, h2, h3, h4, h5, h6, h7⟩ := h
  unfold iA
  rw [pfl_1, pfl_2 _ _ _ _ (by decide) (by decide) (by decide), pfl_2 _ _ _ _ (by decide) (by decide) (by decide), pfl_2 _ _ _ _ (by decide) (by decide) (by decide)]
  exact ⟨h1, h2, h3, h4, h5, h6, h7⟩
theorem iA_pfls {σ : gS} {np nt no ni : Nat} (h : iA σ np nt no ni) (d : Int32) : ∀ k, iA (pfls σ d k) np nt no ni
  | 0 => h
  | k + 1 => iA_pfl (iA_pfls h d k) d k
theorem pfls_1 (σ : gS) (d : Int32) : ∀ k, (pfls σ d k).1 = σ.1
  | 0 => rfl
  | k + 1 => (pfl_1 _ _ _).trans (pfls_1 σ d k)
def rstep (d key : Int32) (s : Int32 × Int32) : Int32 × Int32 := if s.1 = -1 ∨ ¬ s.2 ≤ d then (key, d) else s
def rdist (σ : gS) (a b q : Nat) (r g bb : Int32) : Int32 := (mixd σ a b (nI q) 0 - r) * (mixd σ a b (nI q) 0 - r) + (mixd σ a b (nI q) 1 - g) * (mixd σ a b (nI q) 1 - g) + (mixd σ a b (nI q) 2 - bb) * (mixd σ a b (nI q) 2 - bb)
def rP (σ : gS) (r g bb : Int32) (a b : Nat) (s : Int32 × Int32) : Nat → Int32 × Int32
  | 0 => s
  | q + 1 => rstep (rdist σ a b q r g bb) (nI (1000 * a + 10 * b + q)) (rP σ r g bb a b s q)
def rB (σ : gS) (r g bb : Int32) (a : Nat) (s : Int32 × Int32) : Nat → Int32 × Int32
  | 0 => s
  | k + 1 => if σ.2 2 a = 0 ∨ σ.2 2 (a + k) = 0 then rB σ r g bb a s k else rP σ r g bb a (a + k) (rB σ r g bb a s k) 5
def rA (σ : gS) (r g bb : Int32) (nt : Nat) : Nat → Int32 × Int32
  | 0 => (-1, 0)
  | i + 1 => rB σ r g bb i (rA σ r g bb nt i) (nt - i)
end
section
/-! What the reference's methods answer, as functions of its state. -/
def iM0 (τ : gS) (np nt no ni : Nat) : Prop := (τ.1 1 = nI np ∧ np ≤ 6) ∧ (τ.1 2 = nI nt ∧ nt ≤ 12) ∧ (τ.1 3 = nI no ∧ no ≤ 10) ∧ (τ.1 4 = nI ni ∧ ni ≤ 8) ∧ (∀ t, ∃ j, j < 6 ∧ τ.2 1 t = nI j) ∧ (∀ q, ∃ j, j ≤ 12 ∧ τ.2 5 q = nI j) ∧ (∀ q, τ.2 9 q = -1 ∨ ∃ j, j < 4 ∧ τ.2 9 q = nI j)
def mS : Nat → gS → gS → gS
  | 0, _, b => b
  | k + 1, τ, _ => sS τ 0 (nI (k + 1))
def mR : Nat → Int32 → Int32
  | 0, r => r
  | _ + 1, _ => 0
theorem bI_congr {P P' : Prop} [Decidable P] [Decidable P'] (h : P ↔ P') : bI P = bI P' := by
  unfold bI; by_cases q : P
  · rw [if_pos q, if_pos (h.mp q)]
  · rw [if_neg q, if_neg (fun z => q (h.mpr z))]
theorem in_bad {x : Int32} {n : Nat} (hn : n ≤ 2000) : ¬ out x 0 (nI n - 1) ↔ ¬ bad x (nI n) := by
  have e : (nI n - 1 : Int32).toInt = (n : Int) - 1 := by
    have := pk_sub_toInt (a := n) (b := 1) (by omega) (by decide)
    exact this
  have e2 : (nI n).toInt = n := nI_toInt (by omega)
  constructor
  · rintro h (q | q)
    · exact h (Or.inl q)
    · refine h (Or.inr fun z => q ?_)
      rw [i32_le, e] at z; rw [i32_lt, e2]; omega
  · rintro h (q | q)
    · exact h (Or.inl q)
    · refine h (Or.inr fun z => q ?_)
      rw [i32_lt, e2] at z; rw [i32_le, e]; omega
def potS (P : Nat → Int32) (p : Nat) : Nat → Int32 := isum (fun t => P (12 * p + t))
def flM (P : Nat → Int32) (p : Nat) (g : Int32) : Nat → Int32 := fun n => (potS P p n + P (12 * p + n)) * g / potS P p 12 - potS P p n * g / potS P p 12
def fillF (F fl : Nat → Int32) : Nat → Nat → Int32
  | 0 => F
  | n + 1 => upd (fillF F fl n) n (fl n)
def subF (P F : Nat → Int32) (b : Nat) : Nat → Nat → Int32
  | 0 => P
  | n + 1 => upd (subF P F b n) (b + n) (subF P F b n (b + n) - F n)
def addF (P F : Nat → Int32) (b : Nat) : Nat → Nat → Int32
  | 0 => P
  | n + 1 => upd (addF P F b n) (b + n) (addF P F b n (b + n) + F n)
def setF (P F : Nat → Int32) (b : Nat) : Nat → Nat → Int32
  | 0 => P
  | n + 1 => upd (setF P F b n) (b + n) (F n)
def zerB (P : Nat → Int32) (b : Nat) : Nat → Nat → Int32
  | 0 => P
  | n + 1 => upd (zerB P b n) (b + n) 0
def wstB (W P : Nat → Int32) (b : Nat) : Nat → Nat → Int32
  | 0 => W
  | n + 1 => upd (wstB W P b n) n (wstB W P b n n + zerB P b n (b + n))
def sumB (s : Int32) (P : Nat → Int32) (b : Nat) : Nat → Int32
  | 0 => s
  | n + 1 => sumB s P b n + zerB P b n (b + n)
def flwF (τ : gS) (p : Nat) (g : Int32) : Nat → Int32 := fillF (τ.2 14) (flM (τ.2 4) p g) 12
def flwS (τ : gS) (p : Nat) (g : Int32) : gS := sA (sA τ 14 (flwF τ p g)) 4 (subF (τ.2 4) (flwF τ p g) (12 * p) 12)
def clM (W P : Nat → Int32) (q lc : Nat) : Nat → (Nat → Int32) × (Nat → Int32) × Int32
  | 0 => (W, P, 0)
  | k + 1 => (wstB (clM W P q lc k).1 (clM W P q lc k).2.1 (12 * (12 * q + (lc - k - 1))) 12, zerB (clM W P q lc k).2.1 (12 * (12 * q + (lc - k - 1))) 12, sumB (clM W P q lc k).2.2 (clM W P q lc k).2.1 (12 * (12 * q + (lc - k - 1))) 12)
def smF (P PT : Nat → Int32) (b : Nat) : Nat → Nat → Int32
  | 0 => fun _ => 0
  | n + 1 => upd (smF P PT b n) (cl (PT n)) (smF P PT b n (cl (PT n)) + P (b + n))
def bst (F : Nat → Int32) : Nat → Nat
  | 0 => 0
  | i + 1 => if F (i + 1) ≤ F (bst F i) then bst F i else i + 1
def topB (τ : gS) (q : Nat) : Nat := 12 * (12 * q + (cl (τ.2 5 q) - 1))
def mnF (τ : gS) (nt : Nat) (f : Nat → Int32) (q : Nat) : Nat → Int32 := if τ.2 5 q = 0 then f else smF (τ.2 6) (τ.2 1) (topB τ q) nt
def mnM (τ : gS) (nt q : Nat) : Int32 := if τ.2 5 q = 0 then -1 else nI (bst (smF (τ.2 6) (τ.2 1) (topB τ q) nt) 5)
def colM (τ : gS) (t ch : Nat) : Int32 := τ.2 0 (3 * cl (τ.2 1 t) + ch)
def lkM (τ : gS) (nt q ch : Nat) : Int32 := if τ.2 5 q = 0 then -1 else isum (fun t => τ.2 6 (topB τ q + t) * colM τ t ch) nt / isum (fun t => τ.2 6 (topB τ q + t)) nt
def vsF (τ : gS) (nt : Nat) (its : Int32) (f : Nat → Int32) : Nat → Nat → Int32
  | 0 => f
  | n + 1 => if its = -1 ∨ τ.2 8 n ≤ 0 then vsF τ nt its f n else mnF τ nt (vsF τ nt its f n) n
def vlP (τ : gS) (nt : Nat) (its : Int32) : Nat → Int32 × Int32
  | 0 => (0, 0)
  | n + 1 => if ¬ (its = -1 ∨ τ.2 8 n ≤ 0) ∧ mnM τ nt n = its then ((vlP τ nt its n).1 + τ.2 8 n, (vlP τ nt its n).2 + 1) else vlP τ nt its n
def meanM (τ : gS) (nt ni q : Nat) : Int32 := if (vlP τ nt (mnM τ nt q) ni).2 = 0 then 0 else (vlP τ nt (mnM τ nt q) ni).1 / (vlP τ nt (mnM τ nt q) ni).2
def wrtM (τ : gS) (nt ni q : Nat) : Int32 := meanM τ nt ni q - τ.2 7 q * (meanM τ nt ni q / 20)
def valM (τ : gS) (nt ni q : Nat) : Int32 := if 0 ≤ wrtM τ nt ni q then wrtM τ nt ni q else 0
def valF (τ : gS) (nt ni q : Nat) : Nat → Int32 := vsF τ nt (mnM τ nt q) (mnF τ nt (τ.2 15) q) ni
def p1 (τ : gS) (q : Nat) : gS := if τ.2 9 q = -1 then τ else
  sA (sA (sA (sA τ 13 (upd (τ.2 13) (cl (τ.2 9 q)) (τ.2 13 (cl (τ.2 9 q)) + τ.2 11 q))) 7 (upd (τ.2 7) q (τ.2 7 q + (if ¬ out (τ.2 12 (cl (τ.2 9 q))) 40 60 then 0 else 1)))) 10 (upd (τ.2 10) q (τ.2 10 q - 1))) 9 (upd (τ.2 9) q (if ¬ τ.2 10 q - 1 = 0 then τ.2 9 q else -1))
def p1s (τ : gS) : Nat → gS
  | 0 => τ
  | k + 1 => p1 (p1s τ k) k
def pN (τ : gS) (ni : Nat) : Nat → gS
  | 0 => τ
  | k + 1 => p1s (sS (pN τ ni k) 5 ((pN τ ni k).1 5 + 1)) ni
def farM (τ : gS) (a b : Nat) (q : Int32) (ch : Nat) (x : Int32) : Int32 := ((q * colM τ a ch + (4 - q) * colM τ b ch) / 4 - x) * ((q * colM τ a ch + (4 - q) * colM τ b ch) / 4 - x)
def rdM (τ : gS) (a b q : Nat) (r g bb : Int32) : Int32 := farM τ a b (nI q) 0 r + farM τ a b (nI q) 1 g + farM τ a b (nI q) 2 bb
def rPM (τ : gS) (r g bb : Int32) (a b : Nat) (s : Int32 × Int32) : Nat → Int32 × Int32
  | 0 => s
  | q + 1 => rstep (rdM τ a b q r g bb) (nI (1000 * a + 10 * b + q)) (rPM τ r g bb a b s q)
def rBM (τ : gS) (r g bb : Int32) (a : Nat) (s : Int32 × Int32) : Nat → Int32 × Int32
  | 0 => s
  | k + 1 => if τ.2 2 a ≤ 0 ∨ τ.2 2 (a + k) ≤ 0 then rBM τ r g bb a s k else rPM τ r g bb a (a + k) (rBM τ r g bb a s k) 5
def rAM (τ : gS) (r g bb : Int32) (nt : Nat) : Nat → Int32 × Int32
  | 0 => (-1, 0)
  | i + 1 => rBM τ r g bb i (rAM τ r g bb nt i) (nt - i)
/-! the calls: thrown, the answer, the next state -/
def tm_pigment (np : Nat) (r g b : Int32) : Nat := if out r 0 255 ∨ out g 0 255 ∨ out b 0 255 then 1 else if nI np = 6 then 2 else 0
def m_pigment (τ : gS) (np : Nat) (r g b : Int32) : gS := sS (sA (sS τ 0 0) 0 (upd (upd (upd (τ.2 0) (3 * np) r) (3 * np + 1) g) (3 * np + 2) b)) 1 (nI (np + 1))
def tm_tube (np nt : Nat) (x g : Int32) : Nat := if bad x (nI np) then 1 else if out g 1 1000 then 2 else if nI nt = 12 then 3 else 0
def m_tube (τ : gS) (nt : Nat) (x g : Int32) : gS := sS (sA (sA (sS τ 0 0) 1 (upd (τ.2 1) nt x)) 2 (upd (τ.2 2) nt g)) 2 (nI (nt + 1))
def tm_pot (no : Nat) : Nat := if nI no = 10 then 1 else 0
def tm_picture (ni : Nat) : Nat := if nI ni = 8 then 1 else 0
def tm_squeeze (τ : gS) (nt no : Nat) (x t g : Int32) : Nat := if bad x (nI no) ∨ bad t (nI nt) then 1 else if out g 1 1000 then 2 else if ¬ g ≤ τ.2 2 (cl t) then 3 else 0
def m_squeeze (τ : gS) (x t : Nat) (g : Int32) : gS := sA (sA (sS τ 0 0) 2 (upd (τ.2 2) t (τ.2 2 t - g))) 4 (upd (τ.2 4) (12 * x + t) (τ.2 4 (12 * x + t) + g))
def tm_pour (τ : gS) (no : Nat) (x y g : Int32) : Nat := if bad x (nI no) ∨ bad y (nI no) then 1 else if x = y ∨ out g 1 12000 then 2 else if ¬ g ≤ potS (τ.2 4) (cl x) 12 then 3 else 0
def m_pour (τ : gS) (x y : Nat) (g : Int32) : gS := sA (sA (sS τ 0 0) 14 (flwF τ x g)) 4 (addF (subF (τ.2 4) (flwF τ x g) (12 * x) 12) (flwF τ x g) (12 * y) 12)
def tm_scrape (no : Nat) (x : Int32) : Nat := if bad x (nI no) then 1 else 0
def m_scrape (τ : gS) (x : Nat) : gS := sA (sA (sS τ 0 0) 3 (wstB (τ.2 3) (τ.2 4) (12 * x) 12)) 4 (zerB (τ.2 4) (12 * x) 12)
def tm_paint (τ : gS) (no ni : Nat) (q x g : Int32) : Nat := if bad q (nI ni) ∨ bad x (nI no) then 1 else if out g 1 1000 then 2 else if ¬ τ.2 9 (cl q) = -1 ∨ τ.2 5 (cl q) = 12 ∨ ¬ g ≤ potS (τ.2 4) (cl x) 12 then 3 else 0
def m_paint (τ : gS) (q x : Nat) (g : Int32) : gS := sA (sA (sA (sA (sS τ 0 0) 14 (flwF τ x g)) 4 (subF (τ.2 4) (flwF τ x g) (12 * x) 12)) 6 (setF (τ.2 6) (flwF τ x g) (12 * (12 * q + cl (τ.2 5 q))) 12)) 5 (upd (τ.2 5) q (nI (cl (τ.2 5 q) + 1)))
def tm_clean (τ : gS) (ni : Nat) (q n : Int32) : Nat := if bad q (nI ni) then 1 else if out n 1 12 then 2 else if ¬ τ.2 9 (cl q) = -1 ∨ ¬ n ≤ τ.2 5 (cl q) then 3 else 0
def m_clean (τ : gS) (q n : Nat) : gS := sA (sA (sA (sS τ 0 0) 5 (upd (τ.2 5) q (nI (cl (τ.2 5 q) - n)))) 3 (clM (τ.2 3) (τ.2 6) q (cl (τ.2 5 q)) n).1) 6 (clM (τ.2 3) (τ.2 6) q (cl (τ.2 5 q)) n).2.1
def tm_damp (h d : Int32) : Nat := if bad h 4 then 1 else if out d 0 100 then 2 else 0
def tm_lend (τ : gS) (ni : Nat) (q h d : Int32) : Nat := if bad q (nI ni) ∨ bad h 4 then 1 else if out d 1 100 then 2 else if ¬ τ.2 9 (cl q) = -1 ∨ ¬ τ.2 7 (cl q) < 10 then 3 else 0
def m_lend (τ : gS) (nt ni q : Nat) (h d : Int32) : gS := sA (sA (sA (sA (sS τ 0 0) 9 (upd (τ.2 9) q h)) 10 (upd (τ.2 10) q d)) 15 (valF τ nt ni q)) 11 (upd (τ.2 11) q (valM τ nt ni q / 100 + 1))
def tm_sell (τ : gS) (ni : Nat) (q x : Int32) : Nat := if bad q (nI ni) then 1 else if out x 1 100000 then 2 else if ¬ τ.2 9 (cl q) = -1 ∨ τ.2 5 (cl q) = 0 then 3 else 0
def m_sell0 (τ : gS) (q : Nat) (x : Int32) : gS := sA (sS τ 0 0) 8 (upd (τ.2 8) q x)
def tm_pass (τ : gS) (d : Int32) : Nat := if out d 1 100 then 1 else if ¬ τ.1 5 + d ≤ 5000 then 2 else 0
def tm_left (nt : Nat) (t : Int32) : Nat := if bad t (nI nt) then 1 else 0
def tm_has (nt no : Nat) (x t : Int32) : Nat := if bad x (nI no) then 1 else if ¬ t = -1 ∧ bad t (nI nt) then 1 else 0
def rm_has (τ : gS) (x : Nat) (t : Int32) : Int32 := if t = -1 then potS (τ.2 4) x 12 else τ.2 4 (12 * x + cl t)
def tm_colour (no : Nat) (x v : Int32) : Nat := if bad x (nI no) then 1 else if out v 0 2 then 2 else 0
def rm_colour (τ : gS) (nt x ch : Nat) : Int32 := if potS (τ.2 4) x 12 = 0 then -1 else isum (fun t => τ.2 4 (12 * x + t) * colM τ t ch) nt / potS (τ.2 4) x 12
def tm_of (ni : Nat) (q v : Int32) : Nat := if bad q (nI ni) then 1 else if out v 0 8 then 2 else 0
def rm_of (τ : gS) (nt ni q v : Nat) : Int32 := if v = 0 then τ.2 5 q else if v = 1 then τ.2 7 q else if v = 2 then valM τ nt ni q else if v = 3 then mnM τ nt q else if v = 4 then τ.2 9 q else if v = 5 then τ.2 10 q else lkM τ nt q (v - 6)
def sm_of (τ : gS) (nt ni q v : Nat) : gS := if v = 2 then sA (sS τ 0 0) 15 (valF τ nt ni q) else if v = 3 then sA (sS τ 0 0) 15 (mnF τ nt (τ.2 15) q) else sS τ 0 0
def tm_layer (τ : gS) (nt ni : Nat) (q k t : Int32) : Nat := if bad q (nI ni) ∨ bad k (τ.2 5 (cl q)) ∨ bad t (nI nt) then 1 else 0
def tm_where (nt : Nat) (t v : Int32) : Nat := if bad t (nI nt) then 1 else if out v 0 3 then 2 else 0
def rm_where (τ : gS) (no t v : Nat) : Int32 := if v = 0 then τ.2 2 t else if v = 1 then isum (fun p => τ.2 4 (12 * p + t)) no else if v = 2 then isum (fun k => τ.2 6 (12 * k + t)) 96 else τ.2 3 t
def tm_recipe (r g b : Int32) : Nat := if out r 0 255 ∨ out g 0 255 ∨ out b 0 255 then 1 else 0
def tm_paid (h : Int32) : Nat := if bad h 4 then 1 else 0
section GA
variable {p : Program} {l : Launch} {e : Env} {R : Room} {s : State} {m : MethodId} {args : Array Value} {below : List Frame} {meth : Method} {c : Code}
variable {D : va_G} {A : Nat → Prop} {nL k j : Nat} {Q : State → Prop} {w : va_W} {lv : List (Nat × Value)} {pc : Nat} {st : List Value}
/-- an array of the world holds only what lies below its length -/
theorem g_arr {cA : ClassId} {n a : Nat} {f f' : Nat → Int32} (q0 : Nat) (w' : va_W) (ha : w[q0]? = some (a, .inl (cA, n, .inl f))) (hw' : w.set q0 (a, .inl (cA, n, .inl f')) = w') (hf : ∀ i, i < n → f i = f' i)
    (K : G p l e R s m args below meth c D A nL k j Q w' lv pc st) : G p l e R s m args below meth c D A nL k j Q w lv pc st := by
  intro H locs ls hP hD hS hl
  have hc : vp_cell cA (n, .inl f) = vp_cell cA (n, .inl f') := by
    rw [vp_cell_i, vp_cell_i]
    unfold arrV
    congr 1
    apply Array.ext
    · simp
    · intro i h1 h2
      simp at h1 h2
      simp [hf i h1]
  refine K H locs ls ?_ ?_ hS hl
  · rw [← hw']
    intro i q hi
    by_cases e : i = q0
    · subst e
      have hlt := (List.getElem?_eq_some_iff.mp ha).1
      rw [List.getElem?_set_self hlt] at hi
      cases hi
      have h1 := hP i _ ha
      show H[a]? = some (vp_cell cA (n, .inl f'))
      rw [← hc]; exact h1
    · rw [List.getElem?_set_ne (fun h => e h.symm)] at hi
      exact hP i q hi
  · rw [← hw']; exact hD.set ha
end GA
end
section
/-! Which state is next; numbers of exceptions. -/
def kS : Nat → gS → gS → gS
  | 0, _, b => b
  | _ + 1, a, _ => a
/-- the law's numbers of the exceptions: index, argument, state .. -/
def cdI : Nat → Nat := fun k => k
/-- .. argument, state -/
def cdA : Nat → Nat
  | 2 => 1
  | 3 => 2
  | _ => 0
/-- .. state alone -/
def cdS : Nat → Nat
  | 3 => 1
  | _ => 0
end
section
theorem fillF_at (F fl : Nat → Int32) : ∀ (n i : Nat), i < n → fillF F fl n i = fl i
  | 0, i, h => absurd h (Nat.not_lt_zero i)
  | n + 1, i, h => by
    by_cases e : i = n
    · rw [fillF, upd, if_pos e, e]
    · rw [fillF, upd, if_neg e]; exact fillF_at F fl n i (by omega)
theorem bst_le (F : Nat → Int32) : ∀ i, bst F i ≤ i
  | 0 => Nat.le_refl 0
  | i + 1 => by
    rw [bst]; split
    · exact Nat.le_succ_of_le (bst_le F i)
    · exact Nat.le_refl _
theorem p1_sc (τ : gS) (q k : Nat) : (p1 τ q).1 k = τ.1 k := by
  rw [p1]; split <;> rfl
theorem p1_ar (τ : gS) (q k : Nat) (h13 : k ≠ 13) (h7 : k ≠ 7) (h10 : k ≠ 10) (h9 : k ≠ 9) : (p1 τ q).2 k = τ.2 k := by
  rw [p1]; split
  · rfl
  · simp [sA, va_up, h13, h7, h10, h9]
theorem iM0_p1 {τ : gS} {np nt no ni : Nat} (h : iM0 τ np nt no ni) (q : Nat) : iM0 (p1 τ q) np nt no ni := by
  obtain ⟨h1, h2, h3, h4, h5, h6, h7⟩ := h
  refine ⟨by rw [p1_sc]; exact h1, by rw [p1_sc]; exact h2, by rw [p1_sc]; exact h3, by rw [p1_sc]; exact h4, by rw [p1_ar _ _ _ (by decide) (by decide) (by decide) (by decide)]; exact h5, by rw [p1_ar _ _ _ (by decide) (by decide) (by decide) (by decide)]; exact h6, fun x => ?_⟩
  by_cases c : τ.2 9 q = -1
  · rw [p1, if_pos c]; exact h7 x
  · rw [p1, if_neg c]
    show upd (τ.2 9) q _ x = -1 ∨ ∃ j, j < 4 ∧ upd (τ.2 9) q _ x = nI j
    by_cases e : x = q
    · rw [upd, if_pos e]
      split
      · exact h7 q
      · exact Or.inl rfl
    · rw [upd, if_neg e]; exact h7 x
theorem iM0_p1s {τ : gS} {np nt no ni : Nat} (h : iM0 τ np nt no ni) : ∀ k, iM0 (p1s τ k) np nt no ni
  | 0 => h
  | k + 1 => iM0_p1 (iM0_p1s h k) k
theorem iM0_S5 {τ : gS} {np nt no ni : Nat} (h : iM0 τ np nt no ni) (x : Int32) : iM0 (sS τ 5 x) np nt no ni := h
theorem iM0_S0 {τ : gS} {np nt no ni : Nat} (h : iM0 τ np nt no ni) (x : Int32) : iM0 (sS τ 0 x) np nt no ni := h
theorem iM0_pN {τ : gS} {np nt no ni : Nat} (h : iM0 τ np nt no ni) : ∀ k, iM0 (pN τ ni k) np nt no ni
  | 0 => h
  | k + 1 => iM0_p1s (iM0_S5 (iM0_pN h k) _) ni
theorem bI_nar (P : Prop) [Decidable P] : narrow .boolean (.int (bI P)) = .int (bI P) := by
  unfold bI; split <;> rfl
end
section
theorem le_n0 {x g : Int32} (hg : 1 ≤ g) (h : g ≤ x) : ¬ x = 0 := by
  intro e
  rw [e, i32_le] at h
  rw [i32_le] at hg
  exact absurd (Int.le_trans hg h) (by decide)
def ml0 (τ : gS) (q : Nat) (h d : Int32) : gS := sA (sA (sS τ 0 0) 9 (upd (τ.2 9) q h)) 10 (upd (τ.2 10) q d)
def m_lend2 (τ : gS) (nt ni q : Nat) (h d : Int32) : gS := sA (sA (ml0 τ q h d) 15 (valF (ml0 τ q h d) nt ni q)) 11 (upd (τ.2 11) q (valM (ml0 τ q h d) nt ni q / 100 + 1))
def m_sell2 (τ : gS) (nt ni q : Nat) (x : Int32) : gS := sA (m_sell0 τ q x) 15 (valF (m_sell0 τ q x) nt ni q)
def sm_of2 (τ : gS) (nt ni q v : Nat) : gS := if v = 2 then sA (sS τ 0 0) 15 (valF (sS τ 0 0) nt ni q) else if v = 3 then sA (sS τ 0 0) 15 (mnF τ nt (τ.2 15) q) else sS τ 0 0
theorem iM0_lend {τ : gS} {np nt no ni : Nat} (h : iM0 τ np nt no ni) (q : Nat) {j : Nat} (hj : j < 4) (f : Nat → Int32) : iM0 (sA (sA (sS τ 0 0) 9 (upd (τ.2 9) q (nI j))) 10 f) np nt no ni := by
  obtain ⟨h1, h2, h3, h4, h5, h6, h7⟩ := h
  refine ⟨h1, h2, h3, h4, h5, h6, fun x => ?_⟩
  show upd (τ.2 9) q (nI j) x = -1 ∨ ∃ j', j' < 4 ∧ upd (τ.2 9) q (nI j) x = nI j'
  by_cases e : x = q
  · exact Or.inr ⟨j, hj, by rw [upd, if_pos e]⟩
  · rw [upd, if_neg e]; exact h7 x
end
section
/-! The book's state and the reference's: what they share. -/
def zsum (f : Nat → Int) : Nat → Int
  | 0 => 0
  | n + 1 => zsum f n + f n
/-- the book's numbers stay small and in their places -/
def nInv (σ : gS) (nt no : Nat) : Prop :=
  (∀ t, t < 12 → 0 ≤ (σ.2 2 t).toInt ∧ (σ.2 2 t).toInt + zsum (fun p => (σ.2 3 (p * 12 + t)).toInt) 10 ≤ 1000) ∧
  (∀ p t, p < 10 → t < 12 → 0 ≤ (σ.2 3 (p * 12 + t)).toInt) ∧
  (∀ p t, p < 10 → t < 12 → nt ≤ t ∨ no ≤ p → σ.2 3 (p * 12 + t) = 0) ∧
  (∀ q k t, q < 8 → k < 12 → t < 12 → 0 ≤ (σ.2 3 ((10 + q * 12 + k) * 12 + t)).toInt ∧ (σ.2 3 ((10 + q * 12 + k) * 12 + t)).toInt ≤ 1000) ∧
  (∀ q k t, q < 8 → k < 12 → t < 12 → nt ≤ t ∨ cl (σ.2 4 q) ≤ k → σ.2 3 ((10 + q * 12 + k) * 12 + t) = 0) ∧
  (∀ q k, q < 8 → k < cl (σ.2 4 q) → 1 ≤ zsum (fun t => (σ.2 3 ((10 + q * 12 + k) * 12 + t)).toInt) 12) ∧
  (∀ h, h < 4 → 0 ≤ (σ.2 10 h).toInt ∧ (σ.2 10 h).toInt ≤ 100) ∧
  (∀ q, q < 8 → 0 ≤ (σ.2 7 q).toInt ∧ (σ.2 7 q).toInt ≤ 100) ∧
  (∀ t, t < nt → (σ.2 1 t).toInt < (σ.1 0).toInt)
/-- the same numbers, in the places of each -/
def rel (σ τ : gS) : Prop :=
  τ.1 5 = σ.1 4 ∧ (∀ j, j < 18 → τ.2 0 j = σ.2 0 j) ∧ (∀ t, t < 12 → τ.2 1 t = σ.2 1 t) ∧ (∀ t, t < 12 → τ.2 2 t = σ.2 2 t) ∧ (∀ t, t < 12 → τ.2 3 t = σ.2 3 (106 * 12 + t)) ∧
  (∀ p t, p < 10 → t < 12 → τ.2 4 (12 * p + t) = σ.2 3 (p * 12 + t)) ∧ (∀ q, q < 8 → τ.2 5 q = σ.2 4 q) ∧
  (∀ q k t, q < 8 → k < 12 → t < 12 → τ.2 6 (12 * (12 * q + k) + t) = σ.2 3 ((10 + q * 12 + k) * 12 + t)) ∧
  (∀ q, q < 8 → τ.2 7 q = σ.2 5 q) ∧ (∀ q, q < 8 → τ.2 8 q = σ.2 6 q) ∧ (∀ q, q < 8 → τ.2 9 q = if ¬ σ.2 7 q ≤ 0 then σ.2 8 q else -1) ∧
  (∀ q, q < 8 → τ.2 10 q = σ.2 7 q) ∧ (∀ q, q < 8 → τ.2 11 q = σ.2 9 q) ∧ (∀ h, h < 4 → τ.2 12 h = σ.2 10 h) ∧ (∀ h, h < 4 → τ.2 13 h = σ.2 11 h)
def RR (σ τ : gS) (np nt no ni : Nat) : Prop := iA σ np nt no ni ∧ iM0 τ np nt no ni ∧ nInv σ nt no ∧ rel σ τ
def RE (σ τ : gS) : Prop := ∃ np nt no ni, RR σ τ np nt no ni
/-- a call answers alike on both sides -/
def opOK (K Km : Nat) (cd : Nat → Nat) (rb rm : Int32) (σ' τ' : gS) : Prop := (K = 0 ∧ Km = 0 ∧ rb = rm ∧ RE σ' τ' ∧ τ'.1 0 = 0) ∨ (K ≠ 0 ∧ Km ≠ 0 ∧ Km = cd K)
theorem RR.S0 {σ τ : gS} {np nt no ni : Nat} (h : RR σ τ np nt no ni) (x : Int32) : RR σ (sS τ 0 x) np nt no ni := h
theorem opOK.next {K Km : Nat} {cd : Nat → Nat} {rb rm : Int32} {σ σ' τ τ' : gS} {np nt no ni : Nat} (hR : RR σ τ np nt no ni) (h : opOK K Km cd rb rm σ' τ') : RE (kS K σ σ') (mS Km τ τ') ∧ (mS Km τ τ').1 0 = nI Km := by
  rcases h with ⟨rfl, rfl, -, h, h0⟩ | ⟨h1, h2, -⟩
  · exact ⟨h, h0⟩
  · obtain ⟨k, rfl⟩ := Nat.exists_eq_succ_of_ne_zero h1
    obtain ⟨k2, rfl⟩ := Nat.exists_eq_succ_of_ne_zero h2
    exact ⟨⟨np, nt, no, ni, hR.S0 _⟩, rfl⟩
end
section
/-! Helps for the calls' facts. -/
theorem opIf {c c' : Prop} [Decidable c] [Decidable c'] {k k' K K' : Nat} {cd : Nat → Nat} {rb rm : Int32} {σ' τ' : gS} (hc : c' ↔ c) (hk : k ≠ 0 ∧ k' ≠ 0 ∧ k' = cd k) (h : ¬ c → opOK K K' cd rb rm σ' τ') : opOK (if c then k else K) (if c' then k' else K') cd rb rm σ' τ' := by
  by_cases q : c
  · rw [if_pos q, if_pos (hc.mpr q)]; exact Or.inr hk
  · rw [if_neg q, if_neg (fun z => q (hc.mp z))]; exact h q
theorem ok0 {cd : Nat → Nat} {rb rm : Int32} {σ' τ' : gS} (h : rb = rm) (hE : RE σ' τ') (h0 : τ'.1 0 = 0) : opOK 0 0 cd rb rm σ' τ' := Or.inl ⟨rfl, rfl, h, hE, h0⟩
theorem full_iff {n N : Nat} (h : n ≤ N) (hN : N < 2 ^ 31) : nI n = nI N ↔ ¬ nI n < nI N := by
  rw [nI_eq (by omega) hN, nI_ltI (by omega) hN]; omega
theorem upd_cg {f g : Nat → Int32} {k i : Nat} {v v' : Int32} (h : i ≠ k → f i = g i) (hv : i = k → v = v') : upd f k v i = upd g k v' i := by
  by_cases e : i = k
  · rw [upd, upd, if_pos e, if_pos e, hv e]
  · rw [upd, upd, if_neg e, if_neg e, h e]
theorem upd_s {f : Nat → Int32} {k : Nat} {v : Int32} : upd f k v k = v := if_pos rfl
theorem upd_n {f : Nat → Int32} {k i : Nat} {v : Int32} (h : i ≠ k) : upd f k v i = f i := if_neg h
theorem upd_all {P : Nat → Int32 → Prop} {f : Nat → Int32} {k : Nat} {v : Int32} (i : Nat) (h : i ≠ k → P i (f i)) (hv : i = k → P i v) : P i (upd f k v i) := by
  by_cases e : i = k
  · rw [upd, if_pos e]; exact hv e
  · rw [upd, if_neg e]; exact h e
theorem nb_lt {x : Int32} {N : Nat} (hN : N < 2 ^ 31) (h : ¬ bad x (nI N)) : cl x < N ∧ x = nI (cl x) := by
  obtain ⟨a, ha, rfl⟩ := nb_of rfl hN h
  rw [cl_nI (by omega)]; exact ⟨ha, rfl⟩
theorem isum_cg {f g : Nat → Int32} : ∀ n, (∀ i, i < n → f i = g i) → isum f n = isum g n
  | 0, _ => rfl
  | n + 1, h => by rw [isum, isum, isum_cg n fun i hi => h i (by omega), h n (by omega)]
theorem isum_tail {f : Nat → Int32} (n : Nat) : ∀ k, (∀ i, n ≤ i → i < n + k → f i = 0) → isum f (n + k) = isum f n
  | 0, _ => rfl
  | k + 1, h => by rw [← Nat.add_assoc, isum, isum_tail n k fun i h1 h2 => h i h1 (by omega), h (n + k) (by omega) (by omega), Int32.add_zero]
theorem isum_to {f : Nat → Int32} {n m : Nat} (hnm : n ≤ m) (h : ∀ i, n ≤ i → i < m → f i = 0) : isum f m = isum f n := by
  have := isum_tail (f := f) n (m - n) fun i h1 h2 => h i h1 (by omega)
  rwa [Nat.add_sub_cancel' hnm] at this
/-- the shared numbers, one by one -/
theorem RR.pt {σ τ : gS} {np nt no ni : Nat} (h : RR σ τ np nt no ni) : np ≤ 6 ∧ nt ≤ 12 ∧ no ≤ 10 ∧ ni ≤ 8 := ⟨h.1.1.2, h.1.2.1.2, h.1.2.2.1.2, h.1.2.2.2.1.2⟩
theorem RR.potN {σ τ : gS} {np nt no ni : Nat} (h : RR σ τ np nt no ni) {p : Nat} (hp : p < 10) : potS (τ.2 4) p nt = rowS (σ.2 3) p nt := by
  obtain ⟨-, hnt, -, -⟩ := h.pt
  exact isum_cg nt fun t ht => h.2.2.2.2.2.2.2.2.1 p t hp (by omega)
theorem RR.pot {σ τ : gS} {np nt no ni : Nat} (h : RR σ τ np nt no ni) {p : Nat} (hp : p < 10) : potS (τ.2 4) p 12 = rowS (σ.2 3) p nt := by
  obtain ⟨-, hnt, -, -⟩ := h.pt
  rw [← h.potN hp]
  exact isum_to hnt fun t h1 h2 => by
    rw [h.2.2.2.2.2.2.2.2.1 p t hp h2, h.2.2.1.2.2.1 p t hp h2 (Or.inl h1)]
theorem RR.lay {σ τ : gS} {np nt no ni : Nat} (h : RR σ τ np nt no ni) {q k : Nat} (hq : q < 8) (hk : k < 12) : isum (fun t => τ.2 6 (12 * (12 * q + k) + t)) nt = rowS (σ.2 3) (10 + q * 12 + k) nt := by
  obtain ⟨-, hnt, -, -⟩ := h.pt
  exact isum_cg nt fun t ht => h.2.2.2.2.2.2.2.2.2.2.1 q k t hq hk (by omega)
theorem RR.lc {σ τ : gS} {np nt no ni : Nat} (h : RR σ τ np nt no ni) {q : Nat} (hq : q < 8) : τ.2 5 q = σ.2 4 q := h.2.2.2.2.2.2.2.2.2.1 q hq
theorem RR.house {σ τ : gS} {np nt no ni : Nat} (h : RR σ τ np nt no ni) {q : Nat} (hq : q < 8) : (¬ τ.2 9 q = -1) ↔ ¬ σ.2 7 q ≤ 0 := by
  have e := h.2.2.2.2.2.2.2.2.2.2.2.2.2.1 q hq
  rw [e]
  obtain ⟨j, hj, ej⟩ := h.1.2.2.2.2.2.2 q
  by_cases c : σ.2 7 q ≤ 0
  · simp [c]
  · simp only [c, not_false_eq_true, if_true, iff_true, ej]
    intro z
    have := congrArg Int32.toInt z
    rw [nI_toInt (by omega)] at this
    simp at this
theorem colT_M {σ τ : gS} {np nt no ni : Nat} (h : RR σ τ np nt no ni) {t ch : Nat} (ht : t < 12) (hc : ch < 3) : colM τ t ch = colT σ t ch := by
  obtain ⟨j, hj, e⟩ := h.1.2.2.2.2.1 t
  rw [colM, colT, h.2.2.2.2.2.1 t ht, e, cl_nI (by omega), h.2.2.2.2.1 (3 * j + ch) (by omega), Nat.mul_comm]
end
section
theorem ti_add {a b : Int32} (h1 : -2147483648 ≤ a.toInt + b.toInt) (h2 : a.toInt + b.toInt < 2147483648) : (a + b).toInt = a.toInt + b.toInt := by
  rw [Int32.toInt_add]; simp only [Int.bmod]; omega
theorem ti_sub {a b : Int32} (h1 : -2147483648 ≤ a.toInt - b.toInt) (h2 : a.toInt - b.toInt < 2147483648) : (a - b).toInt = a.toInt - b.toInt := by
  rw [Int32.toInt_sub]; simp only [Int.bmod]; omega
theorem ti_mul {a b : Int32} (h1 : -2147483648 ≤ a.toInt * b.toInt) (h2 : a.toInt * b.toInt < 2147483648) : (a * b).toInt = a.toInt * b.toInt := by
  rw [Int32.toInt_mul]; generalize a.toInt * b.toInt = z at *; simp only [Int.bmod]; omega
theorem ti_div {a b : Int32} (h1 : 0 ≤ a.toInt) (h2 : 0 < b.toInt) : (a / b).toInt = a.toInt / b.toInt := by
  obtain ⟨x, hx, rfl⟩ := nI_of (x := a) (by rw [i32_lt]; simp; omega)
  obtain ⟨y, hy, rfl⟩ := nI_of (x := b) (by rw [i32_lt]; simp; omega)
  rw [nI_toInt hx] at *; rw [nI_toInt hy] at *
  have : x / y < 2 ^ 31 := Nat.lt_of_le_of_lt (Nat.div_le_self x y) hx
  rw [pk_div hx (by omega) hy, nI_toInt this, Int.natCast_ediv]
theorem zsum_cg {f g : Nat → Int} : ∀ n, (∀ i, i < n → f i = g i) → zsum f n = zsum g n
  | 0, _ => rfl
  | n + 1, h => by rw [zsum, zsum, zsum_cg n fun i hi => h i (by omega), h n (by omega)]
theorem zsum_le {f g : Nat → Int} : ∀ n, (∀ i, i < n → f i ≤ g i) → zsum f n ≤ zsum g n
  | 0, _ => Int.le_refl _
  | n + 1, h => by rw [zsum, zsum]; have := zsum_le n fun i hi => h i (by omega); have := h n (by omega); omega
theorem zsum_0 {f : Nat → Int} : ∀ n, (∀ i, i < n → f i = 0) → zsum f n = 0
  | 0, _ => rfl
  | n + 1, h => by rw [zsum, zsum_0 n fun i hi => h i (by omega), h n (by omega)]; rfl
theorem zsum_nn {f : Nat → Int} : ∀ n, (∀ i, i < n → 0 ≤ f i) → 0 ≤ zsum f n
  | 0, _ => Int.le_refl _
  | n + 1, h => by rw [zsum]; have := zsum_nn n fun i hi => h i (by omega); have := h n (by omega); omega
theorem zsum_ge {f : Nat → Int} : ∀ n, (∀ i, i < n → 0 ≤ f i) → ∀ j, j < n → f j ≤ zsum f n
  | 0, _, j, hj => absurd hj (Nat.not_lt_zero j)
  | n + 1, h, j, hj => by
    rw [zsum]
    have h1 := zsum_nn n fun i hi => h i (by omega)
    have h2 := h n (by omega)
    by_cases e : j = n
    · subst e; omega
    · have := zsum_ge n (fun i hi => h i (by omega)) j (by omega); omega
theorem zsum_one {f g : Nat → Int} {x : Nat} (h : ∀ i, i ≠ x → g i = f i) : ∀ n, x < n → zsum g n = zsum f n + (g x - f x)
  | 0, hx => absurd hx (Nat.not_lt_zero x)
  | n + 1, hx => by
    rw [zsum, zsum]
    by_cases e : x = n
    · subst e; rw [zsum_cg x fun i hi => h i (by omega)]; omega
    · have := zsum_one h n (by omega); have := h n (fun z => e z.symm); omega
theorem zsum_two {f g : Nat → Int} {x y : Nat} (hxy : x ≠ y) (h : ∀ i, i ≠ x → i ≠ y → g i = f i) (n : Nat) (hx : x < n) (hy : y < n) : zsum g n = zsum f n + (g x - f x) + (g y - f y) := by
  have h1 := zsum_one (f := f) (g := fun i => if i = x then g x else f i) (x := x) (fun i hi => if_neg hi) n hx
  have h2 := zsum_one (f := fun i => if i = x then g x else f i) (g := g) (x := y) (fun i hi => by
    by_cases e : i = x
    · subst e; simp
    · simp [e, h i e hi]) n hy
  simp only [if_true] at h1
  rw [if_neg (fun z => hxy z.symm)] at h2
  omega
theorem isum_z {f : Nat → Int32} : ∀ n, n ≤ 100 → (∀ i, i < n → 0 ≤ (f i).toInt ∧ (f i).toInt ≤ 1000) → (isum f n).toInt = zsum (fun i => (f i).toInt) n ∧ 0 ≤ zsum (fun i => (f i).toInt) n ∧ zsum (fun i => (f i).toInt) n ≤ 1000 * n
  | 0, _, _ => ⟨rfl, Int.le_refl _, by simp [zsum]⟩
  | n + 1, hn, h => by
    obtain ⟨h1, h2, h3⟩ := isum_z n (by omega) fun i hi => h i (by omega)
    have h4 := h n (by omega)
    rw [isum, zsum, ti_add (by omega) (by omega), h1]
    omega
/-! flows -/
def fG (f : Nat → Int32) (g S : Int32) : Nat → Int32 := fun n => (isum f n + f n) * g / S - isum f n * g / S
theorem fG_0 {f : Nat → Int32} {g S : Int32} {n : Nat} (h : f n = 0) : fG f g S n = 0 := by
  rw [fG, h, Int32.add_zero, Int32.sub_self]
theorem fG_z {f : Nat → Int32} {g : Int32} {N : Nat} (hN : N ≤ 12) (hf : ∀ i, i < 12 → 0 ≤ (f i).toInt ∧ (f i).toInt ≤ 1000) (h1 : 1 ≤ g.toInt) (h2 : g.toInt ≤ (isum f N).toInt) (n : Nat) (hn : n < 12) (hA : zsum (fun i => (f i).toInt) (n + 1) ≤ 12000) :
    (fG f g (isum f N) n).toInt = zsum (fun i => (f i).toInt) (n + 1) * g.toInt / (isum f N).toInt - zsum (fun i => (f i).toInt) n * g.toInt / (isum f N).toInt ∧ 0 ≤ (fG f g (isum f N) n).toInt ∧ (fG f g (isum f N) n).toInt ≤ (f n).toInt := by
  obtain ⟨a1, a2, a3⟩ := isum_z (f := f) N (by omega) fun i hi => hf i (by omega)
  obtain ⟨b1, b2, b3⟩ := isum_z (f := f) n (by omega) fun i hi => hf i (by omega)
  have hfn := hf n hn
  have hS : (isum f N).toInt ≤ 12000 := by omega
  generalize (isum f N) = S at *
  rw [zsum] at hA ⊢
  generalize hA0 : zsum (fun i => (f i).toInt) n = A at *
  generalize hF : (f n).toInt = F at *
  have m1 : 0 ≤ A * g.toInt := Int.mul_nonneg b2 (by omega)
  have m2 : A * g.toInt ≤ 12000 * 12000 := Int.mul_le_mul (by omega) (by omega) (by omega) (by omega)
  have m3 : 0 ≤ (A + F) * g.toInt := Int.mul_nonneg (by omega) (by omega)
  have m4 : (A + F) * g.toInt ≤ 12000 * 12000 := Int.mul_le_mul (by omega) (by omega) (by omega) (by omega)
  have s1 : (isum f n + f n).toInt = A + F := by rw [ti_add (by omega) (by omega), b1, hF]
  have s2 : (isum f n * g).toInt = A * g.toInt := by rw [ti_mul (by rw [b1]; omega) (by rw [b1]; omega), b1]
  have s3 : ((isum f n + f n) * g).toInt = (A + F) * g.toInt := by rw [ti_mul (by rw [s1]; omega) (by rw [s1]; omega), s1]
  have d1 : (isum f n * g / S).toInt = A * g.toInt / S.toInt := by rw [ti_div (by rw [s2]; omega) (by omega), s2]
  have d2 : ((isum f n + f n) * g / S).toInt = (A + F) * g.toInt / S.toInt := by rw [ti_div (by rw [s3]; omega) (by omega), s3]
  have e1 : A * g.toInt / S.toInt ≤ (A + F) * g.toInt / S.toInt := Int.ediv_le_ediv (by omega) (Int.mul_le_mul_of_nonneg_right (by omega) (by omega))
  have e2 : (A + F) * g.toInt / S.toInt ≤ A * g.toInt / S.toInt + F := by
    rw [← Int.add_mul_ediv_right _ _ (by omega : S.toInt ≠ 0)]
    refine Int.ediv_le_ediv (by omega) ?_
    rw [Int.add_mul]
    have := Int.mul_le_mul_of_nonneg_left h2 (by omega : 0 ≤ F)
    omega
  have e3 : 0 ≤ A * g.toInt / S.toInt := Int.ediv_nonneg m1 (by omega)
  have e4 : (fG f g S n).toInt = (A + F) * g.toInt / S.toInt - A * g.toInt / S.toInt := by
    rw [fG, ti_sub (by rw [d1, d2]; omega) (by rw [d1, d2]; omega), d1, d2]
  rw [e4]; omega
theorem fG_sum {f : Nat → Int32} {g : Int32} {N : Nat} (hN : N ≤ 12) (hf : ∀ i, i < 12 → 0 ≤ (f i).toInt ∧ (f i).toInt ≤ 1000) (h1 : 1 ≤ g.toInt) (h2 : g.toInt ≤ (isum f N).toInt) : ∀ n, n ≤ 12 →
    zsum (fun i => (fG f g (isum f N) i).toInt) n = zsum (fun i => (f i).toInt) n * g.toInt / (isum f N).toInt
  | 0, _ => by simp [zsum]
  | n + 1, hn => by
    have hA := (isum_z (f := f) (n + 1) (by omega) fun i hi => hf i (by omega)).2.2
    rw [zsum, fG_sum hN hf h1 h2 n (by omega), (fG_z hN hf h1 h2 n (by omega) (by omega)).1]
    omega
theorem fG_all {f : Nat → Int32} {g : Int32} {N : Nat} (hN : N ≤ 12) (hf : ∀ i, i < 12 → 0 ≤ (f i).toInt ∧ (f i).toInt ≤ 1000) (h1 : 1 ≤ g.toInt) (h2 : g.toInt ≤ (isum f N).toInt) : zsum (fun i => (fG f g (isum f N) i).toInt) N = g.toInt := by
  rw [fG_sum hN hf h1 h2 N hN, ← (isum_z (f := f) N (by omega) fun i hi => hf i (by omega)).1]
  exact Int.mul_ediv_cancel_left _ (by omega)
theorem fG_cg {f f' : Nat → Int32} {g S S' : Int32} (hS : S = S') (n : Nat) (h : ∀ i, i ≤ n → f i = f' i) : fG f g S n = fG f' g S' n := by
  rw [fG, fG, hS, isum_cg n fun i hi => h i (by omega), h n (Nat.le_refl n)]
/-! the writes, one place at a time -/
theorem mvL_pt (L : Nat → Int32) {f t : Nat} (hft : f ≠ t) (fl : Nat → Int32) : ∀ N, N ≤ 12 → ∀ r m, m < 12 → mvL L f t fl N (r * 12 + m) = if m < N then (if r = f then L (r * 12 + m) - fl m else if r = t then L (r * 12 + m) + fl m else L (r * 12 + m)) else L (r * 12 + m)
  | 0, _, r, m, _ => by rw [mvL, if_neg (by omega)]
  | n + 1, hN, r, m, hm => by
    have ih := mvL_pt L hft fl n (by omega)
    rw [mvL]
    by_cases e : m = n
    · subst e
      rw [if_pos (by omega)]
      by_cases a : r = f
      · subst a; rw [upd_n (by omega), upd_s, if_pos rfl, ih r m hm, if_neg (by omega)]
      · by_cases b : r = t
        · subst b; rw [upd_s, upd_n (by omega), if_neg a, if_pos rfl, ih r m hm, if_neg (by omega)]
        · rw [upd_n (by omega), upd_n (by omega), if_neg a, if_neg b, ih r m hm, if_neg (by omega)]
    · rw [upd_n (by omega), upd_n (by omega), ih r m hm]
      by_cases q : m < n
      · rw [if_pos q, if_pos (show m < n + 1 by omega)]
      · rw [if_neg q, if_neg (show ¬ m < n + 1 by omega)]
theorem wzL_pt (L : Nat → Int32) {f : Nat} (hf : f ≠ 106) : ∀ N, N ≤ 12 → ∀ r m, m < 12 → wzL L f N (r * 12 + m) = if m < N then (if r = f then 0 else if r = 106 then L (r * 12 + m) + L (f * 12 + m) else L (r * 12 + m)) else L (r * 12 + m)
  | 0, _, r, m, _ => by rw [wzL, if_neg (by omega)]
  | n + 1, hN, r, m, hm => by
    have ih := wzL_pt L hf n (by omega)
    rw [wzL]
    by_cases e : m = n
    · subst e
      rw [if_pos (by omega)]
      by_cases a : r = f
      · subst a; rw [upd_n (by omega), upd_s, if_pos rfl]
      · by_cases b : r = 106
        · subst b; rw [upd_s, upd_n (by omega), if_neg a, if_pos rfl, ih 106 m hm, if_neg (by omega)]
        · rw [upd_n (by omega), upd_n (by omega), if_neg a, if_neg b, ih r m hm, if_neg (by omega)]
    · rw [upd_n (by omega), upd_n (by omega), ih r m hm]
      by_cases q : m < n
      · rw [if_pos q, if_pos (show m < n + 1 by omega)]
      · rw [if_neg q, if_neg (show ¬ m < n + 1 by omega)]
theorem subF_pt (P F : Nat → Int32) (x : Nat) : ∀ n, n ≤ 12 → ∀ p t, t < 12 → subF P F (12 * x) n (12 * p + t) = if p = x ∧ t < n then P (12 * p + t) - F t else P (12 * p + t)
  | 0, _, p, t, _ => by rw [subF, if_neg (by omega)]
  | n + 1, hn, p, t, ht => by
    have ih := subF_pt P F x n (by omega)
    rw [subF]
    by_cases e : p = x ∧ t = n
    · obtain ⟨rfl, rfl⟩ := e
      rw [upd_s, if_pos (by omega), ih p t ht, if_neg (by omega)]
    · rw [upd_n (by omega), ih p t ht]
      by_cases q : p = x ∧ t < n
      · rw [if_pos q, if_pos (by omega)]
      · rw [if_neg q, if_neg (by omega)]
theorem addF_pt (P F : Nat → Int32) (x : Nat) : ∀ n, n ≤ 12 → ∀ p t, t < 12 → addF P F (12 * x) n (12 * p + t) = if p = x ∧ t < n then P (12 * p + t) + F t else P (12 * p + t)
  | 0, _, p, t, _ => by rw [addF, if_neg (by omega)]
  | n + 1, hn, p, t, ht => by
    have ih := addF_pt P F x n (by omega)
    rw [addF]
    by_cases e : p = x ∧ t = n
    · obtain ⟨rfl, rfl⟩ := e
      rw [upd_s, if_pos (by omega), ih p t ht, if_neg (by omega)]
    · rw [upd_n (by omega), ih p t ht]
      by_cases q : p = x ∧ t < n
      · rw [if_pos q, if_pos (by omega)]
      · rw [if_neg q, if_neg (by omega)]
theorem setF_pt (P F : Nat → Int32) (x : Nat) : ∀ n, n ≤ 12 → ∀ p t, t < 12 → setF P F (12 * x) n (12 * p + t) = if p = x ∧ t < n then F t else P (12 * p + t)
  | 0, _, p, t, _ => by rw [setF, if_neg (by omega)]
  | n + 1, hn, p, t, ht => by
    have ih := setF_pt P F x n (by omega)
    rw [setF]
    by_cases e : p = x ∧ t = n
    · obtain ⟨rfl, rfl⟩ := e
      rw [upd_s, if_pos (by omega)]
    · rw [upd_n (by omega), ih p t ht]
      by_cases q : p = x ∧ t < n
      · rw [if_pos q, if_pos (by omega)]
      · rw [if_neg q, if_neg (by omega)]
theorem zerB_pt (P : Nat → Int32) (x : Nat) : ∀ n, n ≤ 12 → ∀ p t, t < 12 → zerB P (12 * x) n (12 * p + t) = if p = x ∧ t < n then 0 else P (12 * p + t)
  | 0, _, p, t, _ => by rw [zerB, if_neg (by omega)]
  | n + 1, hn, p, t, ht => by
    have ih := zerB_pt P x n (by omega)
    rw [zerB]
    by_cases e : p = x ∧ t = n
    · obtain ⟨rfl, rfl⟩ := e
      rw [upd_s, if_pos (by omega)]
    · rw [upd_n (by omega), ih p t ht]
      by_cases q : p = x ∧ t < n
      · rw [if_pos q, if_pos (by omega)]
      · rw [if_neg q, if_neg (by omega)]
theorem wstB_pt (W P : Nat → Int32) (x : Nat) : ∀ n, n ≤ 12 → ∀ t, t < 12 → wstB W P (12 * x) n t = if t < n then W t + P (12 * x + t) else W t
  | 0, _, t, _ => by rw [wstB, if_neg (by omega)]
  | n + 1, hn, t, ht => by
    have ih := wstB_pt W P x n (by omega)
    rw [wstB]
    by_cases e : t = n
    · subst e
      rw [upd_s, if_pos (by omega), ih t ht, if_neg (by omega), zerB_pt P x t (by omega) x t ht, if_neg (by omega)]
    · rw [upd_n e, ih t ht]
      by_cases q : t < n
      · rw [if_pos q, if_pos (by omega)]
      · rw [if_neg q, if_neg (by omega)]
theorem sumB_pt (s : Int32) (P : Nat → Int32) (x : Nat) : ∀ n, n ≤ 12 → sumB s P (12 * x) n = s + isum (fun t => P (12 * x + t)) n
  | 0, _ => by rw [sumB, isum, Int32.add_zero]
  | n + 1, hn => by
    rw [sumB, isum, sumB_pt s P x n (by omega), zerB_pt P x n (by omega) x n (by omega), if_neg (by omega), Int32.add_assoc]
end
section
theorem op_left {σ τ : gS} {np nt no ni : Nat} (hR : RR σ τ np nt no ni) (t : Int32) : opOK (th_left nt t) (tm_left nt t) cdI (σ.2 2 (cl t)) (τ.2 2 (cl t)) (σ) (sS τ 0 0) := by
  refine opIf Iff.rfl (by decide) fun h1 => ok0 ?_ ⟨np, nt, no, ni, hR⟩ rfl
  have hp := hR.pt
  exact (hR.2.2.2.2.2.2.1 _ (by have := (nb_lt (by omega) h1).1; omega)).symm
theorem op_has {σ τ : gS} {np nt no ni : Nat} (hR : RR σ τ np nt no ni) (x t : Int32) : opOK (th_has nt no x t) (tm_has nt no x t) cdI (r_has σ nt (cl x) t) (rm_has τ (cl x) t) (σ) (sS τ 0 0) := by
  refine opIf Iff.rfl (by decide) fun h1 => opIf Iff.rfl (by decide) fun h2 => ok0 ?_ ⟨np, nt, no, ni, hR⟩ rfl
  have hp := hR.pt
  have hx := (nb_lt (by omega) h1).1
  rw [r_has, rm_has]
  by_cases c : t = -1
  · rw [if_pos c, if_pos c]; exact (hR.pot (by omega)).symm
  · rw [if_neg c, if_neg c]
    have ht := (nb_lt (by omega) fun z => h2 ⟨c, z⟩).1
    exact (hR.2.2.2.2.2.2.2.2.1 _ _ (by omega) (by omega)).symm
theorem op_colour {σ τ : gS} {np nt no ni : Nat} (hR : RR σ τ np nt no ni) (x v : Int32) : opOK (th_colour no x v) (tm_colour no x v) cdI (colR σ nt (cl x) (cl v)) (rm_colour τ nt (cl x) (cl v)) (σ) (sS τ 0 0) := by
  refine opIf Iff.rfl (by decide) fun h1 => opIf Iff.rfl (by decide) fun h2 => ok0 ?_ ⟨np, nt, no, ni, hR⟩ rfl
  have hp := hR.pt
  have hx := (nb_lt (by omega) h1).1
  obtain ⟨a, ⟨-, ha⟩, rfl⟩ := out_nat (M := 2) rfl (by decide) h2
  rw [cl_nI (by omega), colR, rm_colour, hR.pot (by omega)]
  congr 2
  exact isum_cg nt fun t ht => by
    rw [colT_M hR (by omega) (by omega), hR.2.2.2.2.2.2.2.2.1 _ _ (by omega) (by omega)]
theorem op_layer {σ τ : gS} {np nt no ni : Nat} (hR : RR σ τ np nt no ni) (q k t : Int32) : opOK (th_layer σ nt ni q k t) (tm_layer τ nt ni q k t) cdI (σ.2 3 ((10 + cl q * 12 + cl k) * 12 + cl t)) (τ.2 6 (12 * (12 * cl q + cl k) + cl t)) (σ) (sS τ 0 0) := by
  have hp := hR.pt
  have key : ¬ bad q (nI ni) → τ.2 5 (cl q) = σ.2 4 (cl q) := fun h => hR.lc (by have := (nb_lt (by omega) h).1; omega)
  refine opIf ?_ (by decide) fun h1 => ok0 ?_ ⟨np, nt, no, ni, hR⟩ rfl
  · by_cases c : bad q (nI ni)
    · exact ⟨fun _ => Or.inl c, fun _ => Or.inl c⟩
    · rw [key c]
  · have hq := (nb_lt (by omega) fun z => h1 (Or.inl z)).1
    obtain ⟨j, hj, ej⟩ := hR.1.2.2.2.2.2.1 (cl q)
    have hk := (nb_lt (N := j) (by omega) fun z => h1 (Or.inr (Or.inl (by rw [ej]; exact z)))).1
    have ht := (nb_lt (by omega) fun z => h1 (Or.inr (Or.inr z))).1
    exact (hR.2.2.2.2.2.2.2.2.2.2.1 _ _ _ (by omega) (by omega) (by omega)).symm
theorem op_where {σ τ : gS} {np nt no ni : Nat} (hR : RR σ τ np nt no ni) (t v : Int32) : opOK (th_where nt t v) (tm_where nt t v) cdI (r_where σ (cl t) (cl v)) (rm_where τ no (cl t) (cl v)) (σ) (sS τ 0 0) := by
  refine opIf Iff.rfl (by decide) fun h1 => opIf Iff.rfl (by decide) fun h2 => ok0 ?_ ⟨np, nt, no, ni, hR⟩ rfl
  have hp := hR.pt
  have ht := (nb_lt (by omega) h1).1
  generalize cl t = a at ht ⊢
  rw [r_where, rm_where]
  repeat' split
  · exact (hR.2.2.2.2.2.2.1 _ (by omega)).symm
  · rw [tubS]
    refine (isum_to (n := no) (m := 10) (by omega) fun i h3 h4 => ?_).trans (isum_cg no fun i hi => ?_)
    · rw [Nat.zero_add]; exact hR.2.2.1.2.2.1 i a h4 (by omega) (Or.inr h3)
    · rw [Nat.zero_add]; exact (hR.2.2.2.2.2.2.2.2.1 _ _ (by omega) (by omega)).symm
  · rw [tubS]
    refine isum_cg 96 fun i hi => ?_
    have h3 := hR.2.2.2.2.2.2.2.2.2.2.1 (i / 12) (i % 12) a (by omega) (by omega) (by omega)
    rw [show 12 * (12 * (i / 12) + i % 12) + a = 12 * i + a by omega, show (10 + i / 12 * 12 + i % 12) * 12 + a = (10 + i) * 12 + a by omega] at h3
    exact h3.symm
  · rw [tubS, isum, isum, Int32.zero_add, Nat.add_zero]; exact (hR.2.2.2.2.2.2.2.1 _ (by omega)).symm
theorem op_paid {σ τ : gS} {np nt no ni : Nat} (hR : RR σ τ np nt no ni) (x : Int32) : opOK (th_paid x) (tm_paid x) cdI (σ.2 11 (cl x)) (τ.2 13 (cl x)) (σ) (sS τ 0 0) := by
  refine opIf Iff.rfl (by decide) fun h1 => ok0 ?_ ⟨np, nt, no, ni, hR⟩ rfl
  have hx := (nb_lt (N := 4) (by omega) h1).1
  exact (hR.2.2.2.2.2.2.2.2.2.2.2.2.2.2.2.2.2 _ (by omega)).symm
end
section
theorem i32_nle_iff {x y : Int32} : (¬ x ≤ y) ↔ y < x := by rw [i32_le, i32_lt]; omega
theorem nlt_of {n N : Nat} (h : n ≤ N) (hN : N < 2 ^ 31) (q : ¬ ¬ nI n < nI N) : n < N := (nI_ltI (by omega) hN).mp (Classical.not_not.mp q)
theorem op_pot {σ τ : gS} {np nt no ni : Nat} (hR : RR σ τ np nt no ni)  : opOK (th_pot no) (tm_pot no) cdS (nI no) (nI no) (sS σ 2 (nI (no + 1))) (sS (sS τ 0 0) 3 (nI (no + 1))) := by
  have hp := hR.pt
  obtain ⟨⟨A1, A2, A3, A4, A5, A6, A7⟩, ⟨M1, M2, M3, M4, M5, M6, M7⟩, ⟨n1, n2, n3, n4, n5, n6, n7, n8⟩, r⟩ := hR
  refine opIf (full_iff (N := 10) (by omega) (by decide)) (by decide) fun h1 => ?_
  have h2 := nlt_of (N := 10) (by omega) (by decide) h1
  exact ok0 rfl ⟨np, nt, no + 1, ni, ⟨A1, A2, ⟨rfl, by omega⟩, A4, A5, A6, A7⟩, ⟨M1, M2, ⟨rfl, by omega⟩, M4, M5, M6, M7⟩, ⟨n1, n2, fun p t hp ht h => n3 p t hp ht (by omega), n4, n5, n6, n7, n8⟩, r⟩ rfl
theorem op_picture {σ τ : gS} {np nt no ni : Nat} (hR : RR σ τ np nt no ni)  : opOK (th_picture ni) (tm_picture ni) cdS (nI ni) (nI ni) (sS σ 3 (nI (ni + 1))) (sS (sS τ 0 0) 4 (nI (ni + 1))) := by
  have hp := hR.pt
  obtain ⟨⟨A1, A2, A3, A4, A5, A6, A7⟩, ⟨M1, M2, M3, M4, M5, M6, M7⟩, N, r⟩ := hR
  refine opIf (full_iff (N := 8) (by omega) (by decide)) (by decide) fun h1 => ?_
  have h2 := nlt_of (N := 8) (by omega) (by decide) h1
  exact ok0 rfl ⟨np, nt, no, ni + 1, ⟨A1, A2, A3, ⟨rfl, by omega⟩, A5, A6, A7⟩, ⟨M1, M2, M3, ⟨rfl, by omega⟩, M5, M6, M7⟩, N, r⟩ rfl
theorem op_pigment {σ τ : gS} {np nt no ni : Nat} (hR : RR σ τ np nt no ni) (r g b : Int32) : opOK (th_pigment np r g b) (tm_pigment np r g b) cdA (nI np) (nI np) (s_pigment σ np r g b) (m_pigment τ np r g b) := by
  have hp := hR.pt
  obtain ⟨⟨A1, A2, A3, A4, A5, A6, A7⟩, ⟨M1, M2, M3, M4, M5, M6, M7⟩, ⟨n1, n2, n3, n4, n5, n6, n7, n8, n9⟩, ⟨r1, r2, r3⟩⟩ := hR
  refine opIf Iff.rfl (by decide) fun _ => opIf (full_iff (N := 6) (by omega) (by decide)) (by decide) fun h1 => ?_
  have h2 := nlt_of (N := 6) (by omega) (by decide) h1
  refine ok0 rfl ⟨np + 1, nt, no, ni, ⟨⟨rfl, by omega⟩, A2, A3, A4, A5, A6, A7⟩, ⟨⟨rfl, by omega⟩, M2, M3, M4, M5, M6, M7⟩, ⟨n1, n2, n3, n4, n5, n6, n7, n8, fun t ht => ?_⟩, ⟨r1, fun j hj => ?_, r3⟩⟩ rfl
  · show (σ.2 1 t).toInt < (nI (np + 1)).toInt
    have h3 := n9 t ht
    rw [A1.1, nI_toInt (by omega)] at h3
    rw [nI_toInt (by omega)]; omega
  show upd (upd (upd (τ.2 0) (3 * np) r) (3 * np + 1) g) (3 * np + 2) b j = upd (upd (upd (σ.2 0) (np * 3) r) (np * 3 + 1) g) (np * 3 + 2) b j
  rw [Nat.mul_comm 3 np]
  exact upd_cg (fun _ => upd_cg (fun _ => upd_cg (fun _ => r2 j hj) fun _ => rfl) fun _ => rfl) fun _ => rfl
theorem op_damp {σ τ : gS} {np nt no ni : Nat} (hR : RR σ τ np nt no ni) (x d : Int32) : opOK (th_damp x d) (tm_damp x d) cdI (σ.2 10 (cl x)) (τ.2 12 (cl x)) (sA σ 10 (upd (σ.2 10) (cl x) d)) (sA (sS τ 0 0) 12 (upd (τ.2 12) (cl x) d)) := by
  have hp := hR.pt
  obtain ⟨A, M, ⟨n1, n2, n3, n4, n5, n6, n7, n8⟩, ⟨r1, r2, r3, r4, r5, r6, r7, r8, r9, r10, r11, r12, r13, r14, r15⟩⟩ := hR
  refine opIf Iff.rfl (by decide) fun h1 => opIf Iff.rfl (by decide) fun h2 => ?_
  have hx := (nb_lt (N := 4) (by omega) h1).1
  refine ok0 (r14 _ hx).symm ⟨np, nt, no, ni, A, M, ⟨n1, n2, n3, n4, n5, n6, fun h hh => ?_, n8⟩, ⟨r1, r2, r3, r4, r5, r6, r7, r8, r9, r10, r11, r12, r13, fun h hh => ?_, r15⟩⟩ rfl
  · refine upd_all (P := fun _ v => 0 ≤ v.toInt ∧ v.toInt ≤ 100) h (fun _ => n7 h hh) fun _ => ?_
    obtain ⟨a, ⟨-, ha⟩, rfl⟩ := out_nat (M := 100) rfl (by decide) h2
    rw [nI_toInt (by omega)]; omega
  · exact upd_cg (fun _ => r14 h hh) fun _ => rfl
theorem op_tube {σ τ : gS} {np nt no ni : Nat} (hR : RR σ τ np nt no ni) (x g : Int32) : opOK (th_tube np nt x g) (tm_tube np nt x g) cdI (nI nt) (nI nt) (s_tube σ nt x g) (m_tube τ nt x g) := by
  have hp := hR.pt
  obtain ⟨⟨A1, A2, A3, A4, A5, A6, A7⟩, ⟨M1, M2, M3, M4, M5, M6, M7⟩, ⟨n1, n2, n3, n4, n5, n6, n7, n8, n9⟩, ⟨r1, r2, r3, r4, r5⟩⟩ := hR
  refine opIf Iff.rfl (by decide) fun h0 => opIf Iff.rfl (by decide) fun hg => opIf (full_iff (N := 12) (by omega) (by decide)) (by decide) fun h1 => ?_
  have h2 := nlt_of (N := 12) (by omega) (by decide) h1
  obtain ⟨hx, ex⟩ := nb_lt (by omega) h0
  refine ok0 rfl ⟨np, nt + 1, no, ni, ⟨A1, ⟨rfl, by omega⟩, A3, A4, fun t => ?_, A6, A7⟩, ⟨M1, ⟨rfl, by omega⟩, M3, M4, fun t => ?_, M6, M7⟩, ⟨fun t ht => ?_, n2, fun p t hp ht h => n3 p t hp ht (by omega), n4, fun q k t hq hk ht h => n5 q k t hq hk ht (h.elim (fun z => Or.inl (by omega)) Or.inr), n6, n7, n8, fun t ht => ?_⟩, ⟨r1, r2, fun t ht => ?_, fun t ht => ?_, r5⟩⟩ rfl
  · exact upd_all (P := fun _ v => ∃ j, j < 6 ∧ v = nI j) t (fun _ => A5 t) fun _ => ⟨_, by omega, ex⟩
  · exact upd_all (P := fun _ v => ∃ j, j < 6 ∧ v = nI j) t (fun _ => M5 t) fun _ => ⟨_, by omega, ex⟩
  · refine upd_all (P := fun _ v => 0 ≤ v.toInt ∧ v.toInt + zsum (fun p => (σ.2 3 (p * 12 + t)).toInt) 10 ≤ 1000) t (fun _ => n1 t ht) fun e => ?_
    obtain ⟨a, ⟨-, ha⟩, rfl⟩ := out_nat (M := 1000) rfl (by decide) hg
    rw [nI_toInt (by omega), zsum_0 10 fun p hp => by rw [n3 p t hp ht (by omega)]; rfl]; omega
  · show (upd (σ.2 1) nt x t).toInt < (σ.1 0).toInt
    refine upd_all (P := fun _ v => v.toInt < (σ.1 0).toInt) t (fun e => n9 t (by omega)) fun _ => ?_
    rw [A1.1, ex, nI_toInt (by omega), nI_toInt (by omega)]; omega
  · exact upd_cg (fun _ => r3 t ht) fun _ => rfl
  · exact upd_cg (fun _ => r4 t ht) fun _ => rfl
theorem nInv.ent {σ : gS} {nt no : Nat} (h : nInv σ nt no) {p t : Nat} (hp : p < 10) (ht : t < 12) : 0 ≤ (σ.2 3 (p * 12 + t)).toInt ∧ (σ.2 3 (p * 12 + t)).toInt ≤ 1000 := by
  have h1 := h.1 t ht
  have h2 := zsum_ge (f := fun p => (σ.2 3 (p * 12 + t)).toInt) 10 (fun i hi => h.2.1 i t hi ht) p hp
  have h3 := h.2.1 p t hp ht
  omega
theorem op_squeeze {σ τ : gS} {np nt no ni : Nat} (hR : RR σ τ np nt no ni) (x t g : Int32) : opOK (th_squeeze σ nt no x t g) (tm_squeeze τ nt no x t g) cdI (σ.2 2 (cl t) - g) (τ.2 2 (cl t) - g) (s_squeeze σ (cl x) (cl t) g) (m_squeeze τ (cl x) (cl t) g) := by
  have hp := hR.pt
  have hent := @nInv.ent _ _ _ hR.2.2.1
  obtain ⟨A, M, ⟨n1, n2, n3, n4, n5, n6, n7, n8⟩, ⟨r1, r2, r3, r4, r5, r6, r7, r8, r9⟩⟩ := hR
  refine opIf Iff.rfl (by decide) fun h0 => ?_
  have hx := (nb_lt (by omega) fun z => h0 (Or.inl z)).1
  have ht := (nb_lt (by omega) fun z => h0 (Or.inr z)).1
  refine opIf Iff.rfl (by decide) fun hg => opIf (by rw [r4 _ (by omega)]) (by decide) fun h1 => ?_
  have h2 : g ≤ σ.2 2 (cl t) := Classical.not_not.mp h1
  rw [i32_le] at h2
  have h3 := out_lo hg
  rw [i32_le] at h3
  have h4 : (1 : Int32).toInt = 1 := rfl
  generalize cl x = a at *
  generalize cl t = b at *
  have b1 := n1 b (by omega)
  have b2 := zsum_nn (f := fun p => (σ.2 3 (p * 12 + b)).toInt) 10 (fun i hi => n2 i b hi (by omega))
  have b3 := hent (p := a) (t := b) (by omega) (by omega)
  have es : (σ.2 2 b - g).toInt = (σ.2 2 b).toInt - g.toInt := ti_sub (by omega) (by omega)
  have ea : (σ.2 3 (a * 12 + b) + g).toInt = (σ.2 3 (a * 12 + b)).toInt + g.toInt := ti_add (by omega) (by omega)
  refine ok0 (by rw [r4 _ (by omega)]) ⟨np, nt, no, ni, A, M, ⟨fun t' ht' => ?_, fun p t' hp' ht' => ?_, fun p t' hp' ht' h => ?_, fun q k t' hq hk ht' => ?_, fun q k t' hq hk ht' h => ?_, fun q k hq hk => ?_, n7, n8⟩, ⟨r1, r2, r3, fun t' ht' => ?_, fun t' ht' => ?_, fun p t' hp' ht' => ?_, r7, fun q k t' hq hk ht' => ?_, r9⟩⟩ rfl
  · show 0 ≤ (upd (σ.2 2) b (σ.2 2 b - g) t').toInt ∧ (upd (σ.2 2) b (σ.2 2 b - g) t').toInt + zsum (fun p => (upd (σ.2 3) (a * 12 + b) (σ.2 3 (a * 12 + b) + g) (p * 12 + t')).toInt) 10 ≤ 1000
    by_cases e : t' = b
    · subst e
      rw [upd_s, zsum_one (f := fun p => (σ.2 3 (p * 12 + t')).toInt) (x := a) (fun i hi => by rw [upd_n (by omega)]) 10 (by omega), upd_s, es, ea]
      omega
    · rw [upd_n e, zsum_cg 10 fun p hp => by rw [upd_n (by omega)]]
      exact n1 t' ht'
  · exact upd_all (P := fun _ v => 0 ≤ v.toInt) _ (fun _ => n2 p t' hp' ht') fun _ => by rw [ea]; omega
  · exact upd_all (P := fun _ v => v = 0) _ (fun _ => n3 p t' hp' ht' h) fun e => by omega
  · exact (congrArg (fun v : Int32 => 0 ≤ v.toInt ∧ v.toInt ≤ 1000) (upd_n (by omega))).mpr (n4 q k t' hq hk ht')
  · exact (upd_n (by omega)).trans (n5 q k t' hq hk ht' h)
  · refine Int.le_trans (n6 q k hq hk) (Int.le_of_eq (zsum_cg 12 fun t' ht' => ?_))
    exact congrArg Int32.toInt (upd_n (by omega)).symm
  · exact upd_cg (fun _ => r4 t' ht') fun _ => by rw [r4 _ (by omega)]
  · exact (r5 t' ht').trans (upd_n (by omega)).symm
  · show upd (τ.2 4) (12 * a + b) _ (12 * p + t') = upd (σ.2 3) (a * 12 + b) _ (p * 12 + t')
    by_cases e : p = a ∧ t' = b
    · obtain ⟨rfl, rfl⟩ := e
      rw [upd_s, upd_s, r6 _ _ hp' ht']
    · rw [upd_n (by omega), upd_n (by omega), r6 _ _ hp' ht']
  · exact (r8 q k t' hq hk ht').trans (upd_n (by omega)).symm
end
section
/-! pouring, painting, scraping, cleaning -/
theorem RR.flow {σ τ : gS} {np nt no ni : Nat} (h : RR σ τ np nt no ni) {x : Nat} (hx : x < 10) {g : Int32} (h1 : 1 ≤ g) (h2 : ¬ rowS (σ.2 3) x nt < g) :
    (∀ n, n < 12 → flwF τ x g n = flw (σ.2 3) x g (rowS (σ.2 3) x nt) n) ∧
    (∀ n, n < 12 → 0 ≤ (flw (σ.2 3) x g (rowS (σ.2 3) x nt) n).toInt ∧ (flw (σ.2 3) x g (rowS (σ.2 3) x nt) n).toInt ≤ (σ.2 3 (x * 12 + n)).toInt) ∧
    (∀ n, nt ≤ n → n < 12 → flw (σ.2 3) x g (rowS (σ.2 3) x nt) n = 0) ∧
    zsum (fun n => (flw (σ.2 3) x g (rowS (σ.2 3) x nt) n).toInt) nt = g.toInt := by
  have hp := h.pt
  have hent : ∀ i, i < 12 → 0 ≤ (σ.2 3 (x * 12 + i)).toInt ∧ (σ.2 3 (x * 12 + i)).toInt ≤ 1000 := fun i hi => h.2.2.1.ent hx hi
  rw [i32_le] at h1
  rw [i32_lt] at h2
  have h4 : (1 : Int32).toInt = 1 := rfl
  have hz : ∀ n, nt ≤ n → n < 12 → σ.2 3 (x * 12 + n) = 0 := fun n ha hb => h.2.2.1.2.2.1 x n hx hb (Or.inl ha)
  have hfl : ∀ n, flw (σ.2 3) x g (rowS (σ.2 3) x nt) n = fG (fun t => σ.2 3 (x * 12 + t)) g (isum (fun t => σ.2 3 (x * 12 + t)) nt) n := fun _ => rfl
  have h2' : g.toInt ≤ (isum (fun t => σ.2 3 (x * 12 + t)) nt).toInt := by
    have : ¬ (isum (fun t => σ.2 3 (x * 12 + t)) nt).toInt < g.toInt := h2
    omega
  refine ⟨fun n hn => ?_, fun n hn => ?_, fun n ha hb => ?_, ?_⟩
  · rw [flwF, fillF_at _ _ _ _ hn, hfl]
    exact fG_cg (f := fun t => τ.2 4 (12 * x + t)) (S := potS (τ.2 4) x 12) (h.pot hx) n fun i hi => h.2.2.2.2.2.2.2.2.1 x i hx (by omega)
  · rw [hfl]
    have hA := (isum_z (f := fun t => σ.2 3 (x * 12 + t)) (n + 1) (by omega) fun i hi => hent i (by omega)).2.2
    exact (fG_z (f := fun t => σ.2 3 (x * 12 + t)) hp.2.1 hent (by omega) h2' n hn (by omega)).2
  · rw [hfl]; exact fG_0 (hz n ha hb)
  · exact fG_all (f := fun t => σ.2 3 (x * 12 + t)) hp.2.1 hent (by omega) h2'
theorem mvS_pt {σ : gS} {nt x y : Nat} {g : Int32} (hxy : x ≠ y) (hnt : nt ≤ 12) (hz : ∀ n, nt ≤ n → n < 12 → flw (σ.2 3) x g (rowS (σ.2 3) x nt) n = 0) (r m : Nat) (hm : m < 12) :
    mvS σ nt x y g (r * 12 + m) = if r = x then σ.2 3 (r * 12 + m) - flw (σ.2 3) x g (rowS (σ.2 3) x nt) m else if r = y then σ.2 3 (r * 12 + m) + flw (σ.2 3) x g (rowS (σ.2 3) x nt) m else σ.2 3 (r * 12 + m) := by
  rw [mvS, mvL_pt _ hxy _ nt hnt r m hm]
  by_cases c : m < nt
  · rw [if_pos c]
  · rw [if_neg c, hz m (by omega) hm]; simp
theorem op_pour {σ τ : gS} {np nt no ni : Nat} (hR : RR σ τ np nt no ni) (x y g : Int32) : opOK (th_pour σ nt no x y g) (tm_pour τ no x y g) cdI (rowS (mvS σ nt (cl x) (cl y) g) (cl y) nt) (potS (addF (subF (τ.2 4) (flwF τ (cl x) g) (12 * cl x) 12) (flwF τ (cl x) g) (12 * cl y) 12) (cl y) 12) (sA σ 3 (mvS σ nt (cl x) (cl y) g)) (m_pour τ (cl x) (cl y) g) := by
  have hp := hR.pt
  refine opIf Iff.rfl (by decide) fun h0 => ?_
  obtain ⟨hx, ex⟩ := nb_lt (by omega) fun z => h0 (Or.inl z)
  obtain ⟨hy, ey⟩ := nb_lt (by omega) fun z => h0 (Or.inr z)
  refine opIf Iff.rfl (by decide) fun hg => opIf (by rw [hR.pot (by omega)]; exact i32_nle_iff) (by decide) fun h1 => ?_
  have hxy : cl x ≠ cl y := fun z => hg (Or.inl (by rw [ex, ey, z]))
  have hlo := out_lo fun z => hg (Or.inr z)
  generalize cl x = a at *
  generalize cl y = b at *
  obtain ⟨f1, f2, f3, -⟩ := hR.flow (x := a) (by omega) hlo h1
  have hpt := fun r m hm => mvS_pt (g := g) hxy hp.2.1 f3 r m hm
  have hent : ∀ p t, p < 10 → t < 12 → 0 ≤ (σ.2 3 (p * 12 + t)).toInt ∧ (σ.2 3 (p * 12 + t)).toInt ≤ 1000 := fun p t hp ht => hR.2.2.1.ent hp ht
  generalize flw (σ.2 3) a g (rowS (σ.2 3) a nt) = fl at *
  obtain ⟨A, M, ⟨n1, n2, n3, n4, n5, n6, n7, n8⟩, ⟨r1, r2, r3, r4, r5, r6, r7, r8, r9⟩⟩ := hR
  have e1 : ∀ t, t < 12 → (mvS σ nt a b g (a * 12 + t)).toInt = (σ.2 3 (a * 12 + t)).toInt - (fl t).toInt := fun t ht => by
    have := f2 t ht; have := hent a t (by omega) ht
    rw [hpt a t ht, if_pos rfl, ti_sub (by omega) (by omega)]
  have e2 : ∀ t, t < 12 → (mvS σ nt a b g (b * 12 + t)).toInt = (σ.2 3 (b * 12 + t)).toInt + (fl t).toInt := fun t ht => by
    have := f2 t ht; have := hent a t (by omega) ht; have := hent b t (by omega) ht
    rw [hpt b t ht, if_neg (fun z => hxy z.symm), if_pos rfl, ti_add (by omega) (by omega)]
  have e3 : ∀ r t, t < 12 → r ≠ a → r ≠ b → mvS σ nt a b g (r * 12 + t) = σ.2 3 (r * 12 + t) := fun r t ht h1 h2 => by
    rw [hpt r t ht, if_neg h1, if_neg h2]
  have hN : RR (sA σ 3 (mvS σ nt a b g)) (m_pour τ a b g) np nt no ni := by
    refine ⟨A, M, ⟨fun t ht => ⟨(n1 t ht).1, ?_⟩, fun p t hp' ht => ?_, fun p t hp' ht h => ?_, fun q k t hq hk ht => ?_, fun q k t hq hk ht h => ?_, fun q k hq hk => ?_, n7, n8⟩, ⟨r1, r2, r3, r4, fun t ht => ?_, fun p t hp' ht => ?_, r7, fun q k t hq hk ht => ?_, r9⟩⟩
    · show (σ.2 2 t).toInt + zsum (fun p => (mvS σ nt a b g (p * 12 + t)).toInt) 10 ≤ 1000
      rw [zsum_two (f := fun p => (σ.2 3 (p * 12 + t)).toInt) hxy (fun i h1 h2 => by rw [e3 i t ht h1 h2]) 10 (by omega) (by omega), e1 t ht, e2 t ht]
      have := n1 t ht; omega
    · show 0 ≤ (mvS σ nt a b g (p * 12 + t)).toInt
      have := f2 t ht
      by_cases c : p = a
      · subst c; rw [e1 t ht]; omega
      · by_cases c2 : p = b
        · subst c2; rw [e2 t ht]; have := hent p t hp' ht; omega
        · rw [e3 p t ht c c2]; exact n2 p t hp' ht
    · show mvS σ nt a b g (p * 12 + t) = 0
      rcases h with h | h
      · rw [hpt p t ht, n3 p t hp' ht (Or.inl h), f3 t h ht]; simp
      · rw [e3 p t ht (by omega) (by omega)]; exact n3 p t hp' ht (Or.inr h)
    · show 0 ≤ (mvS σ nt a b g _).toInt ∧ (mvS σ nt a b g _).toInt ≤ 1000
      rw [e3 _ t ht (by omega) (by omega)]; exact n4 q k t hq hk ht
    · show mvS σ nt a b g _ = 0
      rw [e3 _ t ht (by omega) (by omega)]; exact n5 q k t hq hk ht h
    · refine Int.le_trans (n6 q k hq hk) (Int.le_of_eq (zsum_cg 12 fun t ht => ?_))
      have hk2 : k < 12 := by
        obtain ⟨j, hj, ej⟩ := A.2.2.2.2.2.1 q
        have : k < cl (σ.2 4 q) := hk
        rw [ej, cl_nI (by omega)] at this; omega
      exact congrArg Int32.toInt (e3 _ t ht (by omega) (by omega)).symm
    · exact (r5 t ht).trans (e3 106 t ht (by omega) (by omega)).symm
    · show addF (subF (τ.2 4) (flwF τ a g) (12 * a) 12) (flwF τ a g) (12 * b) 12 (12 * p + t) = mvS σ nt a b g (p * 12 + t)
      rw [addF_pt _ _ b 12 (by omega) p t ht, subF_pt _ _ a 12 (by omega) p t ht, hpt p t ht, f1 t ht, r6 p t hp' ht]
      by_cases c : p = a
      · rw [if_neg (by omega), if_pos ⟨c, ht⟩, if_pos c]
      · by_cases c2 : p = b
        · rw [if_pos ⟨c2, ht⟩, if_neg (by omega), if_neg c, if_pos c2]
        · rw [if_neg (by omega), if_neg (by omega), if_neg c, if_neg c2]
    · exact (r8 q k t hq hk ht).trans (e3 _ t ht (by omega) (by omega)).symm
  exact ok0 (hN.pot (by omega)).symm ⟨np, nt, no, ni, hN⟩ rfl
theorem op_paint {σ τ : gS} {np nt no ni : Nat} (hR : RR σ τ np nt no ni) (q x g : Int32) : opOK (th_paint σ nt no ni q x g) (tm_paint τ no ni q x g) cdI (nI (cl (σ.2 4 (cl q)) + 1)) (nI (cl (τ.2 5 (cl q)) + 1)) (s_paint σ nt (cl q) (cl x) g) (m_paint τ (cl q) (cl x) g) := by
  have hp := hR.pt
  refine opIf Iff.rfl (by decide) fun h0 => ?_
  have hq := (nb_lt (by omega) fun z => h0 (Or.inl z)).1
  have hx := (nb_lt (by omega) fun z => h0 (Or.inr z)).1
  generalize cl x = a at *
  generalize cl q = b at *
  have elc := hR.lc (q := b) (by omega)
  obtain ⟨lc, hlc, ej⟩ := hR.1.2.2.2.2.2.1 b
  refine opIf Iff.rfl (by decide) fun hg => opIf ?_ (by decide) fun h1 => ?_
  · rw [hR.house (by omega), hR.pot (by omega), elc, ej]
    exact or_congr Iff.rfl (or_congr (full_iff (N := 12) hlc (by decide)) i32_nle_iff)
  have hl12 : lc < 12 := nlt_of (N := 12) hlc (by decide) fun z => h1 (Or.inr (Or.inl (by rw [ej]; exact z)))
  have h2 : ¬ rowS (σ.2 3) a nt < g := fun z => h1 (Or.inr (Or.inr z))
  have ec : cl (σ.2 4 b) = lc := by rw [ej, cl_nI (by omega)]
  have hxy : a ≠ 10 + b * 12 + lc := by omega
  obtain ⟨f1, f2, f3, f4⟩ := hR.flow (x := a) (by omega) (out_lo hg) h2
  have hpt := fun r m hm => mvS_pt (g := g) hxy hp.2.1 f3 r m hm
  have hent : ∀ p t, p < 10 → t < 12 → 0 ≤ (σ.2 3 (p * 12 + t)).toInt ∧ (σ.2 3 (p * 12 + t)).toInt ≤ 1000 := fun p t hp ht => hR.2.2.1.ent hp ht
  have hg1 := out_lo hg
  rw [i32_le] at hg1
  have h4 : (1 : Int32).toInt = 1 := rfl
  generalize flw (σ.2 3) a g (rowS (σ.2 3) a nt) = fl at *
  rw [s_paint, m_paint, elc, ec]
  refine ok0 rfl ⟨np, nt, no, ni, ?_⟩ rfl
  obtain ⟨⟨A1, A2, A3, A4, A5, A6, A7⟩, ⟨M1, M2, M3, M4, M5, M6, M7⟩, ⟨n1, n2, n3, n4, n5, n6, n7, n8⟩, ⟨r1, r2, r3, r4, r5, r6, r7, r8, r9⟩⟩ := hR
  have e1 : ∀ t, t < 12 → (mvS σ nt a (10 + b * 12 + lc) g (a * 12 + t)).toInt = (σ.2 3 (a * 12 + t)).toInt - (fl t).toInt := fun t ht => by
    have := f2 t ht; have := hent a t (by omega) ht
    rw [hpt a t ht, if_pos rfl, ti_sub (by omega) (by omega)]
  have e2 : ∀ t, t < 12 → mvS σ nt a (10 + b * 12 + lc) g ((10 + b * 12 + lc) * 12 + t) = fl t := fun t ht => by
    rw [hpt _ t ht, if_neg (fun z => hxy z.symm), if_pos rfl, n5 b lc t (by omega) hl12 ht (Or.inr (by omega)), Int32.zero_add]
  have e3 : ∀ r t, t < 12 → r ≠ a → r ≠ 10 + b * 12 + lc → mvS σ nt a (10 + b * 12 + lc) g (r * 12 + t) = σ.2 3 (r * 12 + t) := fun r t ht h1 h2 => by
    rw [hpt r t ht, if_neg h1, if_neg h2]
  generalize mvS σ nt a (10 + b * 12 + lc) g = L at *
  have hcl : ∀ q, cl (upd (σ.2 4) b (nI (lc + 1)) q) = if q = b then lc + 1 else cl (σ.2 4 q) := fun q => by
    by_cases c : q = b
    · rw [c, upd_s, if_pos rfl, cl_nI (by omega)]
    · rw [upd_n c, if_neg c]
  refine ⟨⟨A1, A2, A3, A4, A5, fun q => ?_, A7⟩, ⟨M1, M2, M3, M4, M5, fun q => ?_, M7⟩, ⟨fun t ht => ⟨(n1 t ht).1, ?_⟩, fun p t hp' ht => ?_, fun p t hp' ht h => ?_, fun q k t hq hk ht => ?_, fun q k t hq hk ht h => ?_, fun q k hq hk => ?_, n7, n8⟩, ⟨r1, r2, r3, r4, fun t ht => ?_, fun p t hp' ht => ?_, fun q hq => ?_, fun q k t hq hk ht => ?_, r9⟩⟩
  · exact upd_all (P := fun _ v => ∃ j, j ≤ 12 ∧ v = nI j) q (fun _ => A6 q) fun _ => ⟨lc + 1, by omega, rfl⟩
  · exact upd_all (P := fun _ v => ∃ j, j ≤ 12 ∧ v = nI j) q (fun _ => M6 q) fun _ => ⟨lc + 1, by omega, rfl⟩
  · show (σ.2 2 t).toInt + zsum (fun p => (L (p * 12 + t)).toInt) 10 ≤ 1000
    have h5 := zsum_one (f := fun p => (σ.2 3 (p * 12 + t)).toInt) (g := fun p => if p < 10 then (L (p * 12 + t)).toInt else (σ.2 3 (p * 12 + t)).toInt) (x := a) (fun i h1 => by
      by_cases c : i < 10
      · rw [if_pos c, e3 i t ht h1 (by omega)]
      · rw [if_neg c]) 10 (by omega)
    rw [zsum_cg (g := fun p => (L (p * 12 + t)).toInt) 10 fun i hi => if_pos hi, if_pos (by omega), e1 t ht] at h5
    have := n1 t ht; have := f2 t ht; omega
  · show 0 ≤ (L (p * 12 + t)).toInt
    have := f2 t ht
    by_cases c : p = a
    · subst c; rw [e1 t ht]; omega
    · rw [e3 p t ht c (by omega)]; exact n2 p t hp' ht
  · show L (p * 12 + t) = 0
    rcases h with h | h
    · rw [hpt p t ht, n3 p t hp' ht (Or.inl h), f3 t h ht]; simp
    · rw [e3 p t ht (by omega) (by omega)]; exact n3 p t hp' ht (Or.inr h)
  · show 0 ≤ (L ((10 + q * 12 + k) * 12 + t)).toInt ∧ (L ((10 + q * 12 + k) * 12 + t)).toInt ≤ 1000
    by_cases c : q = b ∧ k = lc
    · obtain ⟨rfl, rfl⟩ := c
      rw [e2 t ht]; have := f2 t ht; have := hent a t (by omega) ht; omega
    · rw [e3 _ t ht (by omega) (by omega)]; exact n4 q k t hq hk ht
  · show L ((10 + q * 12 + k) * 12 + t) = 0
    replace h : nt ≤ t ∨ cl (upd (σ.2 4) b (nI (lc + 1)) q) ≤ k := h
    rw [hcl] at h
    by_cases c : q = b ∧ k = lc
    · obtain ⟨rfl, rfl⟩ := c
      rw [if_pos rfl] at h
      rw [e2 t ht]; exact f3 t (by omega) ht
    · rw [e3 _ t ht (by omega) (by omega)]
      refine n5 q k t hq hk ht (h.imp id fun z => ?_)
      by_cases c2 : q = b
      · subst c2; rw [if_pos rfl] at z; omega
      · rwa [if_neg c2] at z
  · show 1 ≤ zsum (fun t => (L ((10 + q * 12 + k) * 12 + t)).toInt) 12
    replace hk : k < cl (upd (σ.2 4) b (nI (lc + 1)) q) := hk
    rw [hcl] at hk
    by_cases c : q = b ∧ k = lc
    · obtain ⟨rfl, rfl⟩ := c
      rw [zsum_cg (g := fun t => (fl t).toInt) 12 fun t ht => by rw [e2 t ht]]
      have h5 : zsum (fun t => (fl t).toInt) nt ≤ zsum (fun t => (fl t).toInt) 12 := by
        have : ∀ j, nt + j ≤ 12 → zsum (fun t => (fl t).toInt) nt ≤ zsum (fun t => (fl t).toInt) (nt + j) := fun j => by
          induction j with
          | zero => intro _; exact Int.le_refl _
          | succ j ih => intro hj; rw [← Nat.add_assoc, zsum]; have := ih (by omega); have := f2 (nt + j) (by omega); omega
        have h6 := this (12 - nt) (by omega)
        rwa [show nt + (12 - nt) = 12 by omega] at h6
      omega
    · have hk2 : k < cl (σ.2 4 q) := by
        by_cases c2 : q = b
        · subst c2; rw [if_pos rfl] at hk; omega
        · rwa [if_neg c2] at hk
      have hk3 : k < 12 := by
        obtain ⟨j, hj, ej'⟩ := A6 q
        rw [ej', cl_nI (by omega)] at hk2; omega
      rw [zsum_cg (g := fun t => (σ.2 3 ((10 + q * 12 + k) * 12 + t)).toInt) 12 fun t ht => by rw [e3 _ t ht (by omega) (by omega)]]
      exact n6 q k hq hk2
  · exact (r5 t ht).trans (e3 106 t ht (by omega) (by omega)).symm
  · show subF (τ.2 4) (flwF τ a g) (12 * a) 12 (12 * p + t) = L (p * 12 + t)
    rw [subF_pt _ _ a 12 (by omega) p t ht, hpt p t ht, f1 t ht, r6 p t hp' ht]
    by_cases c : p = a
    · rw [if_pos ⟨c, ht⟩, if_pos c]
    · rw [if_neg (by omega), if_neg c, if_neg (by omega)]
  · exact upd_cg (fun _ => r7 q hq) fun _ => rfl
  · show setF (τ.2 6) (flwF τ a g) (12 * (12 * b + lc)) 12 (12 * (12 * q + k) + t) = L ((10 + q * 12 + k) * 12 + t)
    rw [setF_pt _ _ (12 * b + lc) 12 (by omega) _ t ht]
    by_cases c : q = b ∧ k = lc
    · obtain ⟨rfl, rfl⟩ := c
      rw [if_pos ⟨rfl, ht⟩, f1 t ht, e2 t ht]
    · rw [if_neg (by omega), e3 _ t ht (by omega) (by omega)]; exact r8 q k t hq hk ht
end
section
theorem wzL_u {L : Nat → Int32} {f : Nat} (hf : f ≠ 106) {N : Nat} (hN : N ≤ 12) (hz : ∀ m, N ≤ m → m < 12 → L (f * 12 + m) = 0) (r m : Nat) (hm : m < 12) : wzL L f N (r * 12 + m) = if r = f then 0 else if r = 106 then L (r * 12 + m) + L (f * 12 + m) else L (r * 12 + m) := by
  rw [wzL_pt L hf N hN r m hm]
  by_cases c : m < N
  · rw [if_pos c]
  · rw [if_neg c]
    have := hz m (by omega) hm
    by_cases a : r = f
    · rw [if_pos a, a, this]
    · rw [if_neg a, this, Int32.add_zero]; simp
theorem zsum_mono0 {f g : Nat → Int} (n : Nat) (h : ∀ i, i < n → f i ≤ g i) {z : Int} (hz : zsum g n ≤ z) : zsum f n ≤ z := Int.le_trans (zsum_le n h) hz
theorem op_scrape {σ τ : gS} {np nt no ni : Nat} (hR : RR σ τ np nt no ni) (x : Int32) : opOK (th_scrape no x) (tm_scrape no x) cdI (rowS (σ.2 3) (cl x) nt) (potS (τ.2 4) (cl x) 12) (sA σ 3 (wzL (σ.2 3) (cl x) nt)) (m_scrape τ (cl x)) := by
  have hp := hR.pt
  refine opIf Iff.rfl (by decide) fun h0 => ?_
  have hx := (nb_lt (by omega) h0).1
  generalize cl x = a at *
  refine ok0 (hR.pot (by omega)).symm ⟨np, nt, no, ni, ?_⟩ rfl
  obtain ⟨A, M, ⟨n1, n2, n3, n4, n5, n6, n7, n8⟩, ⟨r1, r2, r3, r4, r5, r6, r7, r8, r9⟩⟩ := hR
  have hw := fun r m hm => wzL_u (L := σ.2 3) (f := a) (N := nt) (by omega) hp.2.1 (fun m h1 h2 => n3 a m (by omega) h2 (Or.inl h1)) r m hm
  have e3 : ∀ r t, t < 12 → r ≠ a → r ≠ 106 → wzL (σ.2 3) a nt (r * 12 + t) = σ.2 3 (r * 12 + t) := fun r t ht h1 h2 => by
    rw [hw r t ht, if_neg h1, if_neg h2]
  have e1 : ∀ t, t < 12 → wzL (σ.2 3) a nt (a * 12 + t) = 0 := fun t ht => by rw [hw a t ht, if_pos rfl]
  refine ⟨A, M, ⟨fun t ht => ⟨(n1 t ht).1, ?_⟩, fun p t hp' ht => ?_, fun p t hp' ht h => ?_, fun q k t hq hk ht => ?_, fun q k t hq hk ht h => ?_, fun q k hq hk => ?_, n7, n8⟩, ⟨r1, r2, r3, r4, fun t ht => ?_, fun p t hp' ht => ?_, r7, fun q k t hq hk ht => ?_, r9⟩⟩
  · show (σ.2 2 t).toInt + zsum (fun p => (wzL (σ.2 3) a nt (p * 12 + t)).toInt) 10 ≤ 1000
    have := n1 t ht
    have := zsum_le (f := fun p => (wzL (σ.2 3) a nt (p * 12 + t)).toInt) (g := fun p => (σ.2 3 (p * 12 + t)).toInt) 10 fun i hi => by
      by_cases c : i = a
      · subst c
        have := n2 i t hi ht
        show (wzL (σ.2 3) i nt (i * 12 + t)).toInt ≤ _
        rw [e1 t ht]; exact this
      · show (wzL (σ.2 3) a nt (i * 12 + t)).toInt ≤ _
        rw [e3 i t ht c (by omega)]; exact Int.le_refl _
    omega
  · show 0 ≤ (wzL (σ.2 3) a nt (p * 12 + t)).toInt
    by_cases c : p = a
    · subst c; rw [e1 t ht]; decide
    · rw [e3 p t ht c (by omega)]; exact n2 p t hp' ht
  · show wzL (σ.2 3) a nt (p * 12 + t) = 0
    by_cases c : p = a
    · subst c; exact e1 t ht
    · rw [e3 p t ht c (by omega)]; exact n3 p t hp' ht h
  · show 0 ≤ (wzL (σ.2 3) a nt _).toInt ∧ (wzL (σ.2 3) a nt _).toInt ≤ 1000
    rw [e3 _ t ht (by omega) (by omega)]; exact n4 q k t hq hk ht
  · show wzL (σ.2 3) a nt _ = 0
    rw [e3 _ t ht (by omega) (by omega)]; exact n5 q k t hq hk ht h
  · refine Int.le_trans (n6 q k hq hk) (Int.le_of_eq (zsum_cg 12 fun t ht => ?_))
    have hk2 : k < 12 := by
      obtain ⟨j, hj, ej⟩ := A.2.2.2.2.2.1 q
      have : k < cl (σ.2 4 q) := hk
      rw [ej, cl_nI (by omega)] at this; omega
    exact congrArg Int32.toInt (e3 _ t ht (by omega) (by omega)).symm
  · show wstB (τ.2 3) (τ.2 4) (12 * a) 12 t = wzL (σ.2 3) a nt (106 * 12 + t)
    rw [wstB_pt _ _ a 12 (by omega) t ht, if_pos ht, hw 106 t ht, if_neg (by omega), if_pos rfl, r5 t ht, r6 a t (by omega) ht]
  · show zerB (τ.2 4) (12 * a) 12 (12 * p + t) = wzL (σ.2 3) a nt (p * 12 + t)
    rw [zerB_pt _ a 12 (by omega) p t ht, hw p t ht, if_neg (show ¬ p = 106 by omega), r6 p t hp' ht]
    by_cases c : p = a
    · rw [if_pos ⟨c, ht⟩, if_pos c]
    · rw [if_neg (by omega), if_neg c]
  · exact (r8 q k t hq hk ht).trans (e3 _ t ht (by omega) (by omega)).symm
theorem clean_k {σ τ : gS} {np nt no ni : Nat} (hR : RR σ τ np nt no ni) {b lc : Nat} (hb : b < 8) (hlc : cl (σ.2 4 b) = lc) (hl : lc ≤ 12) : ∀ k, k ≤ lc →
    (∀ m, m < 12 → (clM (τ.2 3) (τ.2 6) b lc k).1 m = clL (σ.2 3) nt b lc k (106 * 12 + m)) ∧
    (∀ q j t, q < 8 → j < 12 → t < 12 → (clM (τ.2 3) (τ.2 6) b lc k).2.1 (12 * (12 * q + j) + t) = clL (σ.2 3) nt b lc k ((10 + q * 12 + j) * 12 + t)) ∧
    (∀ r m, m < 12 → r ≠ 106 → clL (σ.2 3) nt b lc k (r * 12 + m) = if 10 + b * 12 + (lc - k) ≤ r ∧ r < 10 + b * 12 + lc then 0 else σ.2 3 (r * 12 + m)) ∧
    clS (σ.2 3) nt b lc k = (clM (τ.2 3) (τ.2 6) b lc k).2.2
  | 0, _ => by
    obtain ⟨A, M, N, ⟨r1, r2, r3, r4, r5, r6, r7, r8, r9⟩⟩ := hR
    exact ⟨r5, r8, fun r m hm h => by rw [clL, if_neg (by omega)], rfl⟩
  | k + 1, hk => by
    have hp := hR.pt
    obtain ⟨i1, i2, i3, i4⟩ := clean_k hR hb hlc hl k (by omega)
    have hz : ∀ m, nt ≤ m → m < 12 → clL (σ.2 3) nt b lc k ((10 + b * 12 + (lc - k - 1)) * 12 + m) = 0 := fun m h1 h2 => by
      rw [i3 _ m h2 (by omega), if_neg (by omega)]
      exact hR.2.2.1.2.2.2.2.1 b (lc - k - 1) m hb (by omega) h2 (Or.inl h1)
    have hw := fun r m hm => wzL_u (L := clL (σ.2 3) nt b lc k) (f := 10 + b * 12 + (lc - k - 1)) (N := nt) (by omega) hp.2.1 hz r m hm
    rw [clM, clL, clS]
    refine ⟨fun m hm => ?_, fun q j t hq hj ht => ?_, fun r m hm h => ?_, ?_⟩
    · show wstB _ _ (12 * (12 * b + (lc - k - 1))) 12 m = _
      rw [wstB_pt _ _ _ 12 (by omega) m hm, if_pos hm, hw 106 m hm, if_neg (by omega), if_pos rfl, i1 m hm, i2 b _ m hb (by omega) hm]
    · show zerB _ (12 * (12 * b + (lc - k - 1))) 12 _ = _
      rw [zerB_pt _ _ 12 (by omega) _ t ht, hw _ t ht, if_neg (show ¬ 10 + q * 12 + j = 106 by omega), i2 q j t hq hj ht]
      by_cases c : q = b ∧ j = lc - k - 1
      · rw [if_pos (by omega), if_pos (by omega)]
      · rw [if_neg (by omega), if_neg (by omega)]
    · rw [hw r m hm, if_neg h, i3 r m hm h]
      by_cases c : r = 10 + b * 12 + (lc - k - 1)
      · rw [if_pos c, if_pos (by omega)]
      · rw [if_neg c]
        by_cases c2 : 10 + b * 12 + (lc - k) ≤ r ∧ r < 10 + b * 12 + lc
        · rw [if_pos c2, if_pos (by omega)]
        · rw [if_neg c2, if_neg (by omega)]
    · show _ = sumB _ _ (12 * (12 * b + (lc - k - 1))) 12
      rw [sumB_pt _ _ _ 12 (by omega), i4, rowS]
      congr 1
      rw [isum_to hp.2.1 fun m h1 h2 => by rw [i2 b _ m hb (by omega) h2, hz m h1 h2]]
      exact isum_cg nt fun m hm => (i2 b _ m hb (by omega) (by omega)).symm
theorem op_clean {σ τ : gS} {np nt no ni : Nat} (hR : RR σ τ np nt no ni) (q n : Int32) : opOK (th_clean σ ni q n) (tm_clean τ ni q n) cdI (clS (σ.2 3) nt (cl q) (cl (σ.2 4 (cl q))) (cl n)) ((clM (τ.2 3) (τ.2 6) (cl q) (cl (τ.2 5 (cl q))) (cl n)).2.2) (s_clean σ nt (cl q) (cl n)) (m_clean τ (cl q) (cl n)) := by
  have hp := hR.pt
  refine opIf Iff.rfl (by decide) fun h0 => ?_
  have hq := (nb_lt (by omega) h0).1
  generalize cl q = b at *
  have elc := hR.lc (q := b) (by omega)
  obtain ⟨lc, hlc, ej⟩ := hR.1.2.2.2.2.2.1 b
  refine opIf Iff.rfl (by decide) fun hg => opIf ?_ (by decide) fun h1 => ?_
  · rw [hR.house (by omega), elc]
  obtain ⟨a, ⟨ha1, ha⟩, rfl⟩ := out_nat (M := 12) rfl (by decide) hg
  have ec : cl (σ.2 4 b) = lc := by rw [ej, cl_nI (by omega)]
  have hal : a ≤ lc := by
    have : nI a ≤ σ.2 4 b := Classical.byContradiction fun z => h1 (Or.inr z)
    rw [ej] at this
    exact (nI_leI (by omega) (by omega)).mp this
  rw [s_clean, m_clean, elc, ec, cl_nI (by omega)]
  obtain ⟨i1, i2, i3, i4⟩ := clean_k hR (b := b) (by omega) ec hlc a hal
  refine ok0 i4 ⟨np, nt, no, ni, ?_⟩ rfl
  obtain ⟨⟨A1, A2, A3, A4, A5, A6, A7⟩, ⟨M1, M2, M3, M4, M5, M6, M7⟩, ⟨n1, n2, n3, n4, n5, n6, n7, n8⟩, ⟨r1, r2, r3, r4, r5, r6, r7, r8, r9⟩⟩ := hR
  have hcl : ∀ q, cl (upd (σ.2 4) b (nI (lc - a)) q) = if q = b then lc - a else cl (σ.2 4 q) := fun q => by
    by_cases c : q = b
    · rw [c, upd_s, if_pos rfl, cl_nI (by omega)]
    · rw [upd_n c, if_neg c]
  have e3 : ∀ r t, t < 12 → r ≠ 106 → ¬ (10 + b * 12 + (lc - a) ≤ r ∧ r < 10 + b * 12 + lc) → clL (σ.2 3) nt b lc a (r * 12 + t) = σ.2 3 (r * 12 + t) := fun r t ht h1 h2 => by
    rw [i3 r t ht h1, if_neg h2]
  refine ⟨⟨A1, A2, A3, A4, A5, fun q => ?_, A7⟩, ⟨M1, M2, M3, M4, M5, fun q => ?_, M7⟩, ⟨fun t ht => ⟨(n1 t ht).1, ?_⟩, fun p t hp' ht => ?_, fun p t hp' ht h => ?_, fun q k t hq hk ht => ?_, fun q k t hq hk ht h => ?_, fun q k hq hk => ?_, n7, n8⟩, ⟨r1, r2, r3, r4, i1, fun p t hp' ht => ?_, fun q hq => ?_, i2, r9⟩⟩
  · exact upd_all (P := fun _ v => ∃ j, j ≤ 12 ∧ v = nI j) q (fun _ => A6 q) fun _ => ⟨lc - a, by omega, rfl⟩
  · exact upd_all (P := fun _ v => ∃ j, j ≤ 12 ∧ v = nI j) q (fun _ => M6 q) fun _ => ⟨lc - a, by omega, rfl⟩
  · show (σ.2 2 t).toInt + zsum (fun p => (clL (σ.2 3) nt b lc a (p * 12 + t)).toInt) 10 ≤ 1000
    rw [zsum_cg (g := fun p => (σ.2 3 (p * 12 + t)).toInt) 10 fun i hi => by rw [e3 i t ht (by omega) (by omega)]]
    exact (n1 t ht).2
  · show 0 ≤ (clL (σ.2 3) nt b lc a (p * 12 + t)).toInt
    rw [e3 p t ht (by omega) (by omega)]; exact n2 p t hp' ht
  · show clL (σ.2 3) nt b lc a (p * 12 + t) = 0
    rw [e3 p t ht (by omega) (by omega)]; exact n3 p t hp' ht h
  · show 0 ≤ (clL (σ.2 3) nt b lc a _).toInt ∧ (clL (σ.2 3) nt b lc a _).toInt ≤ 1000
    rw [i3 _ t ht (by omega)]
    split
    · decide
    · exact n4 q k t hq hk ht
  · show clL (σ.2 3) nt b lc a ((10 + q * 12 + k) * 12 + t) = 0
    replace h : nt ≤ t ∨ cl (upd (σ.2 4) b (nI (lc - a)) q) ≤ k := h
    rw [hcl] at h
    rw [i3 _ t ht (by omega)]
    split
    · rfl
    · rename_i hn
      refine n5 q k t hq hk ht (h.imp id fun z => ?_)
      by_cases c2 : q = b
      · subst c2; rw [if_pos rfl] at z; omega
      · rwa [if_neg c2] at z
  · show 1 ≤ zsum (fun t => (clL (σ.2 3) nt b lc a ((10 + q * 12 + k) * 12 + t)).toInt) 12
    replace hk : k < cl (upd (σ.2 4) b (nI (lc - a)) q) := hk
    rw [hcl] at hk
    have hk2 : k < cl (σ.2 4 q) ∧ (q = b → k < lc - a) := by
      by_cases c2 : q = b
      · subst c2; rw [if_pos rfl] at hk; exact ⟨by omega, fun _ => hk⟩
      · rw [if_neg c2] at hk; exact ⟨hk, fun z => absurd z c2⟩
    have hk3 : k < 12 := by
      obtain ⟨j, hj, ej'⟩ := A6 q
      have := hk2.1
      rw [ej', cl_nI (by omega)] at this; omega
    have := hk2.2
    rw [zsum_cg (g := fun t => (σ.2 3 ((10 + q * 12 + k) * 12 + t)).toInt) 12 fun t ht => by rw [e3 _ t ht (by omega) (by omega)]]
    exact n6 q k hq hk2.1
  · exact (r6 p t hp' ht).trans (e3 p t ht (by omega) (by omega)).symm
  · exact upd_cg (fun _ => r7 q hq) fun _ => rfl
end
section
/-! the main pigment, the look, the value -/
theorem lay_pos {σ τ : gS} {np nt no ni : Nat} (hR : RR σ τ np nt no ni) {q k : Nat} (hq : q < 8) (hk : k < cl (σ.2 4 q)) (hk2 : k < 12) : 1 ≤ (rowS (σ.2 3) (10 + q * 12 + k) nt).toInt := by
  have hp := hR.pt
  obtain ⟨-, -, ⟨n1, n2, n3, n4, n5, n6, n7, n8⟩, -⟩ := hR
  rw [rowS, ← isum_to (f := fun t => σ.2 3 ((10 + q * 12 + k) * 12 + t)) (m := 12) hp.2.1 fun t h1 h2 => n5 q k t hq hk2 h2 (Or.inl h1)]
  rw [(isum_z (f := fun t => σ.2 3 ((10 + q * 12 + k) * 12 + t)) 12 (by omega) fun t ht => n4 q k t hq hk2 ht).1]
  exact n6 q k hq hk
theorem lc_k {σ τ : gS} {np nt no ni : Nat} (hR : RR σ τ np nt no ni) {q : Nat} (h0 : ¬ σ.2 4 q = 0) : cl (σ.2 4 q) - 1 < cl (σ.2 4 q) ∧ cl (σ.2 4 q) - 1 < 12 := by
  obtain ⟨j, hj, ej⟩ := hR.1.2.2.2.2.2.1 q
  rw [ej, cl_nI (by omega)]
  have : j ≠ 0 := fun z => h0 (by rw [ej, z]; rfl)
  omega
theorem hz_of {σ τ : gS} {np nt no ni : Nat} (hR : RR σ τ np nt no ni) : ∀ q, q < ni → ¬ τ.2 5 q = 0 → ¬ isum (fun t => τ.2 6 (topB τ q + t)) nt = 0 := by
  intro q hq h0 h
  have hp := hR.pt
  rw [hR.lc (by omega)] at h0
  obtain ⟨k1, k2⟩ := lc_k hR h0
  have h1 := lay_pos hR (q := q) (by omega) k1 k2
  rw [← hR.lay (by omega) k2, ← hR.lc (by omega)] at h1
  have h2 := congrArg Int32.toInt h
  have h3 : (isum (fun t => τ.2 6 (12 * (12 * q + (cl (τ.2 5 q) - 1)) + t)) nt).toInt = 0 := h2
  omega
theorem gop_sm {σ τ : gS} {np nt no ni : Nat} (hR : RR σ τ np nt no ni) {q k : Nat} (hq : q < 8) (hk : k < 12) {i : Nat} (hi : i < 6) : ∀ n, n ≤ 12 → smF (τ.2 6) (τ.2 1) (12 * (12 * q + k)) n i = gopN σ (10 + q * 12 + k) (nI i) n
  | 0, _ => rfl
  | n + 1, hn => by
    have ih := gop_sm hR hq hk hi n (by omega)
    obtain ⟨j, hj, ej⟩ := hR.1.2.2.2.2.1 n
    have e8 := hR.2.2.2.2.2.2.2.2.2.2.1 q k n hq hk (by omega)
    rw [smF, gopN, hR.2.2.2.2.2.1 n (by omega), ej, cl_nI (by omega), e8]
    by_cases c : i = j
    · subst c; rw [upd_s, if_pos rfl, ih]
    · rw [upd_n c, if_neg (fun z => c ((nI_eq (by omega) (by omega)).mp z).symm), ih]
theorem gop_b {σ : gS} {r : Nat} {k : Int32} (h : ∀ t, t < 12 → 0 ≤ (σ.2 3 (r * 12 + t)).toInt ∧ (σ.2 3 (r * 12 + t)).toInt ≤ 1000) : ∀ n, n ≤ 12 → 0 ≤ (gopN σ r k n).toInt ∧ (gopN σ r k n).toInt ≤ 1000 * n
  | 0, _ => ⟨by rw [gopN]; decide, by rw [gopN]; decide⟩
  | n + 1, hn => by
    have ih := gop_b (k := k) h n (by omega)
    have := h n (by omega)
    rw [gopN]
    split
    · rw [ti_add (by omega) (by omega)]; omega
    · omega
theorem gop_0 {σ : gS} {r : Nat} {k : Int32} : ∀ n, (∀ t, t < n → ¬ σ.2 1 t = k) → gopN σ r k n = 0
  | 0, _ => rfl
  | n + 1, h => by rw [gopN, if_neg (h n (by omega))]; exact gop_0 n fun t ht => h t (by omega)
theorem gop_ge {σ : gS} {r : Nat} {k : Int32} (h : ∀ t, t < 12 → 0 ≤ (σ.2 3 (r * 12 + t)).toInt ∧ (σ.2 3 (r * 12 + t)).toInt ≤ 1000) {t : Nat} (ht : σ.2 1 t = k) : ∀ n, n ≤ 12 → t < n → (σ.2 3 (r * 12 + t)).toInt ≤ (gopN σ r k n).toInt
  | 0, _, h2 => absurd h2 (Nat.not_lt_zero t)
  | n + 1, hn, h2 => by
    have hb := gop_b (k := k) h n (by omega)
    have := h n (by omega)
    rw [gopN]
    by_cases e : t = n
    · subst e; rw [if_pos ht, ti_add (by omega) (by omega)]; omega
    · have ih := gop_ge h ht n (by omega) (by omega)
      split
      · rw [ti_add (by omega) (by omega)]; omega
      · exact ih
theorem mpr_bst {g : Nat → Int32} (hg : ∀ i, 0 ≤ (g i).toInt) : ∀ n, ((∀ i, i < n → g i = 0) ∧ mpr g n = (-1, 0)) ∨ (1 ≤ n ∧ 0 < (g (bst g (n - 1))).toInt ∧ mpr g n = (nI (bst g (n - 1)), g (bst g (n - 1))))
  | 0 => Or.inl ⟨fun i hi => absurd hi (Nat.not_lt_zero i), rfl⟩
  | n + 1 => by
    rw [mpr, Nat.add_sub_cancel]
    have h0 : (0 : Int32).toInt = 0 := rfl
    rcases mpr_bst hg n with ⟨h1, h2⟩ | ⟨h1, h2, h3⟩
    · rw [h2]
      by_cases c : g n ≤ 0
      · left
        rw [if_pos c]
        refine ⟨fun i hi => ?_, rfl⟩
        by_cases e : i = n
        · subst e
          have := hg i
          rw [i32_le] at c
          rw [i32_eq]; omega
        · exact h1 i (by omega)
      · right
        rw [if_neg c]
        have hb : bst g n = n := by
          cases n with
          | zero => rfl
          | succ m =>
            have := bst_le g m
            rw [bst, h1 (bst g m) (by omega), if_neg c]
        rw [hb]
        rw [i32_le] at c
        exact ⟨by omega, by omega, rfl⟩
    · right
      obtain ⟨m, rfl⟩ : ∃ m, n = m + 1 := ⟨n - 1, by omega⟩
      rw [Nat.add_sub_cancel] at h2 h3
      rw [h3, bst]
      by_cases c : g (m + 1) ≤ g (bst g m)
      · rw [if_pos c, if_pos c]; exact ⟨by omega, h2, rfl⟩
      · rw [if_neg c, if_neg c]
        rw [i32_le] at c
        exact ⟨by omega, by omega, rfl⟩
theorem bst_cg {F G : Nat → Int32} : ∀ n, (∀ i, i ≤ n → F i = G i) → bst F n = bst G n
  | 0, _ => rfl
  | n + 1, h => by
    have := bst_le G n
    rw [bst, bst, bst_cg n fun i hi => h i (by omega), h (n + 1) (by omega), h (bst G n) (by omega)]
theorem bst_tail {g : Nat → Int32} (hg : ∀ i, 0 ≤ (g i).toInt) (m : Nat) : ∀ d, (∀ i, m < i → i ≤ m + d → g i = 0) → bst g (m + d) = bst g m
  | 0, _ => rfl
  | d + 1, h => by
    rw [← Nat.add_assoc, bst, bst_tail hg m d fun i h1 h2 => h i h1 (by omega), h (m + d + 1) (by omega) (by omega), if_pos]
    rw [i32_le]; exact hg _
theorem main_eq {σ τ : gS} {np nt no ni : Nat} (hR : RR σ τ np nt no ni) {q : Nat} (hq : q < 8) : mnM τ nt q = mpo σ np nt q := by
  have hp := hR.pt
  rw [mnM, mpo, hR.lc hq]
  by_cases c : σ.2 4 q = 0
  · rw [if_pos c, if_pos c]
  · rw [if_neg c, if_neg c]
    obtain ⟨k1, k2⟩ := lc_k hR c
    have hlp := lay_pos hR hq k1 k2
    have hent : ∀ t, t < 12 → 0 ≤ (σ.2 3 ((10 + q * 12 + (cl (σ.2 4 q) - 1)) * 12 + t)).toInt ∧ (σ.2 3 ((10 + q * 12 + (cl (σ.2 4 q) - 1)) * 12 + t)).toInt ≤ 1000 := fun t ht => hR.2.2.1.2.2.2.1 q _ t hq k2 ht
    have hsm : ∀ i, i < 6 → smF (τ.2 6) (τ.2 1) (topB τ q) nt i = gopN σ (topR σ q) (nI i) nt := fun i hi => by
      rw [topB, topR, hR.lc hq]; exact gop_sm hR hq k2 hi nt hp.2.1
    have hnn : ∀ i, 0 ≤ (gopN σ (topR σ q) (nI i) nt).toInt := fun i => (gop_b (r := topR σ q) hent nt hp.2.1).1
    have hpig := hR.2.2.1.2.2.2.2.2.2.2.2
    have hnp := hR.1.1.1
    have hz : ∀ i, np ≤ i → i < 6 → gopN σ (topR σ q) (nI i) nt = 0 := fun i h1 h2 => gop_0 nt fun t ht z => by
      have := hpig t ht
      rw [z, hnp, nI_toInt (by omega), nI_toInt (by omega)] at this; omega
    have hex : ∃ i, i < np ∧ 0 < (gopN σ (topR σ q) (nI i) nt).toInt := by
      refine Classical.byContradiction fun hno => ?_
      have hall : ∀ t, t < nt → σ.2 3 ((10 + q * 12 + (cl (σ.2 4 q) - 1)) * 12 + t) = 0 := fun t ht => by
        obtain ⟨j, hj, ej⟩ := hR.1.2.2.2.2.1 t
        have h3 := hpig t ht
        rw [ej, hnp, nI_toInt (by omega), nI_toInt (by omega)] at h3
        have h4 := gop_ge (r := topR σ q) hent ej nt hp.2.1 ht
        have h5 : ¬ 0 < (gopN σ (topR σ q) (nI j) nt).toInt := fun z => hno ⟨j, by omega, z⟩
        have h6 := hent t (by omega)
        rw [i32_eq]
        have h7 : (0 : Int32).toInt = 0 := rfl
        rw [topR] at h4 h5
        omega
      have h8 : rowS (σ.2 3) (10 + q * 12 + (cl (σ.2 4 q) - 1)) nt = 0 := isum_to (n := 0) (Nat.zero_le nt) fun t _ ht => hall t ht
      rw [h8] at hlp
      exact absurd hlp (by decide)
    obtain ⟨i, hi, hi2⟩ := hex
    rw [bst_cg 5 fun i hi => hsm i (by omega)]
    rcases mpr_bst (g := fun k => gopN σ (topR σ q) (nI k) nt) hnn np with ⟨h1, -⟩ | ⟨h1, -, h3⟩
    · have h1' : gopN σ (topR σ q) (nI i) nt = 0 := h1 i hi
      rw [h1'] at hi2; exact absurd hi2 (by decide)
    · rw [h3]
      have := bst_tail (g := fun k => gopN σ (topR σ q) (nI k) nt) hnn (np - 1) (5 - (np - 1)) fun i h1 h2 => hz i (by omega) (by omega)
      rw [show np - 1 + (5 - (np - 1)) = 5 by omega] at this
      exact congrArg nI this
theorem look_eq {σ τ : gS} {np nt no ni : Nat} (hR : RR σ τ np nt no ni) {q ch : Nat} (hq : q < 8) (hc : ch < 3) : lkM τ nt q ch = lko σ nt q ch := by
  have hp := hR.pt
  rw [lkM, lko, hR.lc hq]
  by_cases c : σ.2 4 q = 0
  · rw [if_pos c, if_pos c]
  · rw [if_neg c, if_neg c]
    obtain ⟨k1, k2⟩ := lc_k hR c
    have hlp := lay_pos hR hq k1 k2
    rw [colR, topR, topB, hR.lc hq, hR.lay hq k2, if_neg (fun z => by rw [z] at hlp; exact absurd hlp (by decide))]
    congr 1
    exact isum_cg nt fun t ht => by
      rw [colT_M hR (by omega) hc, hR.2.2.2.2.2.2.2.2.2.2.1 q _ t hq k2 (by omega)]
theorem vlP_eq {σ τ : gS} {np nt no ni : Nat} (hR : RR σ τ np nt no ni) {mn : Int32} (hm : ¬ mn = -1) : ∀ n, n ≤ 8 → vlP τ nt mn n = alk σ np nt mn n
  | 0, _ => rfl
  | n + 1, hn => by
    have ih := vlP_eq hR hm n (by omega)
    have e10 := hR.2.2.2.2.2.2.2.2.2.2.2.2.1 n (by omega)
    rw [vlP, alk, ih, e10, main_eq hR (by omega)]
    by_cases c : ¬ σ.2 6 n ≤ 0 ∧ mpo σ np nt n = mn
    · rw [if_pos c, if_pos ⟨fun z => z.elim hm c.1, c.2⟩]
    · rw [if_neg c, if_neg fun z => c ⟨fun y => z.1 (Or.inr y), z.2⟩]
theorem vlP_m1 (τ : gS) (nt : Nat) : ∀ n, vlP τ nt (-1) n = (0, 0)
  | 0 => rfl
  | n + 1 => by rw [vlP, vlP_m1 τ nt n, if_neg (fun z => z.1 (Or.inl rfl))]
theorem mean_eq {σ τ : gS} {np nt no ni : Nat} (hR : RR σ τ np nt no ni) {q : Nat} (hq : q < 8) : meanM τ nt ni q = avgA σ np nt ni q := by
  have hp := hR.pt
  rw [meanM, avgA, main_eq hR hq]
  by_cases c : mpo σ np nt q = -1
  · rw [if_pos c, c, vlP_m1, if_pos rfl]
  · rw [if_neg c, vlP_eq hR c ni (by omega)]
theorem val_eq {σ τ : gS} {np nt no ni : Nat} (hR : RR σ τ np nt no ni) {q : Nat} (hq : q < 8) : valM τ nt ni q = valA σ np nt ni q := by
  rw [valM, valA, wrtM, mean_eq hR hq, hR.2.2.2.2.2.2.2.2.2.2.2.1 q hq]
  generalize avgA σ np nt ni q - σ.2 5 q * (avgA σ np nt ni q / 20) = w
  have h0 : (0 : Int32).toInt = 0 := rfl
  by_cases c : 0 < w
  · rw [if_pos c, if_pos (by rw [i32_lt] at c; rw [i32_le]; omega)]
  · rw [if_neg c]
    split
    · rename_i h
      rw [i32_lt] at c; rw [i32_le] at h
      rw [i32_eq]; omega
    · rfl
end
section
theorem mnM_cg {τ τ' : gS} (h1 : τ'.2 1 = τ.2 1) (h5 : τ'.2 5 = τ.2 5) (h6 : τ'.2 6 = τ.2 6) (nt q : Nat) : mnM τ' nt q = mnM τ nt q := by
  simp only [mnM, topB, h1, h5, h6]
theorem vlP_cg {τ τ' : gS} (h1 : τ'.2 1 = τ.2 1) (h5 : τ'.2 5 = τ.2 5) (h6 : τ'.2 6 = τ.2 6) (h8 : τ'.2 8 = τ.2 8) (nt : Nat) (its : Int32) : ∀ n, vlP τ' nt its n = vlP τ nt its n
  | 0 => rfl
  | n + 1 => by rw [vlP, vlP, vlP_cg h1 h5 h6 h8 nt its n, mnM_cg h1 h5 h6, h8]
theorem valM_cg {τ τ' : gS} (h1 : τ'.2 1 = τ.2 1) (h5 : τ'.2 5 = τ.2 5) (h6 : τ'.2 6 = τ.2 6) (h8 : τ'.2 8 = τ.2 8) (h7 : τ'.2 7 = τ.2 7) (nt ni q : Nat) : valM τ' nt ni q = valM τ nt ni q := by
  have hm : meanM τ' nt ni q = meanM τ nt ni q := by
    rw [meanM, meanM, mnM_cg h1 h5 h6, vlP_cg h1 h5 h6 h8]
  rw [valM, valM, wrtM, wrtM, hm, h7]
theorem op_of {σ τ : gS} {np nt no ni : Nat} (hR : RR σ τ np nt no ni) (q v : Int32) : opOK (th_of ni q v) (tm_of ni q v) cdI (r_of σ np nt ni (cl q) (cl v)) (rm_of (sS τ 0 0) nt ni (cl q) (cl v)) (σ) (sm_of2 τ nt ni (cl q) (cl v)) := by
  have hp := hR.pt
  refine opIf Iff.rfl (by decide) fun h0 => opIf Iff.rfl (by decide) fun h1 => ?_
  have hq := (nb_lt (by omega) h0).1
  obtain ⟨a, ⟨-, ha⟩, rfl⟩ := out_nat (M := 8) rfl (by decide) h1
  rw [cl_nI (by omega)]
  generalize cl q = b at *
  have hv := val_eq (hR.S0 0) (q := b) (by omega)
  refine ok0 ?_ ⟨np, nt, no, ni, ?_⟩ ?_
  · rw [r_of, rm_of, hv]
    by_cases c0 : a = 0
    · rw [if_pos c0, if_pos c0]; exact (hR.lc (by omega)).symm
    rw [if_neg c0, if_neg c0]
    by_cases c1 : a = 1
    · rw [if_pos c1, if_pos c1]; exact (hR.2.2.2.2.2.2.2.2.2.2.2.1 b (by omega)).symm
    rw [if_neg c1, if_neg c1]
    by_cases c2 : a = 2
    · rw [if_pos c2, if_pos c2]
    rw [if_neg c2, if_neg c2]
    by_cases c3 : a = 3
    · rw [if_pos c3, if_pos c3]; exact (main_eq (hR.S0 0) (by omega)).symm
    rw [if_neg c3, if_neg c3]
    by_cases c4 : a = 4
    · rw [if_pos c4, if_pos c4]; exact (hR.2.2.2.2.2.2.2.2.2.2.2.2.2.1 b (by omega)).symm
    rw [if_neg c4, if_neg c4]
    by_cases c5 : a = 5
    · rw [if_pos c5, if_pos c5]; exact (hR.2.2.2.2.2.2.2.2.2.2.2.2.2.2.1 b (by omega)).symm
    rw [if_neg c5, if_neg c5]
    exact (look_eq (hR.S0 0) (by omega) (by omega)).symm
  · rw [sm_of2]; repeat' split
    all_goals exact hR
  · rw [sm_of2]; repeat' split
    all_goals rfl
theorem op_sell {σ τ : gS} {np nt no ni : Nat} (hR : RR σ τ np nt no ni) (q x : Int32) : opOK (th_sell σ ni q x) (tm_sell τ ni q x) cdI (valA (s_sell σ (cl q) x) np nt ni (cl q)) (valM (m_sell0 τ (cl q) x) nt ni (cl q)) (s_sell σ (cl q) x) (m_sell2 τ nt ni (cl q) x) := by
  have hp := hR.pt
  refine opIf Iff.rfl (by decide) fun h0 => ?_
  have hq := (nb_lt (by omega) h0).1
  generalize cl q = b at *
  refine opIf Iff.rfl (by decide) fun h1 => opIf (by rw [hR.house (by omega), hR.lc (by omega)]) (by decide) fun h2 => ?_
  have hN : RR (s_sell σ b x) (m_sell0 τ b x) np nt no ni := by
    obtain ⟨A, M, N, ⟨r1, r2, r3, r4, r5, r6, r7, r8, r9, r10, r11⟩⟩ := hR
    exact ⟨A, M, N, ⟨r1, r2, r3, r4, r5, r6, r7, r8, r9, fun q hq => upd_cg (fun _ => r10 q hq) fun _ => rfl, r11⟩⟩
  exact ok0 (val_eq hN (by omega)).symm ⟨np, nt, no, ni, hN⟩ rfl
theorem op_lend {σ τ : gS} {np nt no ni : Nat} (hR : RR σ τ np nt no ni) (q x d : Int32) : opOK (th_lend σ ni q x d) (tm_lend τ ni q x d) cdI (valA σ np nt ni (cl q) / 100 + 1) (valM (ml0 τ (cl q) x d) nt ni (cl q) / 100 + 1) (s_lend σ np nt ni (cl q) (cl x) d) (m_lend2 τ nt ni (cl q) x d) := by
  have hp := hR.pt
  refine opIf Iff.rfl (by decide) fun h0 => ?_
  have hq := (nb_lt (by omega) fun z => h0 (Or.inl z)).1
  obtain ⟨hx, ex⟩ := nb_lt (N := 4) (by omega) fun z => h0 (Or.inr z)
  generalize cl q = b at *
  have e9 := hR.2.2.2.2.2.2.2.2.2.2.2.1 b (by omega)
  refine opIf Iff.rfl (by decide) fun h1 => opIf (by rw [hR.house (by omega), e9]) (by decide) fun h2 => ?_
  obtain ⟨a, ⟨ha1, ha⟩, rfl⟩ := out_nat (M := 100) rfl (by decide) h1
  have h4 : (1 : Int32).toInt = 1 := rfl
  have hv : valM (ml0 τ b x (nI a)) nt ni b = valA σ np nt ni b := (valM_cg (τ := τ) (τ' := ml0 τ b x (nI a)) rfl rfl rfl rfl rfl nt ni b).trans (val_eq hR (by omega))
  rw [hv, s_lend, m_lend2, hv]
  refine ok0 rfl ⟨np, nt, no, ni, ?_⟩ rfl
  obtain ⟨⟨A1, A2, A3, A4, A5, A6, A7⟩, ⟨M1, M2, M3, M4, M5, M6, M7⟩, ⟨n1, n2, n3, n4, n5, n6, n7, n8, n9⟩, ⟨r1, r2, r3, r4, r5, r6, r7, r8, r9, r10, r11, r12, r13, r14⟩⟩ := hR
  refine ⟨⟨A1, A2, A3, A4, A5, A6, fun q => ?_⟩, ⟨M1, M2, M3, M4, M5, M6, fun q => ?_⟩, ⟨n1, n2, n3, n4, n5, n6, n7, fun q hq => ?_, n9⟩, ⟨r1, r2, r3, r4, r5, r6, r7, r8, r9, r10, fun q hq => ?_, fun q hq => ?_, fun q hq => ?_, r14⟩⟩
  · exact upd_all (P := fun _ v => ∃ j, j < 4 ∧ v = nI j) q (fun _ => A7 q) fun _ => ⟨_, hx, rfl⟩
  · exact upd_all (P := fun _ v => v = -1 ∨ ∃ j, j < 4 ∧ v = nI j) q (fun _ => M7 q) fun _ => Or.inr ⟨_, hx, ex⟩
  · exact upd_all (P := fun _ v => 0 ≤ v.toInt ∧ v.toInt ≤ 100) q (fun _ => n8 q hq) fun _ => by rw [nI_toInt (by omega)]; omega
  · show upd (τ.2 9) b x q = if ¬ upd (σ.2 7) b (nI a) q ≤ 0 then upd (σ.2 8) b (nI (cl x)) q else -1
    by_cases c : q = b
    · subst c
      rw [upd_s, upd_s, upd_s, if_pos (nI_nle (by omega) (by omega)), ← ex]
    · rw [upd_n c, upd_n c, upd_n c]; exact r11 q hq
  · exact upd_cg (fun _ => r12 q hq) fun _ => rfl
  · exact upd_cg (fun _ => r13 q hq) fun _ => rfl
theorem mix_eq {σ τ : gS} {np nt no ni : Nat} (hR : RR σ τ np nt no ni) {a b q : Nat} (ha : a < 12) (hb : b < 12) (r g bb : Int32) : rdM τ a b q r g bb = rdist σ a b q r g bb := by
  simp only [rdM, farM, rdist, mixd, colT_M hR ha (show 0 < 3 by omega), colT_M hR ha (show 1 < 3 by omega), colT_M hR ha (show 2 < 3 by omega), colT_M hR hb (show 0 < 3 by omega), colT_M hR hb (show 1 < 3 by omega), colT_M hR hb (show 2 < 3 by omega)]
theorem rP_eq {σ τ : gS} {np nt no ni : Nat} (hR : RR σ τ np nt no ni) {a b : Nat} (ha : a < 12) (hb : b < 12) (r g bb : Int32) (s : Int32 × Int32) : ∀ n, rPM τ r g bb a b s n = rP σ r g bb a b s n
  | 0 => rfl
  | n + 1 => by rw [rPM, rP, rP_eq hR ha hb r g bb s n, mix_eq hR ha hb]
theorem left_eq {σ τ : gS} {np nt no ni : Nat} (hR : RR σ τ np nt no ni) {a : Nat} (ha : a < 12) : τ.2 2 a ≤ 0 ↔ σ.2 2 a = 0 := by
  rw [hR.2.2.2.2.2.2.1 a ha, i32_le, i32_eq]
  have h1 := (hR.2.2.1.1 a ha).1
  have h0 : (0 : Int32).toInt = 0 := rfl
  omega
theorem rB_eq {σ τ : gS} {np nt no ni : Nat} (hR : RR σ τ np nt no ni) {a : Nat} (r g bb : Int32) (s : Int32 × Int32) : ∀ n, a + n ≤ 12 → rBM τ r g bb a s n = rB σ r g bb a s n
  | 0, _ => rfl
  | n + 1, h => by
    have ih := rB_eq hR (a := a) r g bb s n (by omega)
    have e1 := left_eq hR (a := a) (by omega)
    have e2 := left_eq hR (a := a + n) (by omega)
    rw [rBM, rB, ih, rP_eq hR (by omega) (by omega)]
    by_cases c : σ.2 2 a = 0 ∨ σ.2 2 (a + n) = 0
    · rw [if_pos c, if_pos (c.imp e1.mpr e2.mpr)]
    · rw [if_neg c, if_neg (fun z => c (z.imp e1.mp e2.mp))]
theorem rA_eq {σ τ : gS} {np nt no ni : Nat} (hR : RR σ τ np nt no ni) (r g bb : Int32) : ∀ n, n ≤ nt → rAM τ r g bb nt n = rA σ r g bb nt n
  | 0, _ => rfl
  | n + 1, h => by
    have hp := hR.pt
    rw [rAM, rA, rA_eq hR r g bb n (by omega), rB_eq hR r g bb _ (nt - n) (by omega)]
theorem op_recipe {σ τ : gS} {np nt no ni : Nat} (hR : RR σ τ np nt no ni) (r g b : Int32) : opOK (th_recipe r g b) (tm_recipe r g b) cdA ((rA σ r g b nt nt).1) ((rAM τ r g b nt nt).1) (σ) (sS τ 0 0) :=
  opIf Iff.rfl (by decide) fun _ => ok0 (by rw [rA_eq hR r g b nt (Nat.le_refl nt)]) ⟨np, nt, no, ni, hR⟩ rfl
end
section
/-! the days that pass -/
theorem isum_one {f g : Nat → Int32} {x : Nat} (h : ∀ i, i ≠ x → g i = f i) : ∀ n, x < n → isum g n = isum f n + (g x - f x)
  | 0, hx => absurd hx (Nat.not_lt_zero x)
  | n + 1, hx => by
    rw [isum, isum]
    by_cases e : x = n
    · subst e; rw [isum_cg x fun i hi => h i (by omega)]; grind
    · rw [isum_one h n (by omega), h n (fun z => e z.symm)]; grind
def payF (σ : gS) (m : Nat → Nat) (h : Nat) : Nat → Int32 := fun q => if cl (σ.2 8 q) = h then nI (m q) * σ.2 9 q else 0
def PP (σ τ0 τ : gS) (m : Nat → Nat) : Prop := (∀ q, q < 8 → m q ≤ cl (σ.2 7 q)) ∧ (∀ q, q < 8 → τ.2 10 q = nI (cl (σ.2 7 q) - m q)) ∧ (∀ q, q < 8 → τ.2 9 q = if m q = cl (σ.2 7 q) then -1 else σ.2 8 q) ∧
  (∀ q, q < 8 → τ.2 7 q = σ.2 5 q + (if ¬ out (σ.2 10 (cl (σ.2 8 q))) 40 60 then 0 else nI (m q))) ∧ (∀ h, h < 4 → τ.2 13 h = σ.2 11 h + isum (payF σ m h) 8) ∧
  (∀ k, k ≠ 13 → k ≠ 7 → k ≠ 10 → k ≠ 9 → τ.2 k = τ0.2 k) ∧ (∀ k, k ≠ 5 → τ.1 k = τ0.1 k)
theorem days_nI {σ : gS} {nt no : Nat} (h : nInv σ nt no) {q : Nat} (hq : q < 8) : σ.2 7 q = nI (cl (σ.2 7 q)) ∧ cl (σ.2 7 q) ≤ 100 := by
  obtain ⟨h1, h2⟩ := h.2.2.2.2.2.2.2.1 q hq
  obtain ⟨a, ha, e⟩ := nI_of (x := σ.2 7 q) (by rw [i32_lt]; have : (0 : Int32).toInt = 0 := rfl; omega)
  rw [e, nI_toInt ha] at h2
  rw [e, cl_nI ha]; exact ⟨rfl, by omega⟩
theorem PP_p1 {σ τ0 τ : gS} {np nt no ni : Nat} (hR : RR σ τ0 np nt no ni) {m : Nat → Nat} (h : PP σ τ0 τ m) {q : Nat} (hq : q < 8) : ∃ m', PP σ τ0 (p1 τ q) m' ∧ m' q = min (m q + 1) (cl (σ.2 7 q)) ∧ ∀ j, j ≠ q → m' j = m j := by
  obtain ⟨p1', p2, p3, p4, p5, p6, p7⟩ := h
  have hD := days_nI hR.2.2.1 hq
  have hm := p1' q hq
  by_cases c : m q = cl (σ.2 7 q)
  · refine ⟨m, ?_, by omega, fun _ _ => rfl⟩
    rw [p1, if_pos (by rw [p3 q hq, if_pos c])]
    exact ⟨p1', p2, p3, p4, p5, p6, p7⟩
  · obtain ⟨j, hj, ej⟩ := hR.1.2.2.2.2.2.2 q
    have e9 : τ.2 9 q = nI j := by rw [p3 q hq, if_neg c, ej]
    have hne : ¬ τ.2 9 q = -1 := by
      rw [e9]; intro z
      have := congrArg Int32.toInt z
      rw [nI_toInt (by omega)] at this
      have h2 : (-1 : Int32).toInt = -1 := rfl
      omega
    have e10 : τ.2 10 q - 1 = nI (cl (σ.2 7 q) - (m q + 1)) := by
      rw [p2 q hq, show cl (σ.2 7 q) - m q = (cl (σ.2 7 q) - (m q + 1)) + 1 by omega, nI_pred]
    have e12 : τ.2 12 (cl (τ.2 9 q)) = σ.2 10 (cl (σ.2 8 q)) := by
      rw [p6 12 (by decide) (by decide) (by decide) (by decide), e9, ej, cl_nI (by omega)]
      exact hR.2.2.2.2.2.2.2.2.2.2.2.2.2.2.2.2.1 j hj
    have e11 : τ.2 11 q = σ.2 9 q := by
      rw [p6 11 (by decide) (by decide) (by decide) (by decide)]
      exact hR.2.2.2.2.2.2.2.2.2.2.2.2.2.2.2.1 q hq
    have hone : ∀ h, isum (payF σ (va_up m q (m q + 1)) h) 8 = isum (payF σ m h) 8 + (payF σ (va_up m q (m q + 1)) h q - payF σ m h q) := fun h => isum_one (fun i hi => by rw [payF, payF, va_up, if_neg hi]) 8 hq
    refine ⟨va_up m q (m q + 1), ?_, by rw [va_up, if_pos rfl]; omega, fun j hj => by rw [va_up, if_neg hj]⟩
    rw [p1, if_neg hne]
    refine ⟨fun i hi => ?_, fun i hi => ?_, fun i hi => ?_, fun i hi => ?_, fun h hh => ?_, fun k h13 h7 h10 h9 => ?_, p7⟩
    · by_cases e : i = q
      · subst e; rw [va_up, if_pos rfl]; omega
      · rw [va_up, if_neg e]; exact p1' i hi
    · show upd (τ.2 10) q (τ.2 10 q - 1) i = _
      by_cases e : i = q
      · subst e; rw [upd_s, e10, va_up, if_pos rfl]
      · rw [upd_n e, va_up, if_neg e]; exact p2 i hi
    · show upd (τ.2 9) q (if ¬ τ.2 10 q - 1 = 0 then τ.2 9 q else -1) i = _
      by_cases e : i = q
      · subst e
        rw [upd_s, e10, va_up, if_pos rfl, e9, ej]
        by_cases c2 : m i + 1 = cl (σ.2 7 i)
        · rw [if_pos c2, if_neg]
          rw [show cl (σ.2 7 i) - (m i + 1) = 0 by omega]; exact fun z => z rfl
        · rw [if_neg c2, if_pos (nI_ne0 (by omega) (by omega))]
      · rw [upd_n e, va_up, if_neg e]; exact p3 i hi
    · show upd (τ.2 7) q (τ.2 7 q + (if ¬ out (τ.2 12 (cl (τ.2 9 q))) 40 60 then 0 else 1)) i = _
      by_cases e : i = q
      · subst e
        rw [upd_s, e12, p4 i hi, va_up, if_pos rfl]
        by_cases c2 : ¬ out (σ.2 10 (cl (σ.2 8 i))) 40 60
        · rw [if_pos c2, if_pos c2, if_pos c2]; simp
        · rw [if_neg c2, if_neg c2, if_neg c2, nI_succ]; grind
      · rw [upd_n e, va_up, if_neg e]; exact p4 i hi
    · show upd (τ.2 13) (cl (τ.2 9 q)) (τ.2 13 (cl (τ.2 9 q)) + τ.2 11 q) h = _
      rw [hone h, payF, payF, va_up, if_pos rfl, e9, cl_nI (by omega), ej, cl_nI (by omega), e11]
      by_cases e : h = j
      · subst e
        rw [upd_s, if_pos rfl, if_pos rfl, p5 h hh, nI_succ]; grind
      · rw [upd_n e, if_neg (fun z => e z.symm), if_neg (fun z => e z.symm), p5 h hh]; simp
    · have h2 := p1_ar τ q k h13 h7 h10 h9
      rw [p1, if_neg hne] at h2
      exact h2.trans (p6 k h13 h7 h10 h9)
theorem PP_p1s {σ τ0 τ : gS} {np nt no ni : Nat} (hR : RR σ τ0 np nt no ni) {m : Nat → Nat} (h : PP σ τ0 τ m) : ∀ n, n ≤ 8 → ∃ m', PP σ τ0 (p1s τ n) m' ∧ ∀ j, m' j = if j < n then min (m j + 1) (cl (σ.2 7 j)) else m j
  | 0, _ => ⟨m, h, fun j => (if_neg (Nat.not_lt_zero j)).symm⟩
  | n + 1, hn => by
    obtain ⟨m1, h1, h2⟩ := PP_p1s hR h n (by omega)
    obtain ⟨m2, h3, h4, h5⟩ := PP_p1 hR h1 (q := n) (by omega)
    refine ⟨m2, h3, fun j => ?_⟩
    by_cases e : j = n
    · subst e; rw [h4, h2 j, if_neg (by omega), if_pos (by omega)]
    · rw [h5 j e, h2 j]
      by_cases c : j < n
      · rw [if_pos c, if_pos (by omega)]
      · rw [if_neg c, if_neg (by omega)]
theorem p1s_1 (τ : gS) (k : Nat) : ∀ n, (p1s τ n).1 k = τ.1 k
  | 0 => rfl
  | n + 1 => (p1_sc _ n k).trans (p1s_1 τ k n)
theorem PP_pN {σ τ0 τ : gS} {np nt no ni : Nat} (hR : RR σ τ0 np nt no ni) (h : PP σ τ0 τ fun _ => 0) : ∀ k, (∃ m', PP σ τ0 (pN τ ni k) m' ∧ ∀ j, j < 8 → m' j = if j < ni then min k (cl (σ.2 7 j)) else 0) ∧ (pN τ ni k).1 5 = τ.1 5 + nI k
  | 0 => ⟨⟨_, h, fun j _ => by rw [Nat.zero_min]; simp⟩, (Int32.add_zero _).symm⟩
  | k + 1 => by
    have hp := hR.pt
    obtain ⟨⟨m1, h1, h2⟩, h3⟩ := PP_pN hR h k
    have h4 : PP σ τ0 (sS (pN τ ni k) 5 ((pN τ ni k).1 5 + 1)) m1 := by
      obtain ⟨q1, q2, q3, q4, q5, q6, q7⟩ := h1
      refine ⟨q1, q2, q3, q4, q5, q6, fun j hj => ?_⟩
      exact (upd_n hj).trans (q7 j hj)
    obtain ⟨m2, h5, h6⟩ := PP_p1s hR h4 ni hp.2.2.2
    refine ⟨⟨m2, h5, fun j hj => ?_⟩, ?_⟩
    · rw [h6 j, h2 j hj]
      by_cases c : j < ni
      · rw [if_pos c, if_pos c, if_pos c]; omega
      · rw [if_neg c, if_neg c, if_neg c]
    · rw [pN, p1s_1]
      show upd (pN τ ni k).1 5 ((pN τ ni k).1 5 + 1) 5 = _
      rw [upd_s, h3, nI_succ]; grind
theorem pfls_2 (σ : gS) (d : Int32) (k : Nat) (h5 : k ≠ 5) (h7 : k ≠ 7) (h11 : k ≠ 11) : ∀ n, (pfls σ d n).2 k = σ.2 k
  | 0 => rfl
  | n + 1 => (pfl_2 _ d n k h5 h7 h11).trans (pfls_2 σ d k h5 h7 h11 n)
def mB (σ : gS) (dd k : Nat) : Nat → Nat := fun q => if q < k then min dd (cl (σ.2 7 q)) else 0
theorem calm_iff {x : Int32} (h : 0 ≤ x.toInt ∧ x.toInt ≤ 100) : (if 0 ≤ x - 50 then x - 50 else 0 - (x - 50)) ≤ 10 ↔ ¬ out x 40 60 := by
  have h50 : (50 : Int32).toInt = 50 := rfl
  have h0 : (0 : Int32).toInt = 0 := rfl
  have h10 : (10 : Int32).toInt = 10 := rfl
  have h40 : (40 : Int32).toInt = 40 := rfl
  have h60 : (60 : Int32).toInt = 60 := rfl
  have e1 : (x - 50).toInt = x.toInt - 50 := by rw [ti_sub (by omega) (by omega), h50]
  have e2 : (0 - (x - 50)).toInt = 50 - x.toInt := by rw [ti_sub (by omega) (by omega), e1, h0]; omega
  show _ ↔ ¬ (x < 40 ∨ ¬ x ≤ 60)
  rw [i32_lt, i32_le (x := x), h40, h60]
  by_cases c : 0 ≤ x - 50
  · rw [if_pos c, i32_le, e1, h10]
    rw [i32_le, e1, h0] at c; omega
  · rw [if_neg c, i32_le, e2, h10]
    rw [i32_le, e1, h0] at c; omega
theorem pfls_at {σ : gS} {np nt no ni : Nat} (hA : iA σ np nt no ni) (hN : nInv σ nt no) {dd : Nat} (hd : dd ≤ 100) : ∀ k, k ≤ 8 →
    (∀ q, q < 8 → (pfls σ (nI dd) k).2 7 q = nI (cl (σ.2 7 q) - mB σ dd k q)) ∧
    (∀ q, q < 8 → (pfls σ (nI dd) k).2 5 q = σ.2 5 q + (if ¬ out (σ.2 10 (cl (σ.2 8 q))) 40 60 then 0 else nI (mB σ dd k q))) ∧
    (∀ h, h < 4 → (pfls σ (nI dd) k).2 11 h = σ.2 11 h + isum (payF σ (mB σ dd k) h) 8)
  | 0, _ => by
    have hm0 : ∀ q, mB σ dd 0 q = 0 := fun q => by rw [mB, if_neg (Nat.not_lt_zero q)]
    refine ⟨fun q hq => ?_, fun q hq => ?_, fun h hh => ?_⟩
    · rw [hm0, Nat.sub_zero]; exact (days_nI hN hq).1
    · rw [hm0, nI_0]
      show σ.2 5 q = _
      split <;> simp
    · have : isum (payF σ (mB σ dd 0) h) 8 = isum (payF σ (mB σ dd 0) h) 0 := isum_to (Nat.zero_le _) fun i _ hi => by
        rw [payF, hm0, nI_0]; split <;> simp
      rw [this, isum, Int32.add_zero]; rfl
  | k + 1, hk => by
    obtain ⟨i1, i2, i3⟩ := pfls_at hA hN hd k (by omega)
    have hD := days_nI hN (q := k) (by omega)
    have f8 := pfls_2 σ (nI dd) 8 (by decide) (by decide) (by decide) k
    have f9 := pfls_2 σ (nI dd) 9 (by decide) (by decide) (by decide) k
    have f10 := pfls_2 σ (nI dd) 10 (by decide) (by decide) (by decide) k
    obtain ⟨j, hj, ej⟩ := hA.2.2.2.2.2.2 k
    have hmk : mB σ dd k k = 0 := by rw [mB, if_neg (by omega)]
    have hmk1 : mB σ dd (k + 1) k = min dd (cl (σ.2 7 k)) := by rw [mB, if_pos (by omega)]
    have hmo : ∀ i, i ≠ k → mB σ dd (k + 1) i = mB σ dd k i := fun i hi => by
      rw [mB, mB]
      by_cases c : i < k
      · rw [if_pos c, if_pos (by omega)]
      · rw [if_neg c, if_neg (by omega)]
    have e7 : (pfls σ (nI dd) k).2 7 k = nI (cl (σ.2 7 k)) := by rw [i1 k (by omega), hmk, Nat.sub_zero]
    have eL : lentD (pfls σ (nI dd) k) (nI dd) k = nI (min dd (cl (σ.2 7 k))) := by
      rw [lentD, e7]
      by_cases c : cl (σ.2 7 k) < dd
      · rw [if_pos ((nI_ltI (by omega) (by omega)).mpr c), Nat.min_eq_right (by omega)]
      · rw [if_neg (fun z => c ((nI_ltI (by omega) (by omega)).mp z)), Nat.min_eq_left (by omega)]
    have hdmp := hN.2.2.2.2.2.2.1 j hj
    have hcalm := calm_iff hdmp
    have hone : ∀ h, isum (payF σ (mB σ dd (k + 1)) h) 8 = isum (payF σ (mB σ dd k) h) 8 + (payF σ (mB σ dd (k + 1)) h k - payF σ (mB σ dd k) h k) := fun h => isum_one (fun i hi => by rw [payF, payF, hmo i hi]) 8 (by omega)
    rw [pfls, pfl, eL, f8, f9, f10, ej, cl_nI (by omega), e7]
    refine ⟨fun q hq => ?_, fun q hq => ?_, fun h hh => ?_⟩
    · show upd _ k (nI (cl (σ.2 7 k)) - nI (min dd (cl (σ.2 7 k)))) q = _
      by_cases e : q = k
      · subst e; rw [upd_s, hmk1, pk_sub (by omega)]
      · rw [upd_n e, hmo q e]
        rw [← i1 q hq]
    · by_cases e : q = k
      · subst e
        rw [ej, cl_nI (by omega), hmk1]
        by_cases c : ¬ out (σ.2 10 j) 40 60
        · rw [if_pos (hcalm.mpr c), if_pos c]
          have h5 := i2 q hq
          rw [ej, cl_nI (by omega), if_pos c] at h5
          exact h5
        · rw [if_neg (fun z => c (hcalm.mp z)), if_neg c]
          have h5 := i2 q hq
          rw [ej, cl_nI (by omega), if_neg c, hmk, nI_0, Int32.add_zero] at h5
          show upd ((pfls σ (nI dd) q).2 5) q _ q = _
          rw [upd_s, h5]
      · rw [hmo q e, ← i2 q hq]
        by_cases c : ¬ out (σ.2 10 j) 40 60
        · rw [if_pos (hcalm.mpr c)]; rfl
        · rw [if_neg (fun z => c (hcalm.mp z))]; exact upd_n e
    · rw [hone h, payF, payF, hmk, hmk1, nI_0, ej, cl_nI (by omega)]
      have hu : ∀ v, upd ((pfls σ (nI dd) k).2 11) j v h = if h = j then v else (pfls σ (nI dd) k).2 11 h := fun v => rfl
      have hs : ∀ v f, (sA (sA (if (if 0 ≤ σ.2 10 j - 50 then σ.2 10 j - 50 else 0 - (σ.2 10 j - 50)) ≤ 10 then pfls σ (nI dd) k else sA (pfls σ (nI dd) k) 5 f) 11 v) 7 (upd ((pfls σ (nI dd) k).2 7) k (nI (cl (σ.2 7 k)) - nI (min dd (cl (σ.2 7 k)))))).2 11 h = v h := fun v f => rfl
      show upd ((pfls σ (nI dd) k).2 11) j ((pfls σ (nI dd) k).2 11 j + nI (min dd (cl (σ.2 7 k))) * σ.2 9 k) h = _
      rw [hu, i3 h hh, i3 j hj]
      by_cases e : h = j
      · subst e; rw [if_pos rfl, if_pos rfl, if_pos rfl]; grind
      · rw [if_neg e, if_neg (fun z => e z.symm), if_neg (fun z => e z.symm)]; simp
end
section
theorem op_pass {σ τ : gS} {np nt no ni : Nat} (hR : RR σ τ np nt no ni) (d : Int32) : opOK (th_pass σ d) (tm_pass τ d) cdA (σ.1 4 + d) ((pN (sS τ 0 0) ni (cl d)).1 5) (sS (pfls σ d ni) 4 (σ.1 4 + d)) (pN (sS τ 0 0) ni (cl d)) := by
  have hp := hR.pt
  have hr1 : τ.1 5 = σ.1 4 := hR.2.2.2.1
  refine opIf Iff.rfl (by decide) fun h0 => opIf (by rw [hr1]) (by decide) fun h1 => ?_
  obtain ⟨a, ⟨ha1, ha⟩, rfl⟩ := out_nat (M := 100) rfl (by decide) h0
  rw [cl_nI (by omega)]
  have hDD : ∀ q, q < 8 → σ.2 7 q = nI (cl (σ.2 7 q)) ∧ cl (σ.2 7 q) ≤ 100 := fun q hq => days_nI hR.2.2.1 hq
  have hP0 : PP σ (sS τ 0 0) (sS τ 0 0) fun _ => 0 := by
    obtain ⟨A, M, N, ⟨r1, r2, r3, r4, r5, r6, r7, r8, r9, r10, r11, r12, r13, r14, r15⟩⟩ := hR
    refine ⟨fun q _ => Nat.zero_le _, fun q hq => ?_, fun q hq => ?_, fun q hq => ?_, fun h hh => ?_, fun _ _ _ _ _ => rfl, fun _ _ => rfl⟩
    · show τ.2 10 q = nI (cl (σ.2 7 q) - 0)
      rw [Nat.sub_zero, ← (hDD q hq).1]; exact r12 q hq
    · show τ.2 9 q = if 0 = cl (σ.2 7 q) then -1 else σ.2 8 q
      rw [r11 q hq, (hDD q hq).1, cl_nI (by have := (hDD q hq).2; omega)]
      by_cases c : cl (σ.2 7 q) = 0
      · rw [c, if_pos rfl, if_neg]; exact fun z => z (by decide)
      · have h2 := (hDD q hq).2
        rw [if_pos (nI_nle (n := cl (σ.2 7 q)) (by omega) (by omega)), if_neg (fun z => c z.symm)]
    · show τ.2 7 q = σ.2 5 q + (if ¬ out (σ.2 10 (cl (σ.2 8 q))) 40 60 then 0 else nI 0)
      rw [r9 q hq, nI_0]; split <;> simp
    · show τ.2 13 h = σ.2 11 h + isum (payF σ (fun _ => 0) h) 8
      have : isum (payF σ (fun _ => 0) h) 8 = isum (payF σ (fun _ => 0) h) 0 := isum_to (Nat.zero_le _) fun i _ hi => by
        rw [payF, nI_0]; split <;> simp
      rw [this, isum, Int32.add_zero]; exact r15 h hh
  obtain ⟨⟨m, ⟨p1', p2, p3, p4, p5, p6, p7⟩, em⟩, e5⟩ := PP_pN (hR.S0 0) hP0 a
  obtain ⟨b7, b5, b11⟩ := pfls_at hR.1 hR.2.2.1 ha ni hp.2.2.2
  have hmm : ∀ q, q < 8 → mB σ a ni q = m q := fun q hq => by rw [em q hq, mB]
  have hA := iA_pfls hR.1 (nI a) ni
  have hM := iM0_pN (iM0_S0 hR.2.1 0) (ni := ni) a
  have f0 := pfls_2 σ (nI a) 0 (by decide) (by decide) (by decide) ni
  have f1 := pfls_2 σ (nI a) 1 (by decide) (by decide) (by decide) ni
  have f2 := pfls_2 σ (nI a) 2 (by decide) (by decide) (by decide) ni
  have f3 := pfls_2 σ (nI a) 3 (by decide) (by decide) (by decide) ni
  have f4 := pfls_2 σ (nI a) 4 (by decide) (by decide) (by decide) ni
  have f6 := pfls_2 σ (nI a) 6 (by decide) (by decide) (by decide) ni
  have f8 := pfls_2 σ (nI a) 8 (by decide) (by decide) (by decide) ni
  have f9 := pfls_2 σ (nI a) 9 (by decide) (by decide) (by decide) ni
  have f10 := pfls_2 σ (nI a) 10 (by decide) (by decide) (by decide) ni
  have fs := pfls_1 σ (nI a) ni
  have g0 : (pN (sS τ 0 0) ni a).2 0 = τ.2 0 := p6 0 (by decide) (by decide) (by decide) (by decide)
  have g1 : (pN (sS τ 0 0) ni a).2 1 = τ.2 1 := p6 1 (by decide) (by decide) (by decide) (by decide)
  have g2 : (pN (sS τ 0 0) ni a).2 2 = τ.2 2 := p6 2 (by decide) (by decide) (by decide) (by decide)
  have g3 : (pN (sS τ 0 0) ni a).2 3 = τ.2 3 := p6 3 (by decide) (by decide) (by decide) (by decide)
  have g4 : (pN (sS τ 0 0) ni a).2 4 = τ.2 4 := p6 4 (by decide) (by decide) (by decide) (by decide)
  have g5 : (pN (sS τ 0 0) ni a).2 5 = τ.2 5 := p6 5 (by decide) (by decide) (by decide) (by decide)
  have g6 : (pN (sS τ 0 0) ni a).2 6 = τ.2 6 := p6 6 (by decide) (by decide) (by decide) (by decide)
  have g8 : (pN (sS τ 0 0) ni a).2 8 = τ.2 8 := p6 8 (by decide) (by decide) (by decide) (by decide)
  have g11 : (pN (sS τ 0 0) ni a).2 11 = τ.2 11 := p6 11 (by decide) (by decide) (by decide) (by decide)
  have g12 : (pN (sS τ 0 0) ni a).2 12 = τ.2 12 := p6 12 (by decide) (by decide) (by decide) (by decide)
  have e5' : (pN (sS τ 0 0) ni a).1 5 = σ.1 4 + nI a := by rw [e5, ← hr1]; rfl
  have e0 : (pN (sS τ 0 0) ni a).1 0 = 0 := p7 0 (by decide)
  generalize pN (sS τ 0 0) ni a = T at *
  generalize pfls σ (nI a) ni = X at *
  obtain ⟨A, M, ⟨n1, n2, n3, n4, n5, n6, n7, n8, n9⟩, ⟨r1, r2, r3, r4, r5, r6, r7, r8, r9, r10, r11, r12, r13, r14, r15⟩⟩ := hR
  refine ok0 e5'.symm ⟨np, nt, no, ni, hA, hM, ?_, ?_⟩ e0
  · show (∀ t, t < 12 → 0 ≤ (X.2 2 t).toInt ∧ (X.2 2 t).toInt + zsum (fun p => (X.2 3 (p * 12 + t)).toInt) 10 ≤ 1000) ∧
      (∀ p t, p < 10 → t < 12 → 0 ≤ (X.2 3 (p * 12 + t)).toInt) ∧
      (∀ p t, p < 10 → t < 12 → nt ≤ t ∨ no ≤ p → X.2 3 (p * 12 + t) = 0) ∧
      (∀ q k t, q < 8 → k < 12 → t < 12 → 0 ≤ (X.2 3 ((10 + q * 12 + k) * 12 + t)).toInt ∧ (X.2 3 ((10 + q * 12 + k) * 12 + t)).toInt ≤ 1000) ∧
      (∀ q k t, q < 8 → k < 12 → t < 12 → nt ≤ t ∨ cl (X.2 4 q) ≤ k → X.2 3 ((10 + q * 12 + k) * 12 + t) = 0) ∧
      (∀ q k, q < 8 → k < cl (X.2 4 q) → 1 ≤ zsum (fun t => (X.2 3 ((10 + q * 12 + k) * 12 + t)).toInt) 12) ∧
      (∀ h, h < 4 → 0 ≤ (X.2 10 h).toInt ∧ (X.2 10 h).toInt ≤ 100) ∧
      (∀ q, q < 8 → 0 ≤ (X.2 7 q).toInt ∧ (X.2 7 q).toInt ≤ 100) ∧
      (∀ t, t < nt → (X.2 1 t).toInt < (X.1 0).toInt)
    rw [f1, f2, f3, f4, f10, fs]
    refine ⟨n1, n2, n3, n4, n5, n6, n7, fun q hq => ?_, n9⟩
    have := (hDD q hq).2
    rw [b7 q hq, nI_toInt (by omega)]; omega
  · show T.1 5 = σ.1 4 + nI a ∧ (∀ j, j < 18 → T.2 0 j = X.2 0 j) ∧ (∀ t, t < 12 → T.2 1 t = X.2 1 t) ∧ (∀ t, t < 12 → T.2 2 t = X.2 2 t) ∧ (∀ t, t < 12 → T.2 3 t = X.2 3 (106 * 12 + t)) ∧
      (∀ p t, p < 10 → t < 12 → T.2 4 (12 * p + t) = X.2 3 (p * 12 + t)) ∧ (∀ q, q < 8 → T.2 5 q = X.2 4 q) ∧
      (∀ q k t, q < 8 → k < 12 → t < 12 → T.2 6 (12 * (12 * q + k) + t) = X.2 3 ((10 + q * 12 + k) * 12 + t)) ∧
      (∀ q, q < 8 → T.2 7 q = X.2 5 q) ∧ (∀ q, q < 8 → T.2 8 q = X.2 6 q) ∧ (∀ q, q < 8 → T.2 9 q = if ¬ X.2 7 q ≤ 0 then X.2 8 q else -1) ∧
      (∀ q, q < 8 → T.2 10 q = X.2 7 q) ∧ (∀ q, q < 8 → T.2 11 q = X.2 9 q) ∧ (∀ h, h < 4 → T.2 12 h = X.2 10 h) ∧ (∀ h, h < 4 → T.2 13 h = X.2 11 h)
    rw [f0, f1, f2, f3, f4, f6, f8, f9, f10, g0, g1, g2, g3, g4, g5, g6, g8, g11, g12]
    refine ⟨e5', r2, r3, r4, r5, r6, r7, r8, fun q hq => ?_, r10, fun q hq => ?_, fun q hq => ?_, r13, r14, fun h hh => ?_⟩
    · rw [p4 q hq, b5 q hq, hmm q hq]
    · have h2 := (hDD q hq).2
      have h3 := p1' q hq
      rw [p3 q hq, b7 q hq, hmm q hq]
      by_cases c : m q = cl (σ.2 7 q)
      · rw [if_pos c, if_neg]; rw [c, Nat.sub_self]; exact fun z => z (by decide)
      · rw [if_neg c, if_pos (nI_nle (by omega) (by omega))]
    · rw [p2 q hq, b7 q hq, hmm q hq]
    · rw [p5 h hh, b11 h hh]
      rw [isum_cg (f := payF σ m h) (g := payF σ (mB σ a ni) h) 8 fun q hq => by rw [payF, payF, hmm q hq]]
end
section
/-! The book, its small methods. -/
set_option maxRecDepth 100000 in
set_option maxHeartbeats 4000000 in
theorem c_potRow (l : Launch) (D : va_G) (cI cJ : ClassId) (w : va_W) (x : Int32) : MC l yX0_potRow wsX0_potRow 0 0 D (tyIJ cI cJ) [.int (x)] w w none (some (.int x)) 0 := by
  refine MC.ofG (cc := cX0_potRow) (maxL := 1) (ret := (some .int)) [(0, .int (x))] (by decide) rfl (Nat.le_of_ble_eq_true rfl) rfl ?_
  intro p e s m args below meth c C hr hout
  refine g_iload_n 0 C rfl dX0_potRow_0 rfl ?_
  exact g_iret C hr rfl dX0_potRow_1 (Nat.zero_le _) (Nat.zero_le _) rfl rfl rfl
set_option maxRecDepth 100000 in
set_option maxHeartbeats 4000000 in
theorem c_place (l : Launch) (D : va_G) (cI cJ : ClassId) (w : va_W) (r t : Nat) : MC l yX0_place wsX0_place 0 0 D (tyIJ cI cJ) [.int (nI (r)), .int (nI (t))] w w none (some (.int (nI (r * 12 + t)))) 0 := by
  refine MC.ofG (cc := cX0_place) (maxL := 2) (ret := (some .int)) [(0, .int (nI (r))), (1, .int (nI (t)))] (by decide) rfl (Nat.le_of_ble_eq_true rfl) rfl ?_
  intro p e s m args below meth c C hr hout
  refine g_iload_n 0 C rfl dX0_place_0 rfl ?_
  refine g_bipush 12 C dX0_place_1 (by decide) ?_
  refine g_imulN r 12 C dX0_place_3 ?_
  refine g_iload_n 1 C rfl dX0_place_4 rfl ?_
  refine g_iaddN (r * 12) t C dX0_place_5 ?_
  exact g_iret C hr rfl dX0_place_6 (Nat.zero_le _) (Nat.zero_le _) rfl rfl rfl
set_option maxRecDepth 100000 in
set_option maxHeartbeats 4000000 in
theorem c_layerRow (l : Launch) (D : va_G) (cI cJ : ClassId) (w : va_W) (r t : Nat) : MC l yX0_layerRow wsX0_layerRow 0 0 D (tyIJ cI cJ) [.int (nI (r)), .int (nI (t))] w w none (some (.int (nI (10 + r * 12 + t)))) 0 := by
  refine MC.ofG (cc := cX0_layerRow) (maxL := 2) (ret := (some .int)) [(0, .int (nI (r))), (1, .int (nI (t)))] (by decide) rfl (Nat.le_of_ble_eq_true rfl) rfl ?_
  intro p e s m args below meth c C hr hout
  refine g_bipush 10 C dX0_layerRow_0 (by decide) ?_
  refine g_iload_n 0 C rfl dX0_layerRow_2 rfl ?_
  refine g_bipush 12 C dX0_layerRow_3 (by decide) ?_
  refine g_imulN r 12 C dX0_layerRow_5 ?_
  refine g_iaddN 10 (r * 12) C dX0_layerRow_6 ?_
  refine g_iload_n 1 C rfl dX0_layerRow_7 rfl ?_
  refine g_iaddN (10 + (r * 12)) t C dX0_layerRow_8 ?_
  exact g_iret C hr rfl dX0_layerRow_9 (Nat.zero_le _) (Nat.zero_le _) rfl rfl rfl
set_option maxRecDepth 100000 in
set_option maxHeartbeats 4000000 in
theorem c_square (l : Launch) (D : va_G) (cI cJ : ClassId) (w : va_W) (x : Int32) : MC l yX0_square wsX0_square 0 0 D (tyIJ cI cJ) [.int (x)] w w none (some (.int (x * x))) 0 := by
  refine MC.ofG (cc := cX0_square) (maxL := 1) (ret := (some .int)) [(0, .int (x))] (by decide) rfl (Nat.le_of_ble_eq_true rfl) rfl ?_
  intro p e s m args below meth c C hr hout
  refine g_iload_n 0 C rfl dX0_square_0 rfl ?_
  refine g_iload_n 0 C rfl dX0_square_1 rfl ?_
  refine g_imul C dX0_square_2 ?_
  exact g_iret C hr rfl dX0_square_3 (Nat.zero_le _) (Nat.zero_le _) rfl rfl rfl
set_option maxRecDepth 100000 in
set_option maxHeartbeats 4000000 in
theorem c_checkNumber (l : Launch) (D : va_G) (cI cJ : ClassId) (hst : l.stackTraces = false) (w : va_W) (x c : Int32) (K : Nat) (hK : K = if bad x c then 1 else 0) : MC l yX0_checkNumber wsX0_checkNumber 6 90 D (tyIJ cI cJ) [.int (x), .int (c)] w w (exT K) none (nT K) := by
  refine MC.ofG (cc := cX0_checkNumber) (maxL := 2) (ret := none) [(0, .int (x)), (1, .int (c))] (by decide) rfl (Nat.le_of_ble_eq_true rfl) rfl ?_
  intro p e s m args below meth c C hr hout
  refine g_iload_n 0 C rfl dX0_checkNumber_0 rfl ?_
  refine g_if_lt 9 C dX0_checkNumber_1 (by decide) (fun c_1_1 => ?_) (fun c_1_1 => ?_)
  ·
    obtain rfl : K = 1 := hK.trans (if_pos (Or.inl c_1_1))
    exact g_throw (cls := eIOB) (text := "there is no such number") C hst rfl (by decide +kernel) (by decide +kernel) (by decide +kernel) (by decide +kernel) (by decide +kernel) (by decide +kernel) (by decide +kernel) hout dX0_checkNumber_9 dX0_checkNumber_12 dX0_checkNumber_13 dX0_checkNumber_15 dX0_checkNumber_18 (by decide) (by decide) (by decide) (by decide) (by decide) (by decide) rfl
  ·
    refine g_iload_n 0 C rfl dX0_checkNumber_4 rfl ?_
    refine g_iload_n 1 C rfl dX0_checkNumber_5 rfl ?_
    refine g_icmp_lt 19 C dX0_checkNumber_6 (by decide) (fun c_6_2 => ?_) (fun c_6_2 => ?_)
    ·
      obtain rfl : K = 0 := hK.trans (if_neg (fun q => q.elim c_1_1 (fun r => r c_6_2)))
      exact g_vret C hr dX0_checkNumber_19 (Nat.zero_le _) (Nat.zero_le _) rfl rfl rfl
    ·
      obtain rfl : K = 1 := hK.trans (if_pos (Or.inr c_6_2))
      exact g_throw (cls := eIOB) (text := "there is no such number") C hst rfl (by decide +kernel) (by decide +kernel) (by decide +kernel) (by decide +kernel) (by decide +kernel) (by decide +kernel) (by decide +kernel) hout dX0_checkNumber_9 dX0_checkNumber_12 dX0_checkNumber_13 dX0_checkNumber_15 dX0_checkNumber_18 (by decide) (by decide) (by decide) (by decide) (by decide) (by decide) rfl
set_option maxRecDepth 100000 in
set_option maxHeartbeats 4000000 in
theorem c_checkRange (l : Launch) (D : va_G) (cI cJ : ClassId) (hst : l.stackTraces = false) (w : va_W) (x lo hi : Int32) (K : Nat) (hK : K = if out x lo hi then 2 else 0) : MC l yX0_checkRange wsX0_checkRange 6 90 D (tyIJ cI cJ) [.int (x), .int (lo), .int (hi)] w w (exT K) none (nT K) := by
  refine MC.ofG (cc := cX0_checkRange) (maxL := 3) (ret := none) [(0, .int (x)), (1, .int (lo)), (2, .int (hi))] (by decide) rfl (Nat.le_of_ble_eq_true rfl) rfl ?_
  intro p e s m args below meth c C hr hout
  refine g_iload_n 0 C rfl dX0_checkRange_0 rfl ?_
  refine g_iload_n 1 C rfl dX0_checkRange_1 rfl ?_
  refine g_icmp_lt 10 C dX0_checkRange_2 (by decide) (fun c_2_1 => ?_) (fun c_2_1 => ?_)
  ·
    obtain rfl : K = 2 := hK.trans (if_pos (Or.inl c_2_1))
    exact g_throw (cls := eIAE) (text := "out of range") C hst rfl (by decide +kernel) (by decide +kernel) (by decide +kernel) (by decide +kernel) (by decide +kernel) (by decide +kernel) (by decide +kernel) hout dX0_checkRange_10 dX0_checkRange_13 dX0_checkRange_14 dX0_checkRange_16 dX0_checkRange_19 (by decide) (by decide) (by decide) (by decide) (by decide) (by decide) rfl
  ·
    refine g_iload_n 0 C rfl dX0_checkRange_5 rfl ?_
    refine g_iload_n 2 C rfl dX0_checkRange_6 rfl ?_
    refine g_icmp_le 20 C dX0_checkRange_7 (by decide) (fun c_7_2 => ?_) (fun c_7_2 => ?_)
    ·
      obtain rfl : K = 0 := hK.trans (if_neg (fun q => q.elim c_2_1 (fun r => r c_7_2)))
      exact g_vret C hr dX0_checkRange_20 (Nat.zero_le _) (Nat.zero_le _) rfl rfl rfl
    ·
      obtain rfl : K = 2 := hK.trans (if_pos (Or.inr c_7_2))
      exact g_throw (cls := eIAE) (text := "out of range") C hst rfl (by decide +kernel) (by decide +kernel) (by decide +kernel) (by decide +kernel) (by decide +kernel) (by decide +kernel) (by decide +kernel) hout dX0_checkRange_10 dX0_checkRange_13 dX0_checkRange_14 dX0_checkRange_16 dX0_checkRange_19 (by decide) (by decide) (by decide) (by decide) (by decide) (by decide) rfl
end
section
/-! The book, its questions about rows. -/
set_option maxRecDepth 100000 in
set_option maxHeartbeats 4000000 in
theorem c_isLent (l : Launch) (D : va_G) (cI cJ : ClassId) (h : Nat → Nat) (σ : gS) (np nt no ni : Nat) (hI : iA σ np nt no ni) (q : Nat) (hq : q < 8) : MC l yX0_isLent wsX0_isLent 0 0 D (tyIJ cI cJ) [.ref (h 0), .int (nI (q))] (wA cI h σ) (wA cI h σ) none (some (.int (bI (¬ σ.2 7 q ≤ 0)))) 0 := by
  have hI0 := hI
  obtain ⟨⟨hnp, hnp6⟩, ⟨hnt, hnt12⟩, ⟨hno, hno10⟩, ⟨hni, hni8⟩, hPT, hLC, hLH⟩ := hI
  refine MC.ofG (cc := cX0_isLent) (maxL := 2) (ret := (some .boolean)) [(0, .ref (h 0)), (1, .int (nI (q)))] (by decide) rfl (Nat.le_of_ble_eq_true rfl) rfl ?_
  intro p e s m args below meth c C hr hout
  have hin : ∀ w ∈ wsX00, w ∈ wsX0_isLent := fun w h => by first | exact List.mem_cons_of_mem _ (List.mem_append_right _ h) | exact List.mem_cons_of_mem _ (List.mem_append_left _ (List.mem_append_right _ h)) | exact List.mem_cons_of_mem _ (List.mem_append_left _ (List.mem_append_left _ (List.mem_append_right _ h))) | exact List.mem_cons_of_mem _ (List.mem_append_left _ (List.mem_append_left _ (List.mem_append_left _ (List.mem_append_right _ h)))) | exact List.mem_cons_of_mem _ (List.mem_append_left _ (List.mem_append_left _ (List.mem_append_left _ (List.mem_append_left _ (List.mem_append_right _ h)))))
  refine g_aload_n 0 C rfl dX0_isLent_0 rfl ?_
  refine g_get (C0 := RX0) (T := TX0) (N := 17) 0 0 12 (.ref (h 8)) C hin rfl rfl (by decide) (by decide +kernel) rfl dX0_isLent_1 ?_
  refine g_iload_n 1 C rfl dX0_isLent_4 rfl ?_
  refine g_ialdN (cA := cI) (n := 8) (a := h 8) (f := σ.2 7) q 8 0 C rfl rfl (by omega) (by decide) dX0_isLent_5 ?_
  refine g_if_le 13 C dX0_isLent_6 (by decide) (fun c_6_1 => ?_) (fun c_6_1 => ?_)
  ·
    refine g_iconst 0 C dX0_isLent_13 (by decide) ?_
    exact g_iret C hr rfl dX0_isLent_14 (Nat.zero_le _) (Nat.zero_le _) rfl (congrArg (fun x => some (Value.int x)) (bI_0 (not_not_intro c_6_1)).symm) rfl
  ·
    refine g_iconst 1 C dX0_isLent_9 (by decide) ?_
    refine g_goto 14 C dX0_isLent_10 (by decide) ?_
    exact g_iret C hr rfl dX0_isLent_14 (Nat.zero_le _) (Nat.zero_le _) rfl (congrArg (fun x => some (Value.int x)) (bI_1 c_6_1).symm) rfl
set_option maxRecDepth 100000 in
set_option maxHeartbeats 4000000 in
theorem c_sumOfRow (l : Launch) (D : va_G) (cI cJ : ClassId) (h : Nat → Nat) (σ : gS) (np nt no ni : Nat) (hI : iA σ np nt no ni) (r : Nat) (hr1 : r < 107) : MC l yX0_sumOfRow wsX0_sumOfRow 1 21 D (tyIJ cI cJ) [.ref (h 0), .int (nI (r))] (wA cI h σ) (wA cI h σ) none (some (.int (rowS (σ.2 3) r nt))) 0 := by
  have hI0 := hI
  obtain ⟨⟨hnp, hnp6⟩, ⟨hnt, hnt12⟩, ⟨hno, hno10⟩, ⟨hni, hni8⟩, hPT, hLC, hLH⟩ := hI
  refine MC.ofG (cc := cX0_sumOfRow) (maxL := 4) (ret := (some .int)) [(0, .ref (h 0)), (1, .int (nI (r)))] (by decide) rfl (Nat.le_of_ble_eq_true rfl) rfl ?_
  intro p e s m args below meth c C hr hout
  have hin : ∀ w ∈ wsX00, w ∈ wsX0_sumOfRow := fun w h => by first | exact List.mem_cons_of_mem _ (List.mem_append_right _ h) | exact List.mem_cons_of_mem _ (List.mem_append_left _ (List.mem_append_right _ h)) | exact List.mem_cons_of_mem _ (List.mem_append_left _ (List.mem_append_left _ (List.mem_append_right _ h))) | exact List.mem_cons_of_mem _ (List.mem_append_left _ (List.mem_append_left _ (List.mem_append_left _ (List.mem_append_right _ h)))) | exact List.mem_cons_of_mem _ (List.mem_append_left _ (List.mem_append_left _ (List.mem_append_left _ (List.mem_append_left _ (List.mem_append_right _ h)))))
  refine g_iconst 0 C dX0_sumOfRow_0 (by decide) ?_
  refine g_istore_n [(2, .int (0)), (0, .ref (h 0)), (1, .int (nI (r)))] C dX0_sumOfRow_1 rfl (by decide) rfl ?_
  refine g_iconst 0 C dX0_sumOfRow_2 (by decide) ?_
  refine g_istore_n [(3, .int (0)), (2, .int (0)), (0, .ref (h 0)), (1, .int (nI (r)))] C dX0_sumOfRow_3 rfl (by decide) rfl ?_
  have loop_4 : ∀ (fu : Nat) (i : Nat), i ≤ nt → nt + 1 ≤ i + fu → G p l e ({ frames := 1, cells := 0, slots := 6 * 0, locals := 21 } : Room) s m args below meth c D (va_A (wA cI h σ) s.heap.size) 4 0 0 (gQ below D (wA cI h σ) (wA cI h σ) none (some (.int (rowS (σ.2 3) r nt))) 0 args s) (wA cI h σ) [(0, .ref (h 0)), (1, .int (nI (r))), (2, .int (rowS (σ.2 3) r i)), (3, .int (nI (i)))] 4 [] := by
    intro fu
    induction fu with
    | zero => intro i hi hf; exact absurd True.intro (by omega)
    | succ fu ih_4 =>
      intro i hi hf
      refine g_iload_n 3 C rfl dX0_sumOfRow_4 rfl ?_
      refine g_aload_n 0 C rfl dX0_sumOfRow_5 rfl ?_
      refine g_get (C0 := RX0) (T := TX0) (N := 17) 0 0 1 (.int (σ.1 1)) C hin rfl rfl (by decide) (by decide +kernel) rfl dX0_sumOfRow_6 ?_
      refine g_is (nI nt) hnt ?_
      refine g_icmp_ge 31 C dX0_sumOfRow_9 (by decide) (fun c_9_1 => ?_) (fun c_9_1 => ?_)
      ·
        have d_9_1 : nt ≤ i := (nI_leI (a := nt) (b := i) (by omega) (by omega)).mp c_9_1
        refine g_iload_n 2 C rfl dX0_sumOfRow_31 rfl ?_
        exact g_iret C hr rfl dX0_sumOfRow_32 (Nat.zero_le _) (Nat.zero_le _) rfl (by rw [show nt = i by omega]) rfl
      ·
        have d_9_1 : ¬ nt ≤ i := fun q => c_9_1 ((nI_leI (a := nt) (b := i) (by omega) (by omega)).mpr q)
        refine g_iload_n 2 C rfl dX0_sumOfRow_12 rfl ?_
        refine g_aload_n 0 C rfl dX0_sumOfRow_13 rfl ?_
        refine g_get (C0 := RX0) (T := TX0) (N := 17) 0 0 8 (.ref (h 4)) C hin rfl rfl (by decide) (by decide +kernel) rfl dX0_sumOfRow_14 ?_
        refine g_iload_n 1 C rfl dX0_sumOfRow_17 rfl ?_
        refine g_iload_n 3 C rfl dX0_sumOfRow_18 rfl ?_
        refine g_callS0 (na := 2) (av := [.int (nI (r)), .int (nI (i))]) (c_place l D cI cJ _ r i) C gX0_sumOfRow_X0_place rfl (by decide +kernel) rfl ⟨Nat.le_of_ble_eq_true rfl, Nat.le_of_ble_eq_true rfl⟩ rfl (Nat.le_of_ble_eq_true rfl) ⟨Nat.zero_le _, Nat.zero_le _⟩ rfl dX0_sumOfRow_19 ?_
        refine g_ialdN (cA := cI) (n := 1284) (a := h 4) (f := σ.2 3) (r * 12 + i) 4 0 C rfl rfl (by omega) (by decide) dX0_sumOfRow_22 ?_
        refine g_iadd C dX0_sumOfRow_23 ?_
        refine g_istore_n [(2, .int ((rowS (σ.2 3) r i) + (σ.2 3 (r * 12 + i)))), (0, .ref (h 0)), (1, .int (nI (r))), (3, .int (nI (i)))] C dX0_sumOfRow_24 rfl (by decide) rfl ?_
        refine g_iincN 3 i 1 [(3, .int (nI (i + 1))), (2, .int ((rowS (σ.2 3) r i) + (σ.2 3 (r * 12 + i)))), (0, .ref (h 0)), (1, .int (nI (r)))] C dX0_sumOfRow_25 rfl (by decide) (by decide) rfl ?_
        refine g_goto 4 C dX0_sumOfRow_28 (by decide) ?_
        refine g_lv [2, 3, 1, 0] [(0, .ref (h 0)), (1, .int (nI (r))), (2, .int ((rowS (σ.2 3) r i) + (σ.2 3 (r * 12 + i)))), (3, .int (nI (i + 1)))] rfl ?_
        exact ih_4 (i + 1) (by omega) (by omega)
  refine g_lv [2, 3, 1, 0] [(0, .ref (h 0)), (1, .int (nI (r))), (2, .int (0)), (3, .int (0))] rfl ?_
  exact loop_4 (nt + 1) 0 (by omega) (by omega)
set_option maxRecDepth 100000 in
set_option maxHeartbeats 4000000 in
theorem c_sumOfTube (l : Launch) (D : va_G) (cI cJ : ClassId) (h : Nat → Nat) (σ : gS) (np nt no ni : Nat) (hI : iA σ np nt no ni) (t f n : Nat) (ht : t < 12) (hn : f + n ≤ 107) : MC l yX0_sumOfTube wsX0_sumOfTube 1 21 D (tyIJ cI cJ) [.ref (h 0), .int (nI (t)), .int (nI (f)), .int (nI (f + n))] (wA cI h σ) (wA cI h σ) none (some (.int (tubS (σ.2 3) t f n))) 0 := by
  have hI0 := hI
  obtain ⟨⟨hnp, hnp6⟩, ⟨hnt, hnt12⟩, ⟨hno, hno10⟩, ⟨hni, hni8⟩, hPT, hLC, hLH⟩ := hI
  refine MC.ofG (cc := cX0_sumOfTube) (maxL := 6) (ret := (some .int)) [(0, .ref (h 0)), (1, .int (nI (t))), (2, .int (nI (f))), (3, .int (nI (f + n)))] (by decide) rfl (Nat.le_of_ble_eq_true rfl) rfl ?_
  intro p e s m args below meth c C hr hout
  have hin : ∀ w ∈ wsX00, w ∈ wsX0_sumOfTube := fun w h => by first | exact List.mem_cons_of_mem _ (List.mem_append_right _ h) | exact List.mem_cons_of_mem _ (List.mem_append_left _ (List.mem_append_right _ h)) | exact List.mem_cons_of_mem _ (List.mem_append_left _ (List.mem_append_left _ (List.mem_append_right _ h))) | exact List.mem_cons_of_mem _ (List.mem_append_left _ (List.mem_append_left _ (List.mem_append_left _ (List.mem_append_right _ h)))) | exact List.mem_cons_of_mem _ (List.mem_append_left _ (List.mem_append_left _ (List.mem_append_left _ (List.mem_append_left _ (List.mem_append_right _ h)))))
  refine g_iconst 0 C dX0_sumOfTube_0 (by decide) ?_
  refine g_istore [(4, .int (0)), (0, .ref (h 0)), (1, .int (nI (t))), (2, .int (nI (f))), (3, .int (nI (f + n)))] C dX0_sumOfTube_1 (by decide) rfl ?_
  refine g_iload_n 3 C rfl dX0_sumOfTube_3 rfl ?_
  refine g_istore [(5, .int (nI (f))), (4, .int (0)), (0, .ref (h 0)), (1, .int (nI (t))), (2, .int (nI (f))), (3, .int (nI (f + n)))] C dX0_sumOfTube_4 (by decide) rfl ?_
  have loop_6 : ∀ (fu : Nat) (i : Nat), i ≤ n → n + 1 ≤ i + fu → G p l e ({ frames := 1, cells := 0, slots := 6 * 0, locals := 21 } : Room) s m args below meth c D (va_A (wA cI h σ) s.heap.size) 6 0 0 (gQ below D (wA cI h σ) (wA cI h σ) none (some (.int (tubS (σ.2 3) t f n))) 0 args s) (wA cI h σ) [(0, .ref (h 0)), (1, .int (nI (t))), (2, .int (nI (f))), (3, .int (nI (f + n))), (4, .int (tubS (σ.2 3) t f i)), (5, .int (nI (f + i)))] 6 [] := by
    intro fu
    induction fu with
    | zero => intro i hi hf; exact absurd True.intro (by omega)
    | succ fu ih_6 =>
      intro i hi hf
      refine g_iload 5 C rfl dX0_sumOfTube_6 ?_
      refine g_iload_n 3 C rfl dX0_sumOfTube_8 rfl ?_
      refine g_icmp_ge 34 C dX0_sumOfTube_9 (by decide) (fun c_9_1 => ?_) (fun c_9_1 => ?_)
      ·
        have d_9_1 : (f + n) ≤ (f + i) := (nI_leI (a := (f + n)) (b := (f + i)) (by omega) (by omega)).mp c_9_1
        refine g_iload 4 C rfl dX0_sumOfTube_34 ?_
        exact g_iret C hr rfl dX0_sumOfTube_36 (Nat.zero_le _) (Nat.zero_le _) rfl (by rw [show n = i by omega]) rfl
      ·
        have d_9_1 : ¬ (f + n) ≤ (f + i) := fun q => c_9_1 ((nI_leI (a := (f + n)) (b := (f + i)) (by omega) (by omega)).mpr q)
        refine g_iload 4 C rfl dX0_sumOfTube_12 ?_
        refine g_aload_n 0 C rfl dX0_sumOfTube_14 rfl ?_
        refine g_get (C0 := RX0) (T := TX0) (N := 17) 0 0 8 (.ref (h 4)) C hin rfl rfl (by decide) (by decide +kernel) rfl dX0_sumOfTube_15 ?_
        refine g_iload 5 C rfl dX0_sumOfTube_18 ?_
        refine g_iload_n 1 C rfl dX0_sumOfTube_20 rfl ?_
        refine g_callS0 (na := 2) (av := [.int (nI (f + i)), .int (nI (t))]) (c_place l D cI cJ _ (f + i) t) C gX0_sumOfTube_X0_place rfl (by decide +kernel) rfl ⟨Nat.le_of_ble_eq_true rfl, Nat.le_of_ble_eq_true rfl⟩ rfl (Nat.le_of_ble_eq_true rfl) ⟨Nat.zero_le _, Nat.zero_le _⟩ rfl dX0_sumOfTube_21 ?_
        refine g_ialdN (cA := cI) (n := 1284) (a := h 4) (f := σ.2 3) ((f + i) * 12 + t) 4 0 C rfl rfl (by omega) (by decide) dX0_sumOfTube_24 ?_
        refine g_iadd C dX0_sumOfTube_25 ?_
        refine g_istore [(4, .int ((tubS (σ.2 3) t f i) + (σ.2 3 ((f + i) * 12 + t)))), (0, .ref (h 0)), (1, .int (nI (t))), (2, .int (nI (f))), (3, .int (nI (f + n))), (5, .int (nI (f + i)))] C dX0_sumOfTube_26 (by decide) rfl ?_
        refine g_iincN 5 (f + i) 1 [(5, .int (nI ((f + i) + 1))), (4, .int ((tubS (σ.2 3) t f i) + (σ.2 3 ((f + i) * 12 + t)))), (0, .ref (h 0)), (1, .int (nI (t))), (2, .int (nI (f))), (3, .int (nI (f + n)))] C dX0_sumOfTube_28 rfl (by decide) (by decide) rfl ?_
        refine g_goto 6 C dX0_sumOfTube_31 (by decide) ?_
        refine g_lv [2, 3, 4, 5, 1, 0] [(0, .ref (h 0)), (1, .int (nI (t))), (2, .int (nI (f))), (3, .int (nI (f + n))), (4, .int ((tubS (σ.2 3) t f i) + (σ.2 3 ((f + i) * 12 + t)))), (5, .int (nI ((f + i) + 1)))] rfl ?_
        exact ih_6 (i + 1) (by omega) (by omega)
  refine g_lv [2, 3, 4, 5, 1, 0] [(0, .ref (h 0)), (1, .int (nI (t))), (2, .int (nI (f))), (3, .int (nI (f + n))), (4, .int (0)), (5, .int (nI (f)))] rfl ?_
  exact loop_6 (n + 1) 0 (by omega) (by omega)
set_option maxRecDepth 100000 in
set_option maxHeartbeats 4000000 in
theorem c_colourOfTube (l : Launch) (D : va_G) (cI cJ : ClassId) (h : Nat → Nat) (σ : gS) (np nt no ni : Nat) (hI : iA σ np nt no ni) (t ch : Nat) (ht : t < 12) (hc : ch < 3) : MC l yX0_colourOfTube wsX0_colourOfTube 0 0 D (tyIJ cI cJ) [.ref (h 0), .int (nI (t)), .int (nI (ch))] (wA cI h σ) (wA cI h σ) none (some (.int (colT σ t ch))) 0 := by
  have hI0 := hI
  obtain ⟨⟨hnp, hnp6⟩, ⟨hnt, hnt12⟩, ⟨hno, hno10⟩, ⟨hni, hni8⟩, hPT, hLC, hLH⟩ := hI
  refine MC.ofG (cc := cX0_colourOfTube) (maxL := 3) (ret := (some .int)) [(0, .ref (h 0)), (1, .int (nI (t))), (2, .int (nI (ch)))] (by decide) rfl (Nat.le_of_ble_eq_true rfl) rfl ?_
  intro p e s m args below meth c C hr hout
  have hin : ∀ w ∈ wsX00, w ∈ wsX0_colourOfTube := fun w h => by first | exact List.mem_cons_of_mem _ (List.mem_append_right _ h) | exact List.mem_cons_of_mem _ (List.mem_append_left _ (List.mem_append_right _ h)) | exact List.mem_cons_of_mem _ (List.mem_append_left _ (List.mem_append_left _ (List.mem_append_right _ h))) | exact List.mem_cons_of_mem _ (List.mem_append_left _ (List.mem_append_left _ (List.mem_append_left _ (List.mem_append_right _ h)))) | exact List.mem_cons_of_mem _ (List.mem_append_left _ (List.mem_append_left _ (List.mem_append_left _ (List.mem_append_left _ (List.mem_append_right _ h)))))
  refine g_aload_n 0 C rfl dX0_colourOfTube_0 rfl ?_
  refine g_get (C0 := RX0) (T := TX0) (N := 17) 0 0 5 (.ref (h 1)) C hin rfl rfl (by decide) (by decide +kernel) rfl dX0_colourOfTube_1 ?_
  refine g_aload_n 0 C rfl dX0_colourOfTube_4 rfl ?_
  refine g_get (C0 := RX0) (T := TX0) (N := 17) 0 0 6 (.ref (h 2)) C hin rfl rfl (by decide) (by decide +kernel) rfl dX0_colourOfTube_5 ?_
  refine g_iload_n 1 C rfl dX0_colourOfTube_8 rfl ?_
  refine g_ialdN (cA := cI) (n := 12) (a := h 2) (f := σ.2 1) t 2 0 C rfl rfl (by omega) (by decide) dX0_colourOfTube_9 ?_
  obtain ⟨j, hj, ej⟩ := hPT t
  refine g_is (nI j) ej ?_
  refine g_iconst 3 C dX0_colourOfTube_10 (by decide) ?_
  refine g_imulN j 3 C dX0_colourOfTube_11 ?_
  refine g_iload_n 2 C rfl dX0_colourOfTube_12 rfl ?_
  refine g_iaddN (j * 3) ch C dX0_colourOfTube_13 ?_
  refine g_ialdN (cA := cI) (n := 18) (a := h 1) (f := σ.2 0) ((j * 3) + ch) 1 0 C rfl rfl (by omega) (by decide) dX0_colourOfTube_14 ?_
  exact g_iret C hr rfl dX0_colourOfTube_15 (Nat.zero_le _) (Nat.zero_le _) rfl (by rw [colT, ej, cl_nI (by omega)]) rfl
set_option maxRecDepth 100000 in
set_option maxHeartbeats 4000000 in
theorem c_move_no (l : Launch) (D : va_G) (cI cJ : ClassId) (h : Nat → Nat) (σ : gS) (np nt no ni : Nat) (hI : iA σ np nt no ni) (f t : Nat) (g : Int32) (hf1 : f < 107) (ht1 : t < 107) (hlt : rowS (σ.2 3) f nt < g) : MC l yX0_move wsX0_move 2 44 D (tyIJ cI cJ) [.ref (h 0), .int (nI (f)), .int (nI (t)), .int (g)] (wA cI h σ) (wA cI h σ) none (some (.int 0)) 0 := by
  have hI0 := hI
  obtain ⟨⟨hnp, hnp6⟩, ⟨hnt, hnt12⟩, ⟨hno, hno10⟩, ⟨hni, hni8⟩, hPT, hLC, hLH⟩ := hI
  refine MC.ofG (cc := cX0_move) (maxL := 9) (ret := (some .boolean)) [(0, .ref (h 0)), (1, .int (nI (f))), (2, .int (nI (t))), (3, .int (g))] (by decide) rfl (Nat.le_of_ble_eq_true rfl) rfl ?_
  intro p e s m args below meth c C hr hout
  have hin : ∀ w ∈ wsX00, w ∈ wsX0_move := fun w h => by first | exact List.mem_cons_of_mem _ (List.mem_append_right _ h) | exact List.mem_cons_of_mem _ (List.mem_append_left _ (List.mem_append_right _ h)) | exact List.mem_cons_of_mem _ (List.mem_append_left _ (List.mem_append_left _ (List.mem_append_right _ h))) | exact List.mem_cons_of_mem _ (List.mem_append_left _ (List.mem_append_left _ (List.mem_append_left _ (List.mem_append_right _ h)))) | exact List.mem_cons_of_mem _ (List.mem_append_left _ (List.mem_append_left _ (List.mem_append_left _ (List.mem_append_left _ (List.mem_append_right _ h)))))
  refine g_aload_n 0 C rfl dX0_move_0 rfl ?_
  refine g_iload_n 1 C rfl dX0_move_1 rfl ?_
  refine g_callV0 (C0 := RX0) (T := TX0) (N := 17) (ci := 0) (na := 1) (As := [.int (nI (f))]) (c_sumOfRow l D cI cJ h σ np nt no ni hI0 f (by omega)) C gX0_move_X0_sumOfRow rfl (by decide +kernel) rfl ⟨Nat.le_of_ble_eq_true rfl, Nat.le_of_ble_eq_true rfl⟩ rfl rfl rfl (Nat.le_of_ble_eq_true rfl) ⟨Nat.zero_le _, Nat.zero_le _⟩ rfl dX0_move_2 ?_
  refine g_istore [(4, .int (rowS (σ.2 3) f nt)), (0, .ref (h 0)), (1, .int (nI (f))), (2, .int (nI (t))), (3, .int (g))] C dX0_move_5 (by decide) rfl ?_
  refine g_iload 0 C rfl dX0_move_7 ?_
  refine g_iconst 1 C dX0_move_9 (by decide) ?_
  refine g_icmp_lt 19 C dX0_move_10 (by decide) (fun c_10_1 => ?_) (fun c_10_1 => ?_)
  ·
    refine g_iconst 0 C dX0_move_19 (by decide) ?_
    exact g_iret C hr rfl dX0_move_20 (Nat.zero_le _) (Nat.zero_le _) rfl rfl rfl
  ·
    refine g_iload 0 C rfl dX0_move_13 ?_
    refine g_iload_n 4 C rfl dX0_move_15 rfl ?_
    refine g_icmp_ge 21 C dX0_move_16 (by decide) (fun q => absurd q (i32_nle hlt)) (fun _ => ?_)
    refine g_iconst 0 C dX0_move_19 (by decide) ?_
    exact g_iret C hr rfl dX0_move_20 (Nat.zero_le _) (Nat.zero_le _) rfl rfl rfl
set_option maxRecDepth 100000 in
set_option maxHeartbeats 4000000 in
theorem c_move_ok (l : Launch) (D : va_G) (cI cJ : ClassId) (h : Nat → Nat) (σ : gS) (np nt no ni : Nat) (hI : iA σ np nt no ni) (f t : Nat) (g : Int32) (hf1 : f < 107) (ht1 : t < 107) (hg : 1 ≤ g) (hge : ¬ rowS (σ.2 3) f nt < g) : MC l yX0_move wsX0_move 2 44 D (tyIJ cI cJ) [.ref (h 0), .int (nI (f)), .int (nI (t)), .int (g)] (wA cI h σ) (wA cI h (sA σ 3 (mvL (σ.2 3) f t (flw (σ.2 3) f g (rowS (σ.2 3) f nt)) nt))) none (some (.int 1)) 0 := by
  have hI0 := hI
  obtain ⟨⟨hnp, hnp6⟩, ⟨hnt, hnt12⟩, ⟨hno, hno10⟩, ⟨hni, hni8⟩, hPT, hLC, hLH⟩ := hI
  refine MC.ofG (cc := cX0_move) (maxL := 9) (ret := (some .boolean)) [(0, .ref (h 0)), (1, .int (nI (f))), (2, .int (nI (t))), (3, .int (g))] (by decide) rfl (Nat.le_of_ble_eq_true rfl) rfl ?_
  intro p e s m args below meth c C hr hout
  have hin : ∀ w ∈ wsX00, w ∈ wsX0_move := fun w h => by first | exact List.mem_cons_of_mem _ (List.mem_append_right _ h) | exact List.mem_cons_of_mem _ (List.mem_append_left _ (List.mem_append_right _ h)) | exact List.mem_cons_of_mem _ (List.mem_append_left _ (List.mem_append_left _ (List.mem_append_right _ h))) | exact List.mem_cons_of_mem _ (List.mem_append_left _ (List.mem_append_left _ (List.mem_append_left _ (List.mem_append_right _ h)))) | exact List.mem_cons_of_mem _ (List.mem_append_left _ (List.mem_append_left _ (List.mem_append_left _ (List.mem_append_left _ (List.mem_append_right _ h)))))
  refine g_aload_n 0 C rfl dX0_move_0 rfl ?_
  refine g_iload_n 1 C rfl dX0_move_1 rfl ?_
  refine g_callV0 (C0 := RX0) (T := TX0) (N := 17) (ci := 0) (na := 1) (As := [.int (nI (f))]) (c_sumOfRow l D cI cJ h σ np nt no ni hI0 f (by omega)) C gX0_move_X0_sumOfRow rfl (by decide +kernel) rfl ⟨Nat.le_of_ble_eq_true rfl, Nat.le_of_ble_eq_true rfl⟩ rfl rfl rfl (Nat.le_of_ble_eq_true rfl) ⟨Nat.zero_le _, Nat.zero_le _⟩ rfl dX0_move_2 ?_
  refine g_istore [(4, .int (rowS (σ.2 3) f nt)), (0, .ref (h 0)), (1, .int (nI (f))), (2, .int (nI (t))), (3, .int (g))] C dX0_move_5 (by decide) rfl ?_
  refine g_iload 0 C rfl dX0_move_7 ?_
  refine g_iconst 1 C dX0_move_9 (by decide) ?_
  refine g_icmp_lt 19 C dX0_move_10 (by decide) (fun q => absurd q (i32_n1 hg hge)) (fun _ => ?_)
  refine g_iload 0 C rfl dX0_move_13 ?_
  refine g_iload_n 4 C rfl dX0_move_15 rfl ?_
  refine g_icmp_ge 21 C dX0_move_16 (by decide) (fun _ => ?_) (fun q => absurd (i32_ge hge) q)
  refine g_iconst 0 C dX0_move_21 (by decide) ?_
  refine g_istore [(5, .int (0)), (4, .int (rowS (σ.2 3) f nt)), (0, .ref (h 0)), (1, .int (nI (f))), (2, .int (nI (t))), (3, .int (g))] C dX0_move_22 (by decide) rfl ?_
  refine g_iconst 0 C dX0_move_24 (by decide) ?_
  refine g_istore [(6, .int (0)), (5, .int (0)), (4, .int (rowS (σ.2 3) f nt)), (0, .ref (h 0)), (1, .int (nI (f))), (2, .int (nI (t))), (3, .int (g))] C dX0_move_25 (by decide) rfl ?_
  have loop_27 : ∀ (fu : Nat) (i : Nat), i ≤ nt → nt + 1 ≤ i + fu → G p l e ({ frames := 2, cells := 0, slots := 6 * 0, locals := 44 } : Room) s m args below meth c D (va_A (wA cI h σ) s.heap.size) 9 0 0 (gQ below D (wA cI h σ) (wA cI h (sA σ 3 (mvL (σ.2 3) f t (flw (σ.2 3) f g (rowS (σ.2 3) f nt)) nt))) none (some (.int 1)) 0 args s) (wA cI h (sA σ 3 (mvL (σ.2 3) f t (flw (σ.2 3) f g (rowS (σ.2 3) f nt)) i))) [(0, .ref (h 0)), (1, .int (nI (f))), (2, .int (nI (t))), (3, .int (g)), (4, .int (rowS (σ.2 3) f nt)), (5, .int (rowS (σ.2 3) f i)), (6, .int (nI (i)))] 27 [] := by
    intro fu
    induction fu with
    | zero => intro i hi hf; exact absurd True.intro (by omega)
    | succ fu ih_27 =>
      intro i hi hf
      refine g_iload 6 C rfl dX0_move_27 ?_
      refine g_aload_n 0 C rfl dX0_move_29 rfl ?_
      refine g_get (C0 := RX0) (T := TX0) (N := 17) 0 0 1 (.int (σ.1 1)) C hin rfl rfl (by decide) (by decide +kernel) rfl dX0_move_30 ?_
      refine g_is (nI nt) hnt ?_
      refine g_icmp_ge 114 C dX0_move_33 (by decide) (fun c_33_1 => ?_) (fun c_33_1 => ?_)
      ·
        have d_33_1 : nt ≤ i := (nI_leI (a := nt) (b := i) (by omega) (by omega)).mp c_33_1
        refine g_iconst 1 C dX0_move_114 (by decide) ?_
        exact g_iret C hr rfl dX0_move_115 (Nat.zero_le _) (Nat.zero_le _) rfl rfl (by rw [show nt = i by omega])
      ·
        have d_33_1 : ¬ nt ≤ i := fun q => c_33_1 ((nI_leI (a := nt) (b := i) (by omega) (by omega)).mpr q)
        refine g_aload_n 0 C rfl dX0_move_36 rfl ?_
        refine g_get (C0 := RX0) (T := TX0) (N := 17) 0 0 8 (.ref (h 4)) C hin rfl rfl (by decide) (by decide +kernel) rfl dX0_move_37 ?_
        refine g_iload_n 1 C rfl dX0_move_40 rfl ?_
        refine g_iload 6 C rfl dX0_move_41 ?_
        refine g_callS0 (na := 2) (av := [.int (nI (f)), .int (nI (i))]) (c_place l D cI cJ _ f i) C gX0_move_X0_place rfl (by decide +kernel) rfl ⟨Nat.le_of_ble_eq_true rfl, Nat.le_of_ble_eq_true rfl⟩ rfl (Nat.le_of_ble_eq_true rfl) ⟨Nat.zero_le _, Nat.zero_le _⟩ rfl dX0_move_43 ?_
        refine g_ialdN (cA := cI) (n := 1284) (a := h 4) (f := mvL (σ.2 3) f t (flw (σ.2 3) f g (rowS (σ.2 3) f nt)) i) (f * 12 + i) 4 0 C rfl rfl (by omega) (by decide) dX0_move_46 ?_
        refine g_is ((σ.2 3 (f * 12 + i))) (mvL_at _ f t _ i i (Nat.le_refl i) (by omega)) ?_
        refine g_istore [(7, .int (σ.2 3 (f * 12 + i))), (0, .ref (h 0)), (1, .int (nI (f))), (2, .int (nI (t))), (3, .int (g)), (4, .int (rowS (σ.2 3) f nt)), (5, .int (rowS (σ.2 3) f i)), (6, .int (nI (i)))] C dX0_move_47 (by decide) rfl ?_
        refine g_iload 6 C rfl dX0_move_49 ?_
        refine g_iload 0 C rfl dX0_move_51 ?_
        refine g_iadd C dX0_move_53 ?_
        refine g_iload_n 4 C rfl dX0_move_54 rfl ?_
        refine g_imul C dX0_move_55 ?_
        refine g_iload 5 C rfl dX0_move_56 ?_
        refine g_idiv C (i32_n0 hg hge) dX0_move_58 ?_
        refine g_iload 6 C rfl dX0_move_59 ?_
        refine g_iload_n 4 C rfl dX0_move_61 rfl ?_
        refine g_imul C dX0_move_62 ?_
        refine g_iload 5 C rfl dX0_move_63 ?_
        refine g_idiv C (i32_n0 hg hge) dX0_move_65 ?_
        refine g_isub C dX0_move_66 ?_
        refine g_is ((flw (σ.2 3) f g (rowS (σ.2 3) f nt) i)) rfl ?_
        refine g_istore [(8, .int (flw (σ.2 3) f g (rowS (σ.2 3) f nt) i)), (7, .int (σ.2 3 (f * 12 + i))), (0, .ref (h 0)), (1, .int (nI (f))), (2, .int (nI (t))), (3, .int (g)), (4, .int (rowS (σ.2 3) f nt)), (5, .int (rowS (σ.2 3) f i)), (6, .int (nI (i)))] C dX0_move_67 (by decide) rfl ?_
        refine g_aload_n 2 C rfl dX0_move_69 rfl ?_
        refine g_get (C0 := RX0) (T := TX0) (N := 17) 0 0 8 (.ref (h 4)) C hin rfl rfl (by decide) (by decide +kernel) rfl dX0_move_70 ?_
        refine g_iload_n 3 C rfl dX0_move_73 rfl ?_
        refine g_iload 8 C rfl dX0_move_74 ?_
        refine g_callS0 (na := 2) (av := [.int (nI (f)), .int (nI (i))]) (c_place l D cI cJ _ f i) C gX0_move_X0_place rfl (by decide +kernel) rfl ⟨Nat.le_of_ble_eq_true rfl, Nat.le_of_ble_eq_true rfl⟩ rfl (Nat.le_of_ble_eq_true rfl) ⟨Nat.zero_le _, Nat.zero_le _⟩ rfl dX0_move_76 ?_
        refine g_dup2 C dX0_move_79 rfl rfl ?_
        refine g_ialdN (cA := cI) (n := 1284) (a := h 4) (f := mvL (σ.2 3) f t (flw (σ.2 3) f g (rowS (σ.2 3) f nt)) i) (f * 12 + i) 4 0 C rfl rfl (by omega) (by decide) dX0_move_80 ?_
        refine g_iload 0 C rfl dX0_move_81 ?_
        refine g_isub C dX0_move_83 ?_
        refine g_iastN (cA := cI) (n := 1284) (a := h 4) (f := mvL (σ.2 3) f t (flw (σ.2 3) f g (rowS (σ.2 3) f nt)) i) (x := (((mvL (σ.2 3) f t (flw (σ.2 3) f g (rowS (σ.2 3) f nt)) i) (f * 12 + i)) - (flw (σ.2 3) f g (rowS (σ.2 3) f nt) i))) (f * 12 + i) 4 0 (wA cI h (sA σ 3 (upd (mvL (σ.2 3) f t (flw (σ.2 3) f g (rowS (σ.2 3) f nt)) i) (f * 12 + i) ((((mvL (σ.2 3) f t (flw (σ.2 3) f g (rowS (σ.2 3) f nt)) i) (f * 12 + i)) - (flw (σ.2 3) f g (rowS (σ.2 3) f nt) i)))))) C rfl rfl (by omega) (by decide) rfl dX0_move_84 ?_
        refine g_aload_n 2 C rfl dX0_move_85 rfl ?_
        refine g_get (C0 := RX0) (T := TX0) (N := 17) 0 0 8 (.ref (h 4)) C hin rfl rfl (by decide) (by decide +kernel) rfl dX0_move_86 ?_
        refine g_iload_n 4 C rfl dX0_move_89 rfl ?_
        refine g_iload 8 C rfl dX0_move_90 ?_
        refine g_callS0 (na := 2) (av := [.int (nI (t)), .int (nI (i))]) (c_place l D cI cJ _ t i) C gX0_move_X0_place rfl (by decide +kernel) rfl ⟨Nat.le_of_ble_eq_true rfl, Nat.le_of_ble_eq_true rfl⟩ rfl (Nat.le_of_ble_eq_true rfl) ⟨Nat.zero_le _, Nat.zero_le _⟩ rfl dX0_move_92 ?_
        refine g_dup2 C dX0_move_95 rfl rfl ?_
        refine g_ialdN (cA := cI) (n := 1284) (a := h 4) (f := upd (mvL (σ.2 3) f t (flw (σ.2 3) f g (rowS (σ.2 3) f nt)) i) (f * 12 + i) ((((mvL (σ.2 3) f t (flw (σ.2 3) f g (rowS (σ.2 3) f nt)) i) (f * 12 + i)) - (flw (σ.2 3) f g (rowS (σ.2 3) f nt) i)))) (t * 12 + i) 4 0 C rfl rfl (by omega) (by decide) dX0_move_96 ?_
        refine g_iload 0 C rfl dX0_move_97 ?_
        refine g_iadd C dX0_move_99 ?_
        refine g_iastN (cA := cI) (n := 1284) (a := h 4) (f := upd (mvL (σ.2 3) f t (flw (σ.2 3) f g (rowS (σ.2 3) f nt)) i) (f * 12 + i) ((((mvL (σ.2 3) f t (flw (σ.2 3) f g (rowS (σ.2 3) f nt)) i) (f * 12 + i)) - (flw (σ.2 3) f g (rowS (σ.2 3) f nt) i)))) (x := (((upd (mvL (σ.2 3) f t (flw (σ.2 3) f g (rowS (σ.2 3) f nt)) i) (f * 12 + i) ((((mvL (σ.2 3) f t (flw (σ.2 3) f g (rowS (σ.2 3) f nt)) i) (f * 12 + i)) - (flw (σ.2 3) f g (rowS (σ.2 3) f nt) i)))) (t * 12 + i)) + (flw (σ.2 3) f g (rowS (σ.2 3) f nt) i))) (t * 12 + i) 4 0 (wA cI h (sA σ 3 (upd (upd (mvL (σ.2 3) f t (flw (σ.2 3) f g (rowS (σ.2 3) f nt)) i) (f * 12 + i) ((((mvL (σ.2 3) f t (flw (σ.2 3) f g (rowS (σ.2 3) f nt)) i) (f * 12 + i)) - (flw (σ.2 3) f g (rowS (σ.2 3) f nt) i)))) (t * 12 + i) ((((upd (mvL (σ.2 3) f t (flw (σ.2 3) f g (rowS (σ.2 3) f nt)) i) (f * 12 + i) ((((mvL (σ.2 3) f t (flw (σ.2 3) f g (rowS (σ.2 3) f nt)) i) (f * 12 + i)) - (flw (σ.2 3) f g (rowS (σ.2 3) f nt) i)))) (t * 12 + i)) + (flw (σ.2 3) f g (rowS (σ.2 3) f nt) i)))))) C rfl rfl (by omega) (by decide) rfl dX0_move_100 ?_
        refine g_iload 7 C rfl dX0_move_101 ?_
        refine g_iload 1 C rfl dX0_move_103 ?_
        refine g_iadd C dX0_move_105 ?_
        refine g_istore [(5, .int ((rowS (σ.2 3) f i) + (σ.2 3 (f * 12 + i)))), (8, .int (flw (σ.2 3) f g (rowS (σ.2 3) f nt) i)), (7, .int (σ.2 3 (f * 12 + i))), (0, .ref (h 0)), (1, .int (nI (f))), (2, .int (nI (t))), (3, .int (g)), (4, .int (rowS (σ.2 3) f nt)), (6, .int (nI (i)))] C dX0_move_106 (by decide) rfl ?_
        refine g_iincN 8 i 1 [(6, .int (nI (i + 1))), (5, .int ((rowS (σ.2 3) f i) + (σ.2 3 (f * 12 + i)))), (8, .int (flw (σ.2 3) f g (rowS (σ.2 3) f nt) i)), (7, .int (σ.2 3 (f * 12 + i))), (0, .ref (h 0)), (1, .int (nI (f))), (2, .int (nI (t))), (3, .int (g)), (4, .int (rowS (σ.2 3) f nt))] C dX0_move_108 rfl (by decide) (by decide) rfl ?_
        refine g_goto 27 C dX0_move_111 (by decide) ?_
        refine g_lv [4, 5, 6, 7, 8, 1, 0] [(0, .ref (h 0)), (1, .int (nI (f))), (2, .int (nI (t))), (3, .int (g)), (4, .int (rowS (σ.2 3) f nt)), (5, .int ((rowS (σ.2 3) f i) + (σ.2 3 (f * 12 + i)))), (6, .int (nI (i + 1)))] rfl ?_
        exact ih_27 (i + 1) (by omega) (by omega)
  refine g_lv [3, 4, 5, 6, 2, 1, 0] [(0, .ref (h 0)), (1, .int (nI (f))), (2, .int (nI (t))), (3, .int (g)), (4, .int (rowS (σ.2 3) f nt)), (5, .int (0)), (6, .int (0))] rfl ?_
  exact loop_27 (nt + 1) 0 (by omega) (by omega)
set_option maxRecDepth 100000 in
set_option maxHeartbeats 4000000 in
theorem c_waste (l : Launch) (D : va_G) (cI cJ : ClassId) (h : Nat → Nat) (σ : gS) (np nt no ni : Nat) (hI : iA σ np nt no ni) (r : Nat) (hr1 : r < 106) : MC l yX0_waste wsX0_waste 1 21 D (tyIJ cI cJ) [.ref (h 0), .int (nI (r))] (wA cI h σ) (wA cI h (sA σ 3 (wzL (σ.2 3) r nt))) none (some (.int (rowS (σ.2 3) r nt))) 0 := by
  have hI0 := hI
  obtain ⟨⟨hnp, hnp6⟩, ⟨hnt, hnt12⟩, ⟨hno, hno10⟩, ⟨hni, hni8⟩, hPT, hLC, hLH⟩ := hI
  refine MC.ofG (cc := cX0_waste) (maxL := 5) (ret := (some .int)) [(0, .ref (h 0)), (1, .int (nI (r)))] (by decide) rfl (Nat.le_of_ble_eq_true rfl) rfl ?_
  intro p e s m args below meth c C hr hout
  have hin : ∀ w ∈ wsX00, w ∈ wsX0_waste := fun w h => by first | exact List.mem_cons_of_mem _ (List.mem_append_right _ h) | exact List.mem_cons_of_mem _ (List.mem_append_left _ (List.mem_append_right _ h)) | exact List.mem_cons_of_mem _ (List.mem_append_left _ (List.mem_append_left _ (List.mem_append_right _ h))) | exact List.mem_cons_of_mem _ (List.mem_append_left _ (List.mem_append_left _ (List.mem_append_left _ (List.mem_append_right _ h)))) | exact List.mem_cons_of_mem _ (List.mem_append_left _ (List.mem_append_left _ (List.mem_append_left _ (List.mem_append_left _ (List.mem_append_right _ h)))))
  refine g_iconst 0 C dX0_waste_0 (by decide) ?_
  refine g_istore_n [(2, .int (0)), (0, .ref (h 0)), (1, .int (nI (r)))] C dX0_waste_1 rfl (by decide) rfl ?_
  refine g_iconst 0 C dX0_waste_2 (by decide) ?_
  refine g_istore_n [(3, .int (0)), (2, .int (0)), (0, .ref (h 0)), (1, .int (nI (r)))] C dX0_waste_3 rfl (by decide) rfl ?_
  have loop_4 : ∀ (fu : Nat) (i : Nat), i ≤ nt → nt + 1 ≤ i + fu → G p l e ({ frames := 1, cells := 0, slots := 6 * 0, locals := 21 } : Room) s m args below meth c D (va_A (wA cI h σ) s.heap.size) 5 0 0 (gQ below D (wA cI h σ) (wA cI h (sA σ 3 (wzL (σ.2 3) r nt))) none (some (.int (rowS (σ.2 3) r nt))) 0 args s) (wA cI h (sA σ 3 (wzL (σ.2 3) r i))) [(0, .ref (h 0)), (1, .int (nI (r))), (2, .int (rowS (σ.2 3) r i)), (3, .int (nI (i)))] 4 [] := by
    intro fu
    induction fu with
    | zero => intro i hi hf; exact absurd True.intro (by omega)
    | succ fu ih_4 =>
      intro i hi hf
      refine g_iload_n 3 C rfl dX0_waste_4 rfl ?_
      refine g_aload_n 0 C rfl dX0_waste_5 rfl ?_
      refine g_get (C0 := RX0) (T := TX0) (N := 17) 0 0 1 (.int (σ.1 1)) C hin rfl rfl (by decide) (by decide +kernel) rfl dX0_waste_6 ?_
      refine g_is (nI nt) hnt ?_
      refine g_icmp_ge 62 C dX0_waste_9 (by decide) (fun c_9_1 => ?_) (fun c_9_1 => ?_)
      ·
        have d_9_1 : nt ≤ i := (nI_leI (a := nt) (b := i) (by omega) (by omega)).mp c_9_1
        refine g_iload_n 2 C rfl dX0_waste_62 rfl ?_
        exact g_iret C hr rfl dX0_waste_63 (Nat.zero_le _) (Nat.zero_le _) rfl (by rw [show nt = i by omega]) (by rw [show nt = i by omega])
      ·
        have d_9_1 : ¬ nt ≤ i := fun q => c_9_1 ((nI_leI (a := nt) (b := i) (by omega) (by omega)).mpr q)
        refine g_aload_n 0 C rfl dX0_waste_12 rfl ?_
        refine g_get (C0 := RX0) (T := TX0) (N := 17) 0 0 8 (.ref (h 4)) C hin rfl rfl (by decide) (by decide +kernel) rfl dX0_waste_13 ?_
        refine g_iload_n 1 C rfl dX0_waste_16 rfl ?_
        refine g_iload_n 3 C rfl dX0_waste_17 rfl ?_
        refine g_callS0 (na := 2) (av := [.int (nI (r)), .int (nI (i))]) (c_place l D cI cJ _ r i) C gX0_waste_X0_place rfl (by decide +kernel) rfl ⟨Nat.le_of_ble_eq_true rfl, Nat.le_of_ble_eq_true rfl⟩ rfl (Nat.le_of_ble_eq_true rfl) ⟨Nat.zero_le _, Nat.zero_le _⟩ rfl dX0_waste_18 ?_
        refine g_ialdN (cA := cI) (n := 1284) (a := h 4) (f := wzL (σ.2 3) r i) (r * 12 + i) 4 0 C rfl rfl (by omega) (by decide) dX0_waste_21 ?_
        refine g_is ((σ.2 3 (r * 12 + i))) (wzL_at _ r i i (Nat.le_refl i) (by omega) hr1) ?_
        refine g_istore [(4, .int (σ.2 3 (r * 12 + i))), (0, .ref (h 0)), (1, .int (nI (r))), (2, .int (rowS (σ.2 3) r i)), (3, .int (nI (i)))] C dX0_waste_22 (by decide) rfl ?_
        refine g_aload_n 1 C rfl dX0_waste_24 rfl ?_
        refine g_get (C0 := RX0) (T := TX0) (N := 17) 0 0 8 (.ref (h 4)) C hin rfl rfl (by decide) (by decide +kernel) rfl dX0_waste_25 ?_
        refine g_iload_n 2 C rfl dX0_waste_28 rfl ?_
        refine g_iload_n 4 C rfl dX0_waste_29 rfl ?_
        refine g_callS0 (na := 2) (av := [.int (nI (r)), .int (nI (i))]) (c_place l D cI cJ _ r i) C gX0_waste_X0_place rfl (by decide +kernel) rfl ⟨Nat.le_of_ble_eq_true rfl, Nat.le_of_ble_eq_true rfl⟩ rfl (Nat.le_of_ble_eq_true rfl) ⟨Nat.zero_le _, Nat.zero_le _⟩ rfl dX0_waste_30 ?_
        refine g_iconst 0 C dX0_waste_33 (by decide) ?_
        refine g_iastN (cA := cI) (n := 1284) (a := h 4) (f := wzL (σ.2 3) r i) (x := 0) (r * 12 + i) 4 0 (wA cI h (sA σ 3 (upd (wzL (σ.2 3) r i) (r * 12 + i) (0)))) C rfl rfl (by omega) (by decide) rfl dX0_waste_34 ?_
        refine g_aload_n 1 C rfl dX0_waste_35 rfl ?_
        refine g_get (C0 := RX0) (T := TX0) (N := 17) 0 0 8 (.ref (h 4)) C hin rfl rfl (by decide) (by decide +kernel) rfl dX0_waste_36 ?_
        refine g_bipush 106 C dX0_waste_39 (by decide) ?_
        refine g_iload_n 4 C rfl dX0_waste_41 rfl ?_
        refine g_callS0 (na := 2) (av := [.int (106), .int (nI (i))]) (c_place l D cI cJ _ 106 i) C gX0_waste_X0_place rfl (by decide +kernel) rfl ⟨Nat.le_of_ble_eq_true rfl, Nat.le_of_ble_eq_true rfl⟩ rfl (Nat.le_of_ble_eq_true rfl) ⟨Nat.zero_le _, Nat.zero_le _⟩ rfl dX0_waste_42 ?_
        refine g_dup2 C dX0_waste_45 rfl rfl ?_
        refine g_ialdN (cA := cI) (n := 1284) (a := h 4) (f := upd (wzL (σ.2 3) r i) (r * 12 + i) (0)) (106 * 12 + i) 4 0 C rfl rfl (by omega) (by decide) dX0_waste_46 ?_
        refine g_iload 0 C rfl dX0_waste_47 ?_
        refine g_iadd C dX0_waste_49 ?_
        refine g_iastN (cA := cI) (n := 1284) (a := h 4) (f := upd (wzL (σ.2 3) r i) (r * 12 + i) (0)) (x := (((upd (wzL (σ.2 3) r i) (r * 12 + i) (0)) (106 * 12 + i)) + (σ.2 3 (r * 12 + i)))) (106 * 12 + i) 4 0 (wA cI h (sA σ 3 (upd (upd (wzL (σ.2 3) r i) (r * 12 + i) (0)) (106 * 12 + i) ((((upd (wzL (σ.2 3) r i) (r * 12 + i) (0)) (106 * 12 + i)) + (σ.2 3 (r * 12 + i))))))) C rfl rfl (by omega) (by decide) rfl dX0_waste_50 ?_
        refine g_iload_n 3 C rfl dX0_waste_51 rfl ?_
        refine g_iload 0 C rfl dX0_waste_52 ?_
        refine g_iadd C dX0_waste_54 ?_
        refine g_istore_n [(2, .int ((rowS (σ.2 3) r i) + (σ.2 3 (r * 12 + i)))), (4, .int (σ.2 3 (r * 12 + i))), (0, .ref (h 0)), (1, .int (nI (r))), (3, .int (nI (i)))] C dX0_waste_55 rfl (by decide) rfl ?_
        refine g_iincN 4 i 1 [(3, .int (nI (i + 1))), (2, .int ((rowS (σ.2 3) r i) + (σ.2 3 (r * 12 + i)))), (4, .int (σ.2 3 (r * 12 + i))), (0, .ref (h 0)), (1, .int (nI (r)))] C dX0_waste_56 rfl (by decide) (by decide) rfl ?_
        refine g_goto 4 C dX0_waste_59 (by decide) ?_
        refine g_lv [3, 4, 1, 0] [(0, .ref (h 0)), (1, .int (nI (r))), (2, .int ((rowS (σ.2 3) r i) + (σ.2 3 (r * 12 + i)))), (3, .int (nI (i + 1)))] rfl ?_
        exact ih_4 (i + 1) (by omega) (by omega)
  refine g_lv [2, 3, 1, 0] [(0, .ref (h 0)), (1, .int (nI (r))), (2, .int (0)), (3, .int (0))] rfl ?_
  exact loop_4 (nt + 1) 0 (by omega) (by omega)
set_option maxRecDepth 100000 in
set_option maxHeartbeats 4000000 in
theorem c_colourOfRow (l : Launch) (D : va_G) (cI cJ : ClassId) (h : Nat → Nat) (σ : gS) (np nt no ni : Nat) (hI : iA σ np nt no ni) (r ch : Nat) (hr1 : r < 107) (hc : ch < 3) : MC l yX0_colourOfRow wsX0_colourOfRow 1 22 D (tyIJ cI cJ) [.ref (h 0), .int (nI (r)), .int (nI (ch))] (wA cI h σ) (wA cI h σ) none (some (.int (colR σ nt r ch))) 0 := by
  have hI0 := hI
  obtain ⟨⟨hnp, hnp6⟩, ⟨hnt, hnt12⟩, ⟨hno, hno10⟩, ⟨hni, hni8⟩, hPT, hLC, hLH⟩ := hI
  refine MC.ofG (cc := cX0_colourOfRow) (maxL := 7) (ret := (some .int)) [(0, .ref (h 0)), (1, .int (nI (r))), (2, .int (nI (ch)))] (by decide) rfl (Nat.le_of_ble_eq_true rfl) rfl ?_
  intro p e s m args below meth c C hr hout
  have hin : ∀ w ∈ wsX00, w ∈ wsX0_colourOfRow := fun w h => by first | exact List.mem_cons_of_mem _ (List.mem_append_right _ h) | exact List.mem_cons_of_mem _ (List.mem_append_left _ (List.mem_append_right _ h)) | exact List.mem_cons_of_mem _ (List.mem_append_left _ (List.mem_append_left _ (List.mem_append_right _ h))) | exact List.mem_cons_of_mem _ (List.mem_append_left _ (List.mem_append_left _ (List.mem_append_left _ (List.mem_append_right _ h)))) | exact List.mem_cons_of_mem _ (List.mem_append_left _ (List.mem_append_left _ (List.mem_append_left _ (List.mem_append_left _ (List.mem_append_right _ h)))))
  refine g_iconst 0 C dX0_colourOfRow_0 (by decide) ?_
  refine g_istore_n [(3, .int (0)), (0, .ref (h 0)), (1, .int (nI (r))), (2, .int (nI (ch)))] C dX0_colourOfRow_1 rfl (by decide) rfl ?_
  refine g_iconst 0 C dX0_colourOfRow_2 (by decide) ?_
  refine g_istore [(4, .int (0)), (3, .int (0)), (0, .ref (h 0)), (1, .int (nI (r))), (2, .int (nI (ch)))] C dX0_colourOfRow_3 (by decide) rfl ?_
  refine g_iconst 0 C dX0_colourOfRow_5 (by decide) ?_
  refine g_istore [(5, .int (0)), (4, .int (0)), (3, .int (0)), (0, .ref (h 0)), (1, .int (nI (r))), (2, .int (nI (ch)))] C dX0_colourOfRow_6 (by decide) rfl ?_
  have loop_8 : ∀ (fu : Nat) (i : Nat), i ≤ nt → nt + 1 ≤ i + fu → G p l e ({ frames := 1, cells := 0, slots := 6 * 0, locals := 22 } : Room) s m args below meth c D (va_A (wA cI h σ) s.heap.size) 7 0 0 (gQ below D (wA cI h σ) (wA cI h σ) none (some (.int (colR σ nt r ch))) 0 args s) (wA cI h σ) [(0, .ref (h 0)), (1, .int (nI (r))), (2, .int (nI (ch))), (3, .int (rowS (σ.2 3) r i)), (4, .int (isum (fun t => σ.2 3 (r * 12 + t) * colT σ t ch) i)), (5, .int (nI (i)))] 8 [] := by
    intro fu
    induction fu with
    | zero => intro i hi hf; exact absurd True.intro (by omega)
    | succ fu ih_8 =>
      intro i hi hf
      refine g_iload 5 C rfl dX0_colourOfRow_8 ?_
      refine g_aload_n 0 C rfl dX0_colourOfRow_10 rfl ?_
      refine g_get (C0 := RX0) (T := TX0) (N := 17) 0 0 1 (.int (σ.1 1)) C hin rfl rfl (by decide) (by decide +kernel) rfl dX0_colourOfRow_11 ?_
      refine g_is (nI nt) hnt ?_
      refine g_icmp_ge 56 C dX0_colourOfRow_14 (by decide) (fun c_14_1 => ?_) (fun c_14_1 => ?_)
      ·
        have d_14_1 : nt ≤ i := (nI_leI (a := nt) (b := i) (by omega) (by omega)).mp c_14_1
        refine g_iload_n 3 C rfl dX0_colourOfRow_56 rfl ?_
        refine g_if_ne 64 C dX0_colourOfRow_57 (by decide) (fun c_57_2 => ?_) (fun c_57_2 => ?_)
        ·
          have cz := c_57_2
          refine g_iload 4 C rfl dX0_colourOfRow_64 ?_
          refine g_iload_n 3 C rfl dX0_colourOfRow_66 rfl ?_
          refine g_idiv C cz dX0_colourOfRow_67 ?_
          exact g_iret C hr rfl dX0_colourOfRow_68 (Nat.zero_le _) (Nat.zero_le _) rfl (congrArg (fun x => some (Value.int x)) (by have e : nt = i := (by omega); subst e; rw [colR, if_neg cz])) rfl
        ·
          have cz := c_57_2
          refine g_iconst (-1) C dX0_colourOfRow_60 (by decide) ?_
          refine g_goto 68 C dX0_colourOfRow_61 (by decide) ?_
          exact g_iret C hr rfl dX0_colourOfRow_68 (Nat.zero_le _) (Nat.zero_le _) rfl (congrArg (fun x => some (Value.int x)) (by have e : nt = i := (by omega); subst e; rw [colR, if_pos cz])) rfl
      ·
        have d_14_1 : ¬ nt ≤ i := fun q => c_14_1 ((nI_leI (a := nt) (b := i) (by omega) (by omega)).mpr q)
        refine g_aload_n 0 C rfl dX0_colourOfRow_17 rfl ?_
        refine g_get (C0 := RX0) (T := TX0) (N := 17) 0 0 8 (.ref (h 4)) C hin rfl rfl (by decide) (by decide +kernel) rfl dX0_colourOfRow_18 ?_
        refine g_iload_n 1 C rfl dX0_colourOfRow_21 rfl ?_
        refine g_iload 5 C rfl dX0_colourOfRow_22 ?_
        refine g_callS0 (na := 2) (av := [.int (nI (r)), .int (nI (i))]) (c_place l D cI cJ _ r i) C gX0_colourOfRow_X0_place rfl (by decide +kernel) rfl ⟨Nat.le_of_ble_eq_true rfl, Nat.le_of_ble_eq_true rfl⟩ rfl (Nat.le_of_ble_eq_true rfl) ⟨Nat.zero_le _, Nat.zero_le _⟩ rfl dX0_colourOfRow_24 ?_
        refine g_ialdN (cA := cI) (n := 1284) (a := h 4) (f := σ.2 3) (r * 12 + i) 4 0 C rfl rfl (by omega) (by decide) dX0_colourOfRow_27 ?_
        refine g_istore [(6, .int (σ.2 3 (r * 12 + i))), (0, .ref (h 0)), (1, .int (nI (r))), (2, .int (nI (ch))), (3, .int (rowS (σ.2 3) r i)), (4, .int (isum (fun t => σ.2 3 (r * 12 + t) * colT σ t ch) i)), (5, .int (nI (i)))] C dX0_colourOfRow_28 (by decide) rfl ?_
        refine g_iload_n 4 C rfl dX0_colourOfRow_30 rfl ?_
        refine g_iload 0 C rfl dX0_colourOfRow_31 ?_
        refine g_iadd C dX0_colourOfRow_33 ?_
        refine g_istore_n [(3, .int ((rowS (σ.2 3) r i) + (σ.2 3 (r * 12 + i)))), (6, .int (σ.2 3 (r * 12 + i))), (0, .ref (h 0)), (1, .int (nI (r))), (2, .int (nI (ch))), (4, .int (isum (fun t => σ.2 3 (r * 12 + t) * colT σ t ch) i)), (5, .int (nI (i)))] C dX0_colourOfRow_34 rfl (by decide) rfl ?_
        refine g_iload 5 C rfl dX0_colourOfRow_35 ?_
        refine g_iload 1 C rfl dX0_colourOfRow_37 ?_
        refine g_aload_n 2 C rfl dX0_colourOfRow_39 rfl ?_
        refine g_iload 6 C rfl dX0_colourOfRow_40 ?_
        refine g_iload_n 4 C rfl dX0_colourOfRow_42 rfl ?_
        refine g_callV0 (C0 := RX0) (T := TX0) (N := 17) (ci := 0) (na := 2) (As := [.int (nI (i)), .int (nI (ch))]) (c_colourOfTube l D cI cJ h σ np nt no ni hI0 i ch (by omega) (by omega)) C gX0_colourOfRow_X0_colourOfTube rfl (by decide +kernel) rfl ⟨Nat.le_of_ble_eq_true rfl, Nat.le_of_ble_eq_true rfl⟩ rfl rfl rfl (Nat.le_of_ble_eq_true rfl) ⟨Nat.zero_le _, Nat.zero_le _⟩ rfl dX0_colourOfRow_43 ?_
        refine g_imul C dX0_colourOfRow_46 ?_
        refine g_iadd C dX0_colourOfRow_47 ?_
        refine g_istore [(4, .int ((isum (fun t => σ.2 3 (r * 12 + t) * colT σ t ch) i) + ((σ.2 3 (r * 12 + i)) * (colT σ i ch)))), (3, .int ((rowS (σ.2 3) r i) + (σ.2 3 (r * 12 + i)))), (6, .int (σ.2 3 (r * 12 + i))), (0, .ref (h 0)), (1, .int (nI (r))), (2, .int (nI (ch))), (5, .int (nI (i)))] C dX0_colourOfRow_48 (by decide) rfl ?_
        refine g_iincN 6 i 1 [(5, .int (nI (i + 1))), (4, .int ((isum (fun t => σ.2 3 (r * 12 + t) * colT σ t ch) i) + ((σ.2 3 (r * 12 + i)) * (colT σ i ch)))), (3, .int ((rowS (σ.2 3) r i) + (σ.2 3 (r * 12 + i)))), (6, .int (σ.2 3 (r * 12 + i))), (0, .ref (h 0)), (1, .int (nI (r))), (2, .int (nI (ch)))] C dX0_colourOfRow_50 rfl (by decide) (by decide) rfl ?_
        refine g_goto 8 C dX0_colourOfRow_53 (by decide) ?_
        refine g_lv [4, 5, 6, 2, 1, 0] [(0, .ref (h 0)), (1, .int (nI (r))), (2, .int (nI (ch))), (3, .int ((rowS (σ.2 3) r i) + (σ.2 3 (r * 12 + i)))), (4, .int ((isum (fun t => σ.2 3 (r * 12 + t) * colT σ t ch) i) + ((σ.2 3 (r * 12 + i)) * (colT σ i ch)))), (5, .int (nI (i + 1)))] rfl ?_
        exact ih_8 (i + 1) (by omega) (by omega)
  refine g_lv [3, 4, 5, 2, 1, 0] [(0, .ref (h 0)), (1, .int (nI (r))), (2, .int (nI (ch))), (3, .int (0)), (4, .int (0)), (5, .int (0))] rfl ?_
  exact loop_8 (nt + 1) 0 (by omega) (by omega)
set_option maxRecDepth 100000 in
set_option maxHeartbeats 4000000 in
theorem c_gramsOfPigment (l : Launch) (D : va_G) (cI cJ : ClassId) (h : Nat → Nat) (σ : gS) (np nt no ni : Nat) (hI : iA σ np nt no ni) (r : Nat) (k : Int32) (hr1 : r < 107) : MC l yX0_gramsOfPigment wsX0_gramsOfPigment 1 21 D (tyIJ cI cJ) [.ref (h 0), .int (nI (r)), .int (k)] (wA cI h σ) (wA cI h σ) none (some (.int (gopN σ r k nt))) 0 := by
  have hI0 := hI
  obtain ⟨⟨hnp, hnp6⟩, ⟨hnt, hnt12⟩, ⟨hno, hno10⟩, ⟨hni, hni8⟩, hPT, hLC, hLH⟩ := hI
  refine MC.ofG (cc := cX0_gramsOfPigment) (maxL := 5) (ret := (some .int)) [(0, .ref (h 0)), (1, .int (nI (r))), (2, .int (k))] (by decide) rfl (Nat.le_of_ble_eq_true rfl) rfl ?_
  intro p e s m args below meth c C hr hout
  have hin : ∀ w ∈ wsX00, w ∈ wsX0_gramsOfPigment := fun w h => by first | exact List.mem_cons_of_mem _ (List.mem_append_right _ h) | exact List.mem_cons_of_mem _ (List.mem_append_left _ (List.mem_append_right _ h)) | exact List.mem_cons_of_mem _ (List.mem_append_left _ (List.mem_append_left _ (List.mem_append_right _ h))) | exact List.mem_cons_of_mem _ (List.mem_append_left _ (List.mem_append_left _ (List.mem_append_left _ (List.mem_append_right _ h)))) | exact List.mem_cons_of_mem _ (List.mem_append_left _ (List.mem_append_left _ (List.mem_append_left _ (List.mem_append_left _ (List.mem_append_right _ h)))))
  refine g_iconst 0 C dX0_gramsOfPigment_0 (by decide) ?_
  refine g_istore_n [(3, .int (0)), (0, .ref (h 0)), (1, .int (nI (r))), (2, .int (k))] C dX0_gramsOfPigment_1 rfl (by decide) rfl ?_
  refine g_iconst 0 C dX0_gramsOfPigment_2 (by decide) ?_
  refine g_istore [(4, .int (0)), (3, .int (0)), (0, .ref (h 0)), (1, .int (nI (r))), (2, .int (k))] C dX0_gramsOfPigment_3 (by decide) rfl ?_
  have loop_5 : ∀ (fu : Nat) (i : Nat), i ≤ nt → nt + 1 ≤ i + fu → G p l e ({ frames := 1, cells := 0, slots := 6 * 0, locals := 21 } : Room) s m args below meth c D (va_A (wA cI h σ) s.heap.size) 5 0 0 (gQ below D (wA cI h σ) (wA cI h σ) none (some (.int (gopN σ r k nt))) 0 args s) (wA cI h σ) [(0, .ref (h 0)), (1, .int (nI (r))), (2, .int (k)), (3, .int (gopN σ r k i)), (4, .int (nI (i)))] 5 [] := by
    intro fu
    induction fu with
    | zero => intro i hi hf; exact absurd True.intro (by omega)
    | succ fu ih_5 =>
      intro i hi hf
      refine g_iload 4 C rfl dX0_gramsOfPigment_5 ?_
      refine g_aload_n 0 C rfl dX0_gramsOfPigment_7 rfl ?_
      refine g_get (C0 := RX0) (T := TX0) (N := 17) 0 0 1 (.int (σ.1 1)) C hin rfl rfl (by decide) (by decide +kernel) rfl dX0_gramsOfPigment_8 ?_
      refine g_is (nI nt) hnt ?_
      refine g_icmp_ge 45 C dX0_gramsOfPigment_11 (by decide) (fun c_11_1 => ?_) (fun c_11_1 => ?_)
      ·
        have d_11_1 : nt ≤ i := (nI_leI (a := nt) (b := i) (by omega) (by omega)).mp c_11_1
        refine g_iload_n 3 C rfl dX0_gramsOfPigment_45 rfl ?_
        exact g_iret C hr rfl dX0_gramsOfPigment_46 (Nat.zero_le _) (Nat.zero_le _) rfl (by rw [show nt = i by omega]) rfl
      ·
        have d_11_1 : ¬ nt ≤ i := fun q => c_11_1 ((nI_leI (a := nt) (b := i) (by omega) (by omega)).mpr q)
        refine g_aload_n 0 C rfl dX0_gramsOfPigment_14 rfl ?_
        refine g_get (C0 := RX0) (T := TX0) (N := 17) 0 0 6 (.ref (h 2)) C hin rfl rfl (by decide) (by decide +kernel) rfl dX0_gramsOfPigment_15 ?_
        refine g_iload 4 C rfl dX0_gramsOfPigment_18 ?_
        refine g_ialdN (cA := cI) (n := 12) (a := h 2) (f := σ.2 1) i 2 0 C rfl rfl (by omega) (by decide) dX0_gramsOfPigment_20 ?_
        refine g_iload_n 2 C rfl dX0_gramsOfPigment_21 rfl ?_
        refine g_icmp_ne 39 C dX0_gramsOfPigment_22 (by decide) (fun c_22_2 => ?_) (fun c_22_2 => ?_)
        ·
          have ek : gopN σ r k (i + 1) = gopN σ r k i := if_neg c_22_2
          refine g_iincN 4 i 1 [(4, .int (nI (i + 1))), (0, .ref (h 0)), (1, .int (nI (r))), (2, .int (k)), (3, .int (gopN σ r k i))] C dX0_gramsOfPigment_39 rfl (by decide) (by decide) rfl ?_
          refine g_goto 5 C dX0_gramsOfPigment_42 (by decide) ?_
          refine g_lv [1, 2, 3, 4, 0] [(0, .ref (h 0)), (1, .int (nI (r))), (2, .int (k)), (3, .int (gopN σ r k i)), (4, .int (nI (i + 1)))] rfl ?_
          have hx := ih_5 (i + 1) (by omega) (by omega)
          rw [ek] at hx
          exact hx
        ·
          have ek : gopN σ r k (i + 1) = gopN σ r k i + σ.2 3 (r * 12 + i) := if_pos c_22_2
          refine g_iload_n 3 C rfl dX0_gramsOfPigment_25 rfl ?_
          refine g_aload_n 0 C rfl dX0_gramsOfPigment_26 rfl ?_
          refine g_get (C0 := RX0) (T := TX0) (N := 17) 0 0 8 (.ref (h 4)) C hin rfl rfl (by decide) (by decide +kernel) rfl dX0_gramsOfPigment_27 ?_
          refine g_iload_n 1 C rfl dX0_gramsOfPigment_30 rfl ?_
          refine g_iload 4 C rfl dX0_gramsOfPigment_31 ?_
          refine g_callS0 (na := 2) (av := [.int (nI (r)), .int (nI (i))]) (c_place l D cI cJ _ r i) C gX0_gramsOfPigment_X0_place rfl (by decide +kernel) rfl ⟨Nat.le_of_ble_eq_true rfl, Nat.le_of_ble_eq_true rfl⟩ rfl (Nat.le_of_ble_eq_true rfl) ⟨Nat.zero_le _, Nat.zero_le _⟩ rfl dX0_gramsOfPigment_33 ?_
          refine g_ialdN (cA := cI) (n := 1284) (a := h 4) (f := σ.2 3) (r * 12 + i) 4 0 C rfl rfl (by omega) (by decide) dX0_gramsOfPigment_36 ?_
          refine g_iadd C dX0_gramsOfPigment_37 ?_
          refine g_istore_n [(3, .int ((gopN σ r k i) + (σ.2 3 (r * 12 + i)))), (0, .ref (h 0)), (1, .int (nI (r))), (2, .int (k)), (4, .int (nI (i)))] C dX0_gramsOfPigment_38 rfl (by decide) rfl ?_
          refine g_iincN 4 i 1 [(4, .int (nI (i + 1))), (3, .int ((gopN σ r k i) + (σ.2 3 (r * 12 + i)))), (0, .ref (h 0)), (1, .int (nI (r))), (2, .int (k))] C dX0_gramsOfPigment_39 rfl (by decide) (by decide) rfl ?_
          refine g_goto 5 C dX0_gramsOfPigment_42 (by decide) ?_
          refine g_lv [2, 3, 4, 1, 0] [(0, .ref (h 0)), (1, .int (nI (r))), (2, .int (k)), (3, .int ((gopN σ r k i) + (σ.2 3 (r * 12 + i)))), (4, .int (nI (i + 1)))] rfl ?_
          have hx := ih_5 (i + 1) (by omega) (by omega)
          rw [ek] at hx
          exact hx
  refine g_lv [2, 3, 4, 1, 0] [(0, .ref (h 0)), (1, .int (nI (r))), (2, .int (k)), (3, .int (0)), (4, .int (0))] rfl ?_
  exact loop_5 (nt + 1) 0 (by omega) (by omega)
set_option maxRecDepth 100000 in
set_option maxHeartbeats 4000000 in
theorem c_mainPigmentOfRow (l : Launch) (D : va_G) (cI cJ : ClassId) (h : Nat → Nat) (σ : gS) (np nt no ni : Nat) (hI : iA σ np nt no ni) (r : Nat) (hr1 : r < 107) : MC l yX0_mainPigmentOfRow wsX0_mainPigmentOfRow 2 45 D (tyIJ cI cJ) [.ref (h 0), .int (nI (r))] (wA cI h σ) (wA cI h σ) none (some (.int (mpr (fun k => gopN σ r (nI k) nt) np).1)) 0 := by
  have hI0 := hI
  obtain ⟨⟨hnp, hnp6⟩, ⟨hnt, hnt12⟩, ⟨hno, hno10⟩, ⟨hni, hni8⟩, hPT, hLC, hLH⟩ := hI
  refine MC.ofG (cc := cX0_mainPigmentOfRow) (maxL := 6) (ret := (some .int)) [(0, .ref (h 0)), (1, .int (nI (r)))] (by decide) rfl (Nat.le_of_ble_eq_true rfl) rfl ?_
  intro p e s m args below meth c C hr hout
  have hin : ∀ w ∈ wsX00, w ∈ wsX0_mainPigmentOfRow := fun w h => by first | exact List.mem_cons_of_mem _ (List.mem_append_right _ h) | exact List.mem_cons_of_mem _ (List.mem_append_left _ (List.mem_append_right _ h)) | exact List.mem_cons_of_mem _ (List.mem_append_left _ (List.mem_append_left _ (List.mem_append_right _ h))) | exact List.mem_cons_of_mem _ (List.mem_append_left _ (List.mem_append_left _ (List.mem_append_left _ (List.mem_append_right _ h)))) | exact List.mem_cons_of_mem _ (List.mem_append_left _ (List.mem_append_left _ (List.mem_append_left _ (List.mem_append_left _ (List.mem_append_right _ h)))))
  refine g_iconst (-1) C dX0_mainPigmentOfRow_0 (by decide) ?_
  refine g_istore_n [(2, .int ((-1))), (0, .ref (h 0)), (1, .int (nI (r)))] C dX0_mainPigmentOfRow_1 rfl (by decide) rfl ?_
  refine g_iconst 0 C dX0_mainPigmentOfRow_2 (by decide) ?_
  refine g_istore_n [(3, .int (0)), (2, .int ((-1))), (0, .ref (h 0)), (1, .int (nI (r)))] C dX0_mainPigmentOfRow_3 rfl (by decide) rfl ?_
  refine g_iconst 0 C dX0_mainPigmentOfRow_4 (by decide) ?_
  refine g_istore [(4, .int (0)), (3, .int (0)), (2, .int ((-1))), (0, .ref (h 0)), (1, .int (nI (r)))] C dX0_mainPigmentOfRow_5 (by decide) rfl ?_
  have loop_7 : ∀ (fu : Nat) (i : Nat), i ≤ np → np + 1 ≤ i + fu → G p l e ({ frames := 2, cells := 0, slots := 6 * 0, locals := 45 } : Room) s m args below meth c D (va_A (wA cI h σ) s.heap.size) 6 0 0 (gQ below D (wA cI h σ) (wA cI h σ) none (some (.int (mpr (fun k => gopN σ r (nI k) nt) np).1)) 0 args s) (wA cI h σ) [(0, .ref (h 0)), (1, .int (nI (r))), (2, .int ((mpr (fun k => gopN σ r (nI k) nt) i).1)), (3, .int ((mpr (fun k => gopN σ r (nI k) nt) i).2)), (4, .int (nI (i)))] 7 [] := by
    intro fu
    induction fu with
    | zero => intro i hi hf; exact absurd True.intro (by omega)
    | succ fu ih_7 =>
      intro i hi hf
      refine g_iload 4 C rfl dX0_mainPigmentOfRow_7 ?_
      refine g_aload_n 0 C rfl dX0_mainPigmentOfRow_9 rfl ?_
      refine g_get (C0 := RX0) (T := TX0) (N := 17) 0 0 0 (.int (σ.1 0)) C hin rfl rfl (by decide) (by decide +kernel) rfl dX0_mainPigmentOfRow_10 ?_
      refine g_is (nI np) hnp ?_
      refine g_icmp_ge 43 C dX0_mainPigmentOfRow_13 (by decide) (fun c_13_1 => ?_) (fun c_13_1 => ?_)
      ·
        have d_13_1 : np ≤ i := (nI_leI (a := np) (b := i) (by omega) (by omega)).mp c_13_1
        refine g_iload_n 2 C rfl dX0_mainPigmentOfRow_43 rfl ?_
        exact g_iret C hr rfl dX0_mainPigmentOfRow_44 (Nat.zero_le _) (Nat.zero_le _) rfl (by rw [show np = i by omega]) rfl
      ·
        have d_13_1 : ¬ np ≤ i := fun q => c_13_1 ((nI_leI (a := np) (b := i) (by omega) (by omega)).mpr q)
        refine g_aload_n 0 C rfl dX0_mainPigmentOfRow_16 rfl ?_
        refine g_iload_n 1 C rfl dX0_mainPigmentOfRow_17 rfl ?_
        refine g_iload 4 C rfl dX0_mainPigmentOfRow_18 ?_
        refine g_callV0 (C0 := RX0) (T := TX0) (N := 17) (ci := 0) (na := 2) (As := [.int (nI (r)), .int (nI (i))]) (c_gramsOfPigment l D cI cJ h σ np nt no ni hI0 r (nI (i)) (by omega)) C gX0_mainPigmentOfRow_X0_gramsOfPigment rfl (by decide +kernel) rfl ⟨Nat.le_of_ble_eq_true rfl, Nat.le_of_ble_eq_true rfl⟩ rfl rfl rfl (Nat.le_of_ble_eq_true rfl) ⟨Nat.zero_le _, Nat.zero_le _⟩ rfl dX0_mainPigmentOfRow_20 ?_
        refine g_istore [(5, .int (gopN σ r (nI (i)) nt)), (0, .ref (h 0)), (1, .int (nI (r))), (2, .int ((mpr (fun k => gopN σ r (nI k) nt) i).1)), (3, .int ((mpr (fun k => gopN σ r (nI k) nt) i).2)), (4, .int (nI (i)))] C dX0_mainPigmentOfRow_23 (by decide) rfl ?_
        refine g_iload 0 C rfl dX0_mainPigmentOfRow_25 ?_
        refine g_iload_n 4 C rfl dX0_mainPigmentOfRow_27 rfl ?_
        refine g_icmp_le 37 C dX0_mainPigmentOfRow_28 (by decide) (fun c_28_2 => ?_) (fun c_28_2 => ?_)
        ·
          have ek : mpr (fun k => gopN σ r (nI k) nt) (i + 1) = mpr (fun k => gopN σ r (nI k) nt) i := if_pos c_28_2
          refine g_iincN 5 i 1 [(4, .int (nI (i + 1))), (5, .int (gopN σ r (nI (i)) nt)), (0, .ref (h 0)), (1, .int (nI (r))), (2, .int ((mpr (fun k => gopN σ r (nI k) nt) i).1)), (3, .int ((mpr (fun k => gopN σ r (nI k) nt) i).2))] C dX0_mainPigmentOfRow_37 rfl (by decide) (by decide) rfl ?_
          refine g_goto 7 C dX0_mainPigmentOfRow_40 (by decide) ?_
          refine g_lv [2, 3, 4, 5, 0] [(0, .ref (h 0)), (1, .int (nI (r))), (2, .int ((mpr (fun k => gopN σ r (nI k) nt) i).1)), (3, .int ((mpr (fun k => gopN σ r (nI k) nt) i).2)), (4, .int (nI (i + 1)))] rfl ?_
          have hx := ih_7 (i + 1) (by omega) (by omega)
          rw [ek] at hx
          exact hx
        ·
          have ek : mpr (fun k => gopN σ r (nI k) nt) (i + 1) = (nI i, gopN σ r (nI i) nt) := if_neg c_28_2
          refine g_iload 5 C rfl dX0_mainPigmentOfRow_31 ?_
          refine g_istore_n [(2, .int (nI (i))), (5, .int (gopN σ r (nI (i)) nt)), (0, .ref (h 0)), (1, .int (nI (r))), (3, .int ((mpr (fun k => gopN σ r (nI k) nt) i).2)), (4, .int (nI (i)))] C dX0_mainPigmentOfRow_33 rfl (by decide) rfl ?_
          refine g_iload 1 C rfl dX0_mainPigmentOfRow_34 ?_
          refine g_istore_n [(3, .int (gopN σ r (nI (i)) nt)), (2, .int (nI (i))), (5, .int (gopN σ r (nI (i)) nt)), (0, .ref (h 0)), (1, .int (nI (r))), (4, .int (nI (i)))] C dX0_mainPigmentOfRow_36 rfl (by decide) rfl ?_
          refine g_iincN 5 i 1 [(4, .int (nI (i + 1))), (3, .int (gopN σ r (nI (i)) nt)), (2, .int (nI (i))), (5, .int (gopN σ r (nI (i)) nt)), (0, .ref (h 0)), (1, .int (nI (r)))] C dX0_mainPigmentOfRow_37 rfl (by decide) (by decide) rfl ?_
          refine g_goto 7 C dX0_mainPigmentOfRow_40 (by decide) ?_
          refine g_lv [4, 5, 2, 1, 0] [(0, .ref (h 0)), (1, .int (nI (r))), (2, .int (nI (i))), (3, .int (gopN σ r (nI (i)) nt)), (4, .int (nI (i + 1)))] rfl ?_
          have hx := ih_7 (i + 1) (by omega) (by omega)
          rw [ek] at hx
          exact hx
  refine g_lv [3, 4, 2, 1, 0] [(0, .ref (h 0)), (1, .int (nI (r))), (2, .int ((-1))), (3, .int (0)), (4, .int (0))] rfl ?_
  exact loop_7 (np + 1) 0 (by omega) (by omega)
set_option maxRecDepth 100000 in
set_option maxHeartbeats 4000000 in
theorem c_mixed (l : Launch) (D : va_G) (cI cJ : ClassId) (h : Nat → Nat) (σ : gS) (np nt no ni : Nat) (hI : iA σ np nt no ni) (a b : Nat) (q : Int32) (ch : Nat) (ha : a < 12) (hb : b < 12) (hc : ch < 3) : MC l yX0_mixed wsX0_mixed 1 22 D (tyIJ cI cJ) [.ref (h 0), .int (nI (a)), .int (nI (b)), .int (q), .int (nI (ch))] (wA cI h σ) (wA cI h σ) none (some (.int (mixd σ a b q ch))) 0 := by
  have hI0 := hI
  obtain ⟨⟨hnp, hnp6⟩, ⟨hnt, hnt12⟩, ⟨hno, hno10⟩, ⟨hni, hni8⟩, hPT, hLC, hLH⟩ := hI
  refine MC.ofG (cc := cX0_mixed) (maxL := 5) (ret := (some .int)) [(0, .ref (h 0)), (1, .int (nI (a))), (2, .int (nI (b))), (3, .int (q)), (4, .int (nI (ch)))] (by decide) rfl (Nat.le_of_ble_eq_true rfl) rfl ?_
  intro p e s m args below meth c C hr hout
  refine g_iload_n 3 C rfl dX0_mixed_0 rfl ?_
  refine g_aload_n 0 C rfl dX0_mixed_1 rfl ?_
  refine g_iload_n 1 C rfl dX0_mixed_2 rfl ?_
  refine g_iload 4 C rfl dX0_mixed_3 ?_
  refine g_callV0 (C0 := RX0) (T := TX0) (N := 17) (ci := 0) (na := 2) (As := [.int (nI (a)), .int (nI (ch))]) (c_colourOfTube l D cI cJ h σ np nt no ni hI0 a ch (by omega) (by omega)) C gX0_mixed_X0_colourOfTube rfl (by decide +kernel) rfl ⟨Nat.le_of_ble_eq_true rfl, Nat.le_of_ble_eq_true rfl⟩ rfl rfl rfl (Nat.le_of_ble_eq_true rfl) ⟨Nat.zero_le _, Nat.zero_le _⟩ rfl dX0_mixed_5 ?_
  refine g_imul C dX0_mixed_8 ?_
  refine g_iconst 4 C dX0_mixed_9 (by decide) ?_
  refine g_iload_n 3 C rfl dX0_mixed_10 rfl ?_
  refine g_isub C dX0_mixed_11 ?_
  refine g_aload_n 0 C rfl dX0_mixed_12 rfl ?_
  refine g_iload_n 2 C rfl dX0_mixed_13 rfl ?_
  refine g_iload 4 C rfl dX0_mixed_14 ?_
  refine g_callV0 (C0 := RX0) (T := TX0) (N := 17) (ci := 0) (na := 2) (As := [.int (nI (b)), .int (nI (ch))]) (c_colourOfTube l D cI cJ h σ np nt no ni hI0 b ch (by omega) (by omega)) C gX0_mixed_X0_colourOfTube rfl (by decide +kernel) rfl ⟨Nat.le_of_ble_eq_true rfl, Nat.le_of_ble_eq_true rfl⟩ rfl rfl rfl (Nat.le_of_ble_eq_true rfl) ⟨Nat.zero_le _, Nat.zero_le _⟩ rfl dX0_mixed_16 ?_
  refine g_imul C dX0_mixed_19 ?_
  refine g_iadd C dX0_mixed_20 ?_
  refine g_iconst 4 C dX0_mixed_21 (by decide) ?_
  refine g_idiv C (by decide) dX0_mixed_22 ?_
  exact g_iret C hr rfl dX0_mixed_23 (Nat.zero_le _) (Nat.zero_le _) rfl rfl rfl
set_option maxRecDepth 100000 in
set_option maxHeartbeats 4000000 in
theorem c_mainPigmentOf (l : Launch) (D : va_G) (cI cJ : ClassId) (h : Nat → Nat) (σ : gS) (np nt no ni : Nat) (hI : iA σ np nt no ni) (q : Nat) (hq : q < 8) : MC l yX0_mainPigmentOf wsX0_mainPigmentOf 3 70 D (tyIJ cI cJ) [.ref (h 0), .int (nI (q))] (wA cI h σ) (wA cI h σ) none (some (.int (mpo σ np nt q))) 0 := by
  have hI0 := hI
  obtain ⟨⟨hnp, hnp6⟩, ⟨hnt, hnt12⟩, ⟨hno, hno10⟩, ⟨hni, hni8⟩, hPT, hLC, hLH⟩ := hI
  refine MC.ofG (cc := cX0_mainPigmentOf) (maxL := 3) (ret := (some .int)) [(0, .ref (h 0)), (1, .int (nI (q)))] (by decide) rfl (Nat.le_of_ble_eq_true rfl) rfl ?_
  intro p e s m args below meth c C hr hout
  have hin : ∀ w ∈ wsX00, w ∈ wsX0_mainPigmentOf := fun w h => by first | exact List.mem_cons_of_mem _ (List.mem_append_right _ h) | exact List.mem_cons_of_mem _ (List.mem_append_left _ (List.mem_append_right _ h)) | exact List.mem_cons_of_mem _ (List.mem_append_left _ (List.mem_append_left _ (List.mem_append_right _ h))) | exact List.mem_cons_of_mem _ (List.mem_append_left _ (List.mem_append_left _ (List.mem_append_left _ (List.mem_append_right _ h)))) | exact List.mem_cons_of_mem _ (List.mem_append_left _ (List.mem_append_left _ (List.mem_append_left _ (List.mem_append_left _ (List.mem_append_right _ h)))))
  refine g_aload_n 0 C rfl dX0_mainPigmentOf_0 rfl ?_
  refine g_get (C0 := RX0) (T := TX0) (N := 17) 0 0 9 (.ref (h 5)) C hin rfl rfl (by decide) (by decide +kernel) rfl dX0_mainPigmentOf_1 ?_
  refine g_iload_n 1 C rfl dX0_mainPigmentOf_4 rfl ?_
  refine g_ialdN (cA := cI) (n := 8) (a := h 5) (f := σ.2 4) q 5 0 C rfl rfl (by omega) (by decide) dX0_mainPigmentOf_5 ?_
  obtain ⟨j, hj, ej⟩ := hLC q
  refine g_is (nI (j)) ej ?_
  refine g_istore_n [(2, .int (nI (j))), (0, .ref (h 0)), (1, .int (nI (q)))] C dX0_mainPigmentOf_6 rfl (by decide) rfl ?_
  refine g_iload_n 0 C rfl dX0_mainPigmentOf_7 rfl ?_
  refine g_if_ne 15 C dX0_mainPigmentOf_8 (by decide) (fun c_8_1 => ?_) (fun c_8_1 => ?_)
  ·
    have d_8_1 : ¬ j = 0 := fun q => c_8_1 ((nI_eq (a := j) (b := 0) (by omega) (by omega)).mpr q)
    refine g_aload_n 1 C rfl dX0_mainPigmentOf_15 rfl ?_
    refine g_iload_n 2 C rfl dX0_mainPigmentOf_16 rfl ?_
    refine g_iload_n 0 C rfl dX0_mainPigmentOf_17 rfl ?_
    refine g_iconst 1 C dX0_mainPigmentOf_18 (by decide) ?_
    refine g_isubN j 1 C (by omega) dX0_mainPigmentOf_19 ?_
    refine g_callS0 (na := 2) (av := [.int (nI (q)), .int (nI (j - 1))]) (c_layerRow l D cI cJ _ q (j - 1)) C gX0_mainPigmentOf_X0_layerRow rfl (by decide +kernel) rfl ⟨Nat.le_of_ble_eq_true rfl, Nat.le_of_ble_eq_true rfl⟩ rfl (Nat.le_of_ble_eq_true rfl) ⟨Nat.zero_le _, Nat.zero_le _⟩ rfl dX0_mainPigmentOf_20 ?_
    refine g_callV0 (C0 := RX0) (T := TX0) (N := 17) (ci := 0) (na := 1) (As := [.int (nI (10 + q * 12 + (j - 1)))]) (c_mainPigmentOfRow l D cI cJ h σ np nt no ni hI0 (10 + q * 12 + (j - 1)) (by omega)) C gX0_mainPigmentOf_X0_mainPigmentOfRow rfl (by decide +kernel) rfl ⟨Nat.le_of_ble_eq_true rfl, Nat.le_of_ble_eq_true rfl⟩ rfl rfl rfl (Nat.le_of_ble_eq_true rfl) ⟨Nat.zero_le _, Nat.zero_le _⟩ rfl dX0_mainPigmentOf_23 ?_
    exact g_iret C hr rfl dX0_mainPigmentOf_26 (Nat.zero_le _) (Nat.zero_le _) rfl (congrArg (fun x => some (Value.int x)) (by rw [mpo, if_neg (by rw [ej]; exact nI_ne0 (by omega) (by omega)), topR, ej, cl_nI (by omega)])) rfl
  ·
    have d_8_1 : j = 0 := (nI_eq (a := j) (b := 0) (by omega) (by omega)).mp c_8_1
    refine g_iconst (-1) C dX0_mainPigmentOf_11 (by decide) ?_
    refine g_goto 26 C dX0_mainPigmentOf_12 (by decide) ?_
    exact g_iret C hr rfl dX0_mainPigmentOf_26 (Nat.zero_le _) (Nat.zero_le _) rfl (congrArg (fun x => some (Value.int x)) (by rw [mpo, if_pos (by rw [ej, d_8_1]; rfl)])) rfl
set_option maxRecDepth 100000 in
set_option maxHeartbeats 4000000 in
theorem c_lookOf (l : Launch) (D : va_G) (cI cJ : ClassId) (h : Nat → Nat) (σ : gS) (np nt no ni : Nat) (hI : iA σ np nt no ni) (q ch : Nat) (hq : q < 8) (hc : ch < 3) : MC l yX0_lookOf wsX0_lookOf 2 48 D (tyIJ cI cJ) [.ref (h 0), .int (nI (q)), .int (nI (ch))] (wA cI h σ) (wA cI h σ) none (some (.int (lko σ nt q ch))) 0 := by
  have hI0 := hI
  obtain ⟨⟨hnp, hnp6⟩, ⟨hnt, hnt12⟩, ⟨hno, hno10⟩, ⟨hni, hni8⟩, hPT, hLC, hLH⟩ := hI
  refine MC.ofG (cc := cX0_lookOf) (maxL := 4) (ret := (some .int)) [(0, .ref (h 0)), (1, .int (nI (q))), (2, .int (nI (ch)))] (by decide) rfl (Nat.le_of_ble_eq_true rfl) rfl ?_
  intro p e s m args below meth c C hr hout
  have hin : ∀ w ∈ wsX00, w ∈ wsX0_lookOf := fun w h => by first | exact List.mem_cons_of_mem _ (List.mem_append_right _ h) | exact List.mem_cons_of_mem _ (List.mem_append_left _ (List.mem_append_right _ h)) | exact List.mem_cons_of_mem _ (List.mem_append_left _ (List.mem_append_left _ (List.mem_append_right _ h))) | exact List.mem_cons_of_mem _ (List.mem_append_left _ (List.mem_append_left _ (List.mem_append_left _ (List.mem_append_right _ h)))) | exact List.mem_cons_of_mem _ (List.mem_append_left _ (List.mem_append_left _ (List.mem_append_left _ (List.mem_append_left _ (List.mem_append_right _ h)))))
  refine g_aload_n 0 C rfl dX0_lookOf_0 rfl ?_
  refine g_get (C0 := RX0) (T := TX0) (N := 17) 0 0 9 (.ref (h 5)) C hin rfl rfl (by decide) (by decide +kernel) rfl dX0_lookOf_1 ?_
  refine g_iload_n 1 C rfl dX0_lookOf_4 rfl ?_
  refine g_ialdN (cA := cI) (n := 8) (a := h 5) (f := σ.2 4) q 5 0 C rfl rfl (by omega) (by decide) dX0_lookOf_5 ?_
  obtain ⟨j, hj, ej⟩ := hLC q
  refine g_is (nI (j)) ej ?_
  refine g_istore_n [(3, .int (nI (j))), (0, .ref (h 0)), (1, .int (nI (q))), (2, .int (nI (ch)))] C dX0_lookOf_6 rfl (by decide) rfl ?_
  refine g_iload_n 0 C rfl dX0_lookOf_7 rfl ?_
  refine g_if_ne 15 C dX0_lookOf_8 (by decide) (fun c_8_1 => ?_) (fun c_8_1 => ?_)
  ·
    have d_8_1 : ¬ j = 0 := fun q => c_8_1 ((nI_eq (a := j) (b := 0) (by omega) (by omega)).mpr q)
    refine g_aload_n 1 C rfl dX0_lookOf_15 rfl ?_
    refine g_iload_n 2 C rfl dX0_lookOf_16 rfl ?_
    refine g_iload_n 0 C rfl dX0_lookOf_17 rfl ?_
    refine g_iconst 1 C dX0_lookOf_18 (by decide) ?_
    refine g_isubN j 1 C (by omega) dX0_lookOf_19 ?_
    refine g_callS0 (na := 2) (av := [.int (nI (q)), .int (nI (j - 1))]) (c_layerRow l D cI cJ _ q (j - 1)) C gX0_lookOf_X0_layerRow rfl (by decide +kernel) rfl ⟨Nat.le_of_ble_eq_true rfl, Nat.le_of_ble_eq_true rfl⟩ rfl (Nat.le_of_ble_eq_true rfl) ⟨Nat.zero_le _, Nat.zero_le _⟩ rfl dX0_lookOf_20 ?_
    refine g_iload_n 3 C rfl dX0_lookOf_23 rfl ?_
    refine g_callV0 (C0 := RX0) (T := TX0) (N := 17) (ci := 0) (na := 2) (As := [.int (nI (10 + q * 12 + (j - 1))), .int (nI (ch))]) (c_colourOfRow l D cI cJ h σ np nt no ni hI0 (10 + q * 12 + (j - 1)) ch (by omega) (by omega)) C gX0_lookOf_X0_colourOfRow rfl (by decide +kernel) rfl ⟨Nat.le_of_ble_eq_true rfl, Nat.le_of_ble_eq_true rfl⟩ rfl rfl rfl (Nat.le_of_ble_eq_true rfl) ⟨Nat.zero_le _, Nat.zero_le _⟩ rfl dX0_lookOf_24 ?_
    exact g_iret C hr rfl dX0_lookOf_27 (Nat.zero_le _) (Nat.zero_le _) rfl (congrArg (fun x => some (Value.int x)) (by rw [lko, if_neg (by rw [ej]; exact nI_ne0 (by omega) (by omega)), topR, ej, cl_nI (by omega)])) rfl
  ·
    have d_8_1 : j = 0 := (nI_eq (a := j) (b := 0) (by omega) (by omega)).mp c_8_1
    refine g_iconst (-1) C dX0_lookOf_11 (by decide) ?_
    refine g_goto 27 C dX0_lookOf_12 (by decide) ?_
    exact g_iret C hr rfl dX0_lookOf_27 (Nat.zero_le _) (Nat.zero_le _) rfl (congrArg (fun x => some (Value.int x)) (by rw [lko, if_pos (by rw [ej, d_8_1]; rfl)])) rfl
set_option maxRecDepth 100000 in
set_option maxHeartbeats 4000000 in
theorem c_averagePriceOfAlike (l : Launch) (D : va_G) (cI cJ : ClassId) (h : Nat → Nat) (σ : gS) (np nt no ni : Nat) (hI : iA σ np nt no ni) (q : Nat) (hq : q < 8) : MC l yX0_averagePriceOfAlike wsX0_averagePriceOfAlike 4 92 D (tyIJ cI cJ) [.ref (h 0), .int (nI (q))] (wA cI h σ) (wA cI h σ) none (some (.int (avgA σ np nt ni q))) 0 := by
  have hI0 := hI
  obtain ⟨⟨hnp, hnp6⟩, ⟨hnt, hnt12⟩, ⟨hno, hno10⟩, ⟨hni, hni8⟩, hPT, hLC, hLH⟩ := hI
  refine MC.ofG (cc := cX0_averagePriceOfAlike) (maxL := 6) (ret := (some .int)) [(0, .ref (h 0)), (1, .int (nI (q)))] (by decide) rfl (Nat.le_of_ble_eq_true rfl) rfl ?_
  intro p e s m args below meth c C hr hout
  have hin : ∀ w ∈ wsX00, w ∈ wsX0_averagePriceOfAlike := fun w h => by first | exact List.mem_cons_of_mem _ (List.mem_append_right _ h) | exact List.mem_cons_of_mem _ (List.mem_append_left _ (List.mem_append_right _ h)) | exact List.mem_cons_of_mem _ (List.mem_append_left _ (List.mem_append_left _ (List.mem_append_right _ h))) | exact List.mem_cons_of_mem _ (List.mem_append_left _ (List.mem_append_left _ (List.mem_append_left _ (List.mem_append_right _ h)))) | exact List.mem_cons_of_mem _ (List.mem_append_left _ (List.mem_append_left _ (List.mem_append_left _ (List.mem_append_left _ (List.mem_append_right _ h)))))
  refine g_aload_n 0 C rfl dX0_averagePriceOfAlike_0 rfl ?_
  refine g_iload_n 1 C rfl dX0_averagePriceOfAlike_1 rfl ?_
  refine g_callV0 (C0 := RX0) (T := TX0) (N := 17) (ci := 0) (na := 1) (As := [.int (nI (q))]) (c_mainPigmentOf l D cI cJ h σ np nt no ni hI0 q (by omega)) C gX0_averagePriceOfAlike_X0_mainPigmentOf rfl (by decide +kernel) rfl ⟨Nat.le_of_ble_eq_true rfl, Nat.le_of_ble_eq_true rfl⟩ rfl rfl rfl (Nat.le_of_ble_eq_true rfl) ⟨Nat.zero_le _, Nat.zero_le _⟩ rfl dX0_averagePriceOfAlike_2 ?_
  refine g_istore_n [(2, .int (mpo σ np nt q)), (0, .ref (h 0)), (1, .int (nI (q)))] C dX0_averagePriceOfAlike_5 rfl (by decide) rfl ?_
  refine g_iload_n 0 C rfl dX0_averagePriceOfAlike_6 rfl ?_
  refine g_iconst (-1) C dX0_averagePriceOfAlike_7 (by decide) ?_
  refine g_icmp_ne 13 C dX0_averagePriceOfAlike_8 (by decide) (fun c_8_1 => ?_) (fun c_8_1 => ?_)
  ·
    have hm1 := c_8_1
    refine g_iconst 0 C dX0_averagePriceOfAlike_13 (by decide) ?_
    refine g_istore_n [(3, .int (0)), (2, .int (mpo σ np nt q)), (0, .ref (h 0)), (1, .int (nI (q)))] C dX0_averagePriceOfAlike_14 rfl (by decide) rfl ?_
    refine g_iconst 0 C dX0_averagePriceOfAlike_15 (by decide) ?_
    refine g_istore [(4, .int (0)), (3, .int (0)), (2, .int (mpo σ np nt q)), (0, .ref (h 0)), (1, .int (nI (q)))] C dX0_averagePriceOfAlike_16 (by decide) rfl ?_
    refine g_iconst 0 C dX0_averagePriceOfAlike_18 (by decide) ?_
    refine g_istore [(5, .int (0)), (4, .int (0)), (3, .int (0)), (2, .int (mpo σ np nt q)), (0, .ref (h 0)), (1, .int (nI (q)))] C dX0_averagePriceOfAlike_19 (by decide) rfl ?_
    have loop_21 : ∀ (fu : Nat) (i : Nat), i ≤ ni → ni + 1 ≤ i + fu → G p l e ({ frames := 4, cells := 0, slots := 6 * 0, locals := 92 } : Room) s m args below meth c D (va_A (wA cI h σ) s.heap.size) 6 0 0 (gQ below D (wA cI h σ) (wA cI h σ) none (some (.int (avgA σ np nt ni q))) 0 args s) (wA cI h σ) [(0, .ref (h 0)), (1, .int (nI (q))), (2, .int (mpo σ np nt q)), (3, .int ((alk σ np nt (mpo σ np nt q) i).1)), (4, .int ((alk σ np nt (mpo σ np nt q) i).2)), (5, .int (nI (i)))] 21 [] := by
      intro fu
      induction fu with
      | zero => intro i hi hf; exact absurd True.intro (by omega)
      | succ fu ih_21 =>
        intro i hi hf
        refine g_iload 5 C rfl dX0_averagePriceOfAlike_21 ?_
        refine g_aload_n 0 C rfl dX0_averagePriceOfAlike_23 rfl ?_
        refine g_get (C0 := RX0) (T := TX0) (N := 17) 0 0 3 (.int (σ.1 3)) C hin rfl rfl (by decide) (by decide +kernel) rfl dX0_averagePriceOfAlike_24 ?_
        refine g_is (nI ni) hni ?_
        refine g_icmp_ge 69 C dX0_averagePriceOfAlike_27 (by decide) (fun c_27_2 => ?_) (fun c_27_2 => ?_)
        ·
          have d_27_2 : ni ≤ i := (nI_leI (a := ni) (b := i) (by omega) (by omega)).mp c_27_2
          refine g_iload 4 C rfl dX0_averagePriceOfAlike_69 ?_
          refine g_if_ne 78 C dX0_averagePriceOfAlike_71 (by decide) (fun c_71_3 => ?_) (fun c_71_3 => ?_)
          ·
            have cz := c_71_3
            refine g_iload_n 3 C rfl dX0_averagePriceOfAlike_78 rfl ?_
            refine g_iload 4 C rfl dX0_averagePriceOfAlike_79 ?_
            refine g_idiv C cz dX0_averagePriceOfAlike_81 ?_
            exact g_iret C hr rfl dX0_averagePriceOfAlike_82 (Nat.zero_le _) (Nat.zero_le _) rfl (congrArg (fun x => some (Value.int x)) (by have e : ni = i := (by omega); subst e; rw [avgA, if_neg hm1, if_neg cz])) rfl
          ·
            have cz := c_71_3
            refine g_iconst 0 C dX0_averagePriceOfAlike_74 (by decide) ?_
            refine g_goto 82 C dX0_averagePriceOfAlike_75 (by decide) ?_
            exact g_iret C hr rfl dX0_averagePriceOfAlike_82 (Nat.zero_le _) (Nat.zero_le _) rfl (congrArg (fun x => some (Value.int x)) (by have e : ni = i := (by omega); subst e; rw [avgA, if_neg hm1, if_pos cz])) rfl
        ·
          have d_27_2 : ¬ ni ≤ i := fun q => c_27_2 ((nI_leI (a := ni) (b := i) (by omega) (by omega)).mpr q)
          refine g_aload_n 0 C rfl dX0_averagePriceOfAlike_30 rfl ?_
          refine g_get (C0 := RX0) (T := TX0) (N := 17) 0 0 11 (.ref (h 7)) C hin rfl rfl (by decide) (by decide +kernel) rfl dX0_averagePriceOfAlike_31 ?_
          refine g_iload 5 C rfl dX0_averagePriceOfAlike_34 ?_
          refine g_ialdN (cA := cI) (n := 8) (a := h 7) (f := σ.2 6) i 7 0 C rfl rfl (by omega) (by decide) dX0_averagePriceOfAlike_36 ?_
          refine g_if_le 63 C dX0_averagePriceOfAlike_37 (by decide) (fun c_37_4 => ?_) (fun c_37_4 => ?_)
          ·
            have ek : alk σ np nt (mpo σ np nt q) (i + 1) = alk σ np nt (mpo σ np nt q) i := if_neg (fun q => q.1 c_37_4)
            refine g_iincN 5 i 1 [(5, .int (nI (i + 1))), (0, .ref (h 0)), (1, .int (nI (q))), (2, .int (mpo σ np nt q)), (3, .int ((alk σ np nt (mpo σ np nt q) i).1)), (4, .int ((alk σ np nt (mpo σ np nt q) i).2))] C dX0_averagePriceOfAlike_63 rfl (by decide) (by decide) rfl ?_
            refine g_goto 21 C dX0_averagePriceOfAlike_66 (by decide) ?_
            refine g_lv [1, 2, 3, 4, 5, 0] [(0, .ref (h 0)), (1, .int (nI (q))), (2, .int (mpo σ np nt q)), (3, .int ((alk σ np nt (mpo σ np nt q) i).1)), (4, .int ((alk σ np nt (mpo σ np nt q) i).2)), (5, .int (nI (i + 1)))] rfl ?_
            have hx := ih_21 (i + 1) (by omega) (by omega)
            rw [ek] at hx
            exact hx
          ·
            have cp := c_37_4
            refine g_aload_n 0 C rfl dX0_averagePriceOfAlike_40 rfl ?_
            refine g_iload 5 C rfl dX0_averagePriceOfAlike_41 ?_
            refine g_callV0 (C0 := RX0) (T := TX0) (N := 17) (ci := 0) (na := 1) (As := [.int (nI (i))]) (c_mainPigmentOf l D cI cJ h σ np nt no ni hI0 i (by omega)) C gX0_averagePriceOfAlike_X0_mainPigmentOf rfl (by decide +kernel) rfl ⟨Nat.le_of_ble_eq_true rfl, Nat.le_of_ble_eq_true rfl⟩ rfl rfl rfl (Nat.le_of_ble_eq_true rfl) ⟨Nat.zero_le _, Nat.zero_le _⟩ rfl dX0_averagePriceOfAlike_43 ?_
            refine g_iload_n 2 C rfl dX0_averagePriceOfAlike_46 rfl ?_
            refine g_icmp_ne 63 C dX0_averagePriceOfAlike_47 (by decide) (fun c_47_5 => ?_) (fun c_47_5 => ?_)
            ·
              have ek : alk σ np nt (mpo σ np nt q) (i + 1) = alk σ np nt (mpo σ np nt q) i := if_neg (fun q => c_47_5 q.2)
              refine g_iincN 5 i 1 [(5, .int (nI (i + 1))), (0, .ref (h 0)), (1, .int (nI (q))), (2, .int (mpo σ np nt q)), (3, .int ((alk σ np nt (mpo σ np nt q) i).1)), (4, .int ((alk σ np nt (mpo σ np nt q) i).2))] C dX0_averagePriceOfAlike_63 rfl (by decide) (by decide) rfl ?_
              refine g_goto 21 C dX0_averagePriceOfAlike_66 (by decide) ?_
              refine g_lv [1, 2, 3, 4, 5, 0] [(0, .ref (h 0)), (1, .int (nI (q))), (2, .int (mpo σ np nt q)), (3, .int ((alk σ np nt (mpo σ np nt q) i).1)), (4, .int ((alk σ np nt (mpo σ np nt q) i).2)), (5, .int (nI (i + 1)))] rfl ?_
              have hx := ih_21 (i + 1) (by omega) (by omega)
              rw [ek] at hx
              exact hx
            ·
              have ek : alk σ np nt (mpo σ np nt q) (i + 1) = ((alk σ np nt (mpo σ np nt q) i).1 + σ.2 6 i, (alk σ np nt (mpo σ np nt q) i).2 + 1) := if_pos ⟨cp, c_47_5⟩
              refine g_iload_n 3 C rfl dX0_averagePriceOfAlike_50 rfl ?_
              refine g_aload_n 0 C rfl dX0_averagePriceOfAlike_51 rfl ?_
              refine g_get (C0 := RX0) (T := TX0) (N := 17) 0 0 11 (.ref (h 7)) C hin rfl rfl (by decide) (by decide +kernel) rfl dX0_averagePriceOfAlike_52 ?_
              refine g_iload 5 C rfl dX0_averagePriceOfAlike_55 ?_
              refine g_ialdN (cA := cI) (n := 8) (a := h 7) (f := σ.2 6) i 7 0 C rfl rfl (by omega) (by decide) dX0_averagePriceOfAlike_57 ?_
              refine g_iadd C dX0_averagePriceOfAlike_58 ?_
              refine g_istore_n [(3, .int (((alk σ np nt (mpo σ np nt q) i).1) + (σ.2 6 i))), (0, .ref (h 0)), (1, .int (nI (q))), (2, .int (mpo σ np nt q)), (4, .int ((alk σ np nt (mpo σ np nt q) i).2)), (5, .int (nI (i)))] C dX0_averagePriceOfAlike_59 rfl (by decide) rfl ?_
              refine g_iinc 4 (((alk σ np nt (mpo σ np nt q) i).2) + 1) [(4, .int (((alk σ np nt (mpo σ np nt q) i).2) + 1)), (3, .int (((alk σ np nt (mpo σ np nt q) i).1) + (σ.2 6 i))), (0, .ref (h 0)), (1, .int (nI (q))), (2, .int (mpo σ np nt q)), (5, .int (nI (i)))] C dX0_averagePriceOfAlike_60 rfl rfl (by decide) rfl ?_
              refine g_iincN 5 i 1 [(5, .int (nI (i + 1))), (4, .int (((alk σ np nt (mpo σ np nt q) i).2) + 1)), (3, .int (((alk σ np nt (mpo σ np nt q) i).1) + (σ.2 6 i))), (0, .ref (h 0)), (1, .int (nI (q))), (2, .int (mpo σ np nt q))] C dX0_averagePriceOfAlike_63 rfl (by decide) (by decide) rfl ?_
              refine g_goto 21 C dX0_averagePriceOfAlike_66 (by decide) ?_
              refine g_lv [3, 4, 5, 2, 1, 0] [(0, .ref (h 0)), (1, .int (nI (q))), (2, .int (mpo σ np nt q)), (3, .int (((alk σ np nt (mpo σ np nt q) i).1) + (σ.2 6 i))), (4, .int (((alk σ np nt (mpo σ np nt q) i).2) + 1)), (5, .int (nI (i + 1)))] rfl ?_
              have hx := ih_21 (i + 1) (by omega) (by omega)
              rw [ek] at hx
              exact hx
    refine g_lv [4, 5, 3, 2, 1, 0] [(0, .ref (h 0)), (1, .int (nI (q))), (2, .int (mpo σ np nt q)), (3, .int (0)), (4, .int (0)), (5, .int (0))] rfl ?_
    exact loop_21 (ni + 1) 0 (by omega) (by omega)
  ·
    refine g_iconst 0 C dX0_averagePriceOfAlike_11 (by decide) ?_
    exact g_iret C hr rfl dX0_averagePriceOfAlike_12 (Nat.zero_le _) (Nat.zero_le _) rfl (congrArg (fun x => some (Value.int x)) (by rw [avgA, if_pos (by assumption)])) rfl
set_option maxRecDepth 100000 in
set_option maxHeartbeats 4000000 in
theorem c_valueOf (l : Launch) (D : va_G) (cI cJ : ClassId) (h : Nat → Nat) (σ : gS) (np nt no ni : Nat) (hI : iA σ np nt no ni) (q : Nat) (hq : q < 8) : MC l yX0_valueOf wsX0_valueOf 5 117 D (tyIJ cI cJ) [.ref (h 0), .int (nI (q))] (wA cI h σ) (wA cI h σ) none (some (.int (valA σ np nt ni q))) 0 := by
  have hI0 := hI
  obtain ⟨⟨hnp, hnp6⟩, ⟨hnt, hnt12⟩, ⟨hno, hno10⟩, ⟨hni, hni8⟩, hPT, hLC, hLH⟩ := hI
  refine MC.ofG (cc := cX0_valueOf) (maxL := 3) (ret := (some .int)) [(0, .ref (h 0)), (1, .int (nI (q)))] (by decide) rfl (Nat.le_of_ble_eq_true rfl) rfl ?_
  intro p e s m args below meth c C hr hout
  have hin : ∀ w ∈ wsX00, w ∈ wsX0_valueOf := fun w h => by first | exact List.mem_cons_of_mem _ (List.mem_append_right _ h) | exact List.mem_cons_of_mem _ (List.mem_append_left _ (List.mem_append_right _ h)) | exact List.mem_cons_of_mem _ (List.mem_append_left _ (List.mem_append_left _ (List.mem_append_right _ h))) | exact List.mem_cons_of_mem _ (List.mem_append_left _ (List.mem_append_left _ (List.mem_append_left _ (List.mem_append_right _ h)))) | exact List.mem_cons_of_mem _ (List.mem_append_left _ (List.mem_append_left _ (List.mem_append_left _ (List.mem_append_left _ (List.mem_append_right _ h)))))
  refine g_aload_n 0 C rfl dX0_valueOf_0 rfl ?_
  refine g_iload_n 1 C rfl dX0_valueOf_1 rfl ?_
  refine g_callV0 (C0 := RX0) (T := TX0) (N := 17) (ci := 0) (na := 1) (As := [.int (nI (q))]) (c_averagePriceOfAlike l D cI cJ h σ np nt no ni hI0 q (by omega)) C gX0_valueOf_X0_averagePriceOfAlike rfl (by decide +kernel) rfl ⟨Nat.le_of_ble_eq_true rfl, Nat.le_of_ble_eq_true rfl⟩ rfl rfl rfl (Nat.le_of_ble_eq_true rfl) ⟨Nat.zero_le _, Nat.zero_le _⟩ rfl dX0_valueOf_2 ?_
  refine g_istore_n [(2, .int (avgA σ np nt ni q)), (0, .ref (h 0)), (1, .int (nI (q)))] C dX0_valueOf_5 rfl (by decide) rfl ?_
  refine g_iconst 0 C dX0_valueOf_6 (by decide) ?_
  refine g_iload_n 0 C rfl dX0_valueOf_7 rfl ?_
  refine g_aload_n 1 C rfl dX0_valueOf_8 rfl ?_
  refine g_get (C0 := RX0) (T := TX0) (N := 17) 0 0 10 (.ref (h 6)) C hin rfl rfl (by decide) (by decide +kernel) rfl dX0_valueOf_9 ?_
  refine g_iload_n 2 C rfl dX0_valueOf_12 rfl ?_
  refine g_ialdN (cA := cI) (n := 8) (a := h 6) (f := σ.2 5) q 6 0 C rfl rfl (by omega) (by decide) dX0_valueOf_13 ?_
  refine g_iload_n 0 C rfl dX0_valueOf_14 rfl ?_
  refine g_bipush 20 C dX0_valueOf_15 (by decide) ?_
  refine g_idiv C (by decide) dX0_valueOf_17 ?_
  refine g_imul C dX0_valueOf_18 ?_
  refine g_isub C dX0_valueOf_19 ?_
  refine g_max C (by decide +kernel) (by decide +kernel) (by decide +kernel) (by decide +kernel) (Nat.le_of_ble_eq_true rfl) (Nat.le_of_ble_eq_true rfl) (Nat.zero_le _) (Nat.zero_le _) dX0_valueOf_20 ?_
  exact g_iret C hr rfl dX0_valueOf_23 (Nat.zero_le _) (Nat.zero_le _) rfl rfl rfl
set_option maxRecDepth 100000 in
set_option maxHeartbeats 4000000 in
theorem c_passForLoan (l : Launch) (D : va_G) (cI cJ : ClassId) (h : Nat → Nat) (σ : gS) (np nt no ni : Nat) (hI : iA σ np nt no ni) (q : Nat) (d : Int32) (hq : q < 8) : MC l yX0_passForLoan wsX0_passForLoan 2 60 D (tyIJ cI cJ) [.ref (h 0), .int (nI (q)), .int (d)] (wA cI h σ) (wA cI h (pfl σ d q)) none none 0 := by
  have hI0 := hI
  obtain ⟨⟨hnp, hnp6⟩, ⟨hnt, hnt12⟩, ⟨hno, hno10⟩, ⟨hni, hni8⟩, hPT, hLC, hLH⟩ := hI
  refine MC.ofG (cc := cX0_passForLoan) (maxL := 5) (ret := none) [(0, .ref (h 0)), (1, .int (nI (q))), (2, .int (d))] (by decide) rfl (Nat.le_of_ble_eq_true rfl) rfl ?_
  intro p e s m args below meth c C hr hout
  have hin : ∀ w ∈ wsX00, w ∈ wsX0_passForLoan := fun w h => by first | exact List.mem_cons_of_mem _ (List.mem_append_right _ h) | exact List.mem_cons_of_mem _ (List.mem_append_left _ (List.mem_append_right _ h)) | exact List.mem_cons_of_mem _ (List.mem_append_left _ (List.mem_append_left _ (List.mem_append_right _ h))) | exact List.mem_cons_of_mem _ (List.mem_append_left _ (List.mem_append_left _ (List.mem_append_left _ (List.mem_append_right _ h)))) | exact List.mem_cons_of_mem _ (List.mem_append_left _ (List.mem_append_left _ (List.mem_append_left _ (List.mem_append_left _ (List.mem_append_right _ h)))))
  refine g_iload_n 2 C rfl dX0_passForLoan_0 rfl ?_
  refine g_aload_n 0 C rfl dX0_passForLoan_1 rfl ?_
  refine g_get (C0 := RX0) (T := TX0) (N := 17) 0 0 12 (.ref (h 8)) C hin rfl rfl (by decide) (by decide +kernel) rfl dX0_passForLoan_2 ?_
  refine g_iload_n 1 C rfl dX0_passForLoan_5 rfl ?_
  refine g_ialdN (cA := cI) (n := 8) (a := h 8) (f := σ.2 7) q 8 0 C rfl rfl (by omega) (by decide) dX0_passForLoan_6 ?_
  refine g_min C (by decide +kernel) (by decide +kernel) (by decide +kernel) (by decide +kernel) (Nat.le_of_ble_eq_true rfl) (Nat.le_of_ble_eq_true rfl) (Nat.zero_le _) (Nat.zero_le _) dX0_passForLoan_7 ?_
  refine g_is ((lentD σ d q)) rfl ?_
  refine g_istore_n [(3, .int (lentD σ d q)), (0, .ref (h 0)), (1, .int (nI (q))), (2, .int (d))] C dX0_passForLoan_10 rfl (by decide) rfl ?_
  refine g_aload_n 1 C rfl dX0_passForLoan_11 rfl ?_
  refine g_get (C0 := RX0) (T := TX0) (N := 17) 0 0 13 (.ref (h 9)) C hin rfl rfl (by decide) (by decide +kernel) rfl dX0_passForLoan_12 ?_
  refine g_iload_n 2 C rfl dX0_passForLoan_15 rfl ?_
  refine g_ialdN (cA := cI) (n := 8) (a := h 9) (f := σ.2 8) q 9 0 C rfl rfl (by omega) (by decide) dX0_passForLoan_16 ?_
  obtain ⟨j, hj, ej⟩ := hLH q
  refine g_is (nI (j)) ej ?_
  refine g_istore [(4, .int (nI (j))), (3, .int (lentD σ d q)), (0, .ref (h 0)), (1, .int (nI (q))), (2, .int (d))] C dX0_passForLoan_17 (by decide) rfl ?_
  refine g_aload_n 2 C rfl dX0_passForLoan_19 rfl ?_
  refine g_get (C0 := RX0) (T := TX0) (N := 17) 0 0 15 (.ref (h 11)) C hin rfl rfl (by decide) (by decide +kernel) rfl dX0_passForLoan_20 ?_
  refine g_iload 0 C rfl dX0_passForLoan_23 ?_
  refine g_ialdN (cA := cI) (n := 4) (a := h 11) (f := σ.2 10) j 11 0 C rfl rfl (by omega) (by decide) dX0_passForLoan_25 ?_
  refine g_bipush 50 C dX0_passForLoan_26 (by decide) ?_
  refine g_isub C dX0_passForLoan_28 ?_
  refine g_abs C (by decide +kernel) (by decide +kernel) (by decide +kernel) (by decide +kernel) (Nat.le_of_ble_eq_true rfl) (Nat.le_of_ble_eq_true rfl) (Nat.zero_le _) (Nat.zero_le _) dX0_passForLoan_29 ?_
  refine g_bipush 10 C dX0_passForLoan_32 (by decide) ?_
  refine g_icmp_le 47 C dX0_passForLoan_34 (by decide) (fun c_34_1 => ?_) (fun c_34_1 => ?_)
  ·
    refine g_aload_n 2 C rfl dX0_passForLoan_47 rfl ?_
    refine g_get (C0 := RX0) (T := TX0) (N := 17) 0 0 16 (.ref (h 12)) C hin rfl rfl (by decide) (by decide +kernel) rfl dX0_passForLoan_48 ?_
    refine g_iload 0 C rfl dX0_passForLoan_51 ?_
    refine g_dup2 C dX0_passForLoan_53 rfl rfl ?_
    refine g_ialdN (cA := cI) (n := 4) (a := h 12) (f := σ.2 11) j 12 0 C rfl rfl (by omega) (by decide) dX0_passForLoan_54 ?_
    refine g_iload_n 1 C rfl dX0_passForLoan_55 rfl ?_
    refine g_aload_n 2 C rfl dX0_passForLoan_56 rfl ?_
    refine g_get (C0 := RX0) (T := TX0) (N := 17) 0 0 14 (.ref (h 10)) C hin rfl rfl (by decide) (by decide +kernel) rfl dX0_passForLoan_57 ?_
    refine g_iload_n 3 C rfl dX0_passForLoan_60 rfl ?_
    refine g_ialdN (cA := cI) (n := 8) (a := h 10) (f := σ.2 9) q 10 0 C rfl rfl (by omega) (by decide) dX0_passForLoan_61 ?_
    refine g_imul C dX0_passForLoan_62 ?_
    refine g_iadd C dX0_passForLoan_63 ?_
    refine g_iastN (cA := cI) (n := 4) (a := h 12) (f := σ.2 11) (x := ((σ.2 11 j) + ((lentD σ d q) * (σ.2 9 q)))) j 12 0 (wA cI h (sA σ 11 (upd (σ.2 11) j (((σ.2 11 j) + ((lentD σ d q) * (σ.2 9 q))))))) C rfl rfl (by omega) (by decide) rfl dX0_passForLoan_64 ?_
    refine g_aload_n 2 C rfl dX0_passForLoan_65 rfl ?_
    refine g_get (C0 := RX0) (T := TX0) (N := 17) 0 0 12 (.ref (h 8)) C hin rfl rfl (by decide) (by decide +kernel) rfl dX0_passForLoan_66 ?_
    refine g_iload_n 3 C rfl dX0_passForLoan_69 rfl ?_
    refine g_dup2 C dX0_passForLoan_70 rfl rfl ?_
    refine g_ialdN (cA := cI) (n := 8) (a := h 8) (f := σ.2 7) q 8 0 C rfl rfl (by omega) (by decide) dX0_passForLoan_71 ?_
    refine g_iload_n 1 C rfl dX0_passForLoan_72 rfl ?_
    refine g_isub C dX0_passForLoan_73 ?_
    refine g_iastN (cA := cI) (n := 8) (a := h 8) (f := σ.2 7) (x := ((σ.2 7 q) - (lentD σ d q))) q 8 0 (wA cI h (sA (sA σ 11 (upd (σ.2 11) j (((σ.2 11 j) + ((lentD σ d q) * (σ.2 9 q)))))) 7 (upd (σ.2 7) q (((σ.2 7 q) - (lentD σ d q)))))) C rfl rfl (by omega) (by decide) rfl dX0_passForLoan_74 ?_
    exact g_vret C hr dX0_passForLoan_75 (Nat.zero_le _) (Nat.zero_le _) rfl rfl (by rw [pfl, ej, cl_nI (by omega), if_pos c_34_1])
  ·
    refine g_aload_n 2 C rfl dX0_passForLoan_37 rfl ?_
    refine g_get (C0 := RX0) (T := TX0) (N := 17) 0 0 10 (.ref (h 6)) C hin rfl rfl (by decide) (by decide +kernel) rfl dX0_passForLoan_38 ?_
    refine g_iload_n 3 C rfl dX0_passForLoan_41 rfl ?_
    refine g_dup2 C dX0_passForLoan_42 rfl rfl ?_
    refine g_ialdN (cA := cI) (n := 8) (a := h 6) (f := σ.2 5) q 6 0 C rfl rfl (by omega) (by decide) dX0_passForLoan_43 ?_
    refine g_iload_n 1 C rfl dX0_passForLoan_44 rfl ?_
    refine g_iadd C dX0_passForLoan_45 ?_
    refine g_iastN (cA := cI) (n := 8) (a := h 6) (f := σ.2 5) (x := ((σ.2 5 q) + (lentD σ d q))) q 6 0 (wA cI h (sA σ 5 (upd (σ.2 5) q (((σ.2 5 q) + (lentD σ d q)))))) C rfl rfl (by omega) (by decide) rfl dX0_passForLoan_46 ?_
    refine g_aload_n 2 C rfl dX0_passForLoan_47 rfl ?_
    refine g_get (C0 := RX0) (T := TX0) (N := 17) 0 0 16 (.ref (h 12)) C hin rfl rfl (by decide) (by decide +kernel) rfl dX0_passForLoan_48 ?_
    refine g_iload 0 C rfl dX0_passForLoan_51 ?_
    refine g_dup2 C dX0_passForLoan_53 rfl rfl ?_
    refine g_ialdN (cA := cI) (n := 4) (a := h 12) (f := σ.2 11) j 12 0 C rfl rfl (by omega) (by decide) dX0_passForLoan_54 ?_
    refine g_iload_n 1 C rfl dX0_passForLoan_55 rfl ?_
    refine g_aload_n 2 C rfl dX0_passForLoan_56 rfl ?_
    refine g_get (C0 := RX0) (T := TX0) (N := 17) 0 0 14 (.ref (h 10)) C hin rfl rfl (by decide) (by decide +kernel) rfl dX0_passForLoan_57 ?_
    refine g_iload_n 3 C rfl dX0_passForLoan_60 rfl ?_
    refine g_ialdN (cA := cI) (n := 8) (a := h 10) (f := σ.2 9) q 10 0 C rfl rfl (by omega) (by decide) dX0_passForLoan_61 ?_
    refine g_imul C dX0_passForLoan_62 ?_
    refine g_iadd C dX0_passForLoan_63 ?_
    refine g_iastN (cA := cI) (n := 4) (a := h 12) (f := σ.2 11) (x := ((σ.2 11 j) + ((lentD σ d q) * (σ.2 9 q)))) j 12 0 (wA cI h (sA (sA σ 5 (upd (σ.2 5) q (((σ.2 5 q) + (lentD σ d q))))) 11 (upd (σ.2 11) j (((σ.2 11 j) + ((lentD σ d q) * (σ.2 9 q))))))) C rfl rfl (by omega) (by decide) rfl dX0_passForLoan_64 ?_
    refine g_aload_n 2 C rfl dX0_passForLoan_65 rfl ?_
    refine g_get (C0 := RX0) (T := TX0) (N := 17) 0 0 12 (.ref (h 8)) C hin rfl rfl (by decide) (by decide +kernel) rfl dX0_passForLoan_66 ?_
    refine g_iload_n 3 C rfl dX0_passForLoan_69 rfl ?_
    refine g_dup2 C dX0_passForLoan_70 rfl rfl ?_
    refine g_ialdN (cA := cI) (n := 8) (a := h 8) (f := σ.2 7) q 8 0 C rfl rfl (by omega) (by decide) dX0_passForLoan_71 ?_
    refine g_iload_n 1 C rfl dX0_passForLoan_72 rfl ?_
    refine g_isub C dX0_passForLoan_73 ?_
    refine g_iastN (cA := cI) (n := 8) (a := h 8) (f := σ.2 7) (x := ((σ.2 7 q) - (lentD σ d q))) q 8 0 (wA cI h (sA (sA (sA σ 5 (upd (σ.2 5) q (((σ.2 5 q) + (lentD σ d q))))) 11 (upd (σ.2 11) j (((σ.2 11 j) + ((lentD σ d q) * (σ.2 9 q)))))) 7 (upd (σ.2 7) q (((σ.2 7 q) - (lentD σ d q)))))) C rfl rfl (by omega) (by decide) rfl dX0_passForLoan_74 ?_
    exact g_vret C hr dX0_passForLoan_75 (Nat.zero_le _) (Nat.zero_le _) rfl rfl (by rw [pfl, ej, cl_nI (by omega), if_neg c_34_1])
end
section
/-! The book, its calls (1). -/
set_option maxRecDepth 100000 in
set_option maxHeartbeats 4000000 in
theorem c_checkColour (l : Launch) (D : va_G) (cI cJ : ClassId) (hst : l.stackTraces = false) (w : va_W) (r g b : Int32) (K : Nat) (hK : K = if out r 0 255 ∨ out g 0 255 ∨ out b 0 255 then 2 else 0) : MC l yX0_checkColour wsX0_checkColour 7 112 D (tyIJ cI cJ) [.int (r), .int (g), .int (b)] w w (exT K) none (nT K) := by
  refine MC.ofG (cc := cX0_checkColour) (maxL := 3) (ret := none) [(0, .int (r)), (1, .int (g)), (2, .int (b))] (by decide) rfl (Nat.le_of_ble_eq_true rfl) rfl ?_
  intro p e s m args below meth c C hr hout
  refine g_iload_n 0 C rfl dX0_checkColour_0 rfl ?_
  refine g_iconst 0 C dX0_checkColour_1 (by decide) ?_
  refine g_sipush 255 C dX0_checkColour_2 (by decide) ?_
  by_cases c_5_1 : out (r) (0) (255)
  ·
    obtain rfl : K = 2 := hK.trans (by simp only [c_5_1, if_true, if_false, or_true, true_or, or_false, false_or, or_self])
    exact g_callSX (na := 3) (av := [.int (r), .int (0), .int (255)]) (c_checkRange l D cI cJ hst _ (r) (0) (255) 2 (if_pos c_5_1).symm) C gX0_checkColour_X0_checkRange rfl (by decide +kernel) rfl ⟨by decide, by decide⟩ rfl (Nat.le_of_ble_eq_true rfl) ⟨by decide, by decide⟩ hout (by decide) (by decide) rfl dX0_checkColour_5
  refine g_callS0 (na := 3) (av := [.int (r), .int (0), .int (255)]) (c_checkRange l D cI cJ hst _ (r) (0) (255) 0 (if_neg c_5_1).symm) C gX0_checkColour_X0_checkRange rfl (by decide +kernel) rfl ⟨Nat.le_of_ble_eq_true rfl, Nat.le_of_ble_eq_true rfl⟩ rfl (Nat.le_of_ble_eq_true rfl) ⟨Nat.zero_le _, Nat.zero_le _⟩ rfl dX0_checkColour_5 ?_
  have hr1 := out_lo c_5_1
  refine g_iload_n 1 C rfl dX0_checkColour_8 rfl ?_
  refine g_iconst 0 C dX0_checkColour_9 (by decide) ?_
  refine g_sipush 255 C dX0_checkColour_10 (by decide) ?_
  by_cases c_13_2 : out (g) (0) (255)
  ·
    obtain rfl : K = 2 := hK.trans (by simp only [c_5_1, c_13_2, if_true, if_false, or_true, true_or, or_false, false_or, or_self])
    exact g_callSX (na := 3) (av := [.int (g), .int (0), .int (255)]) (c_checkRange l D cI cJ hst _ (g) (0) (255) 2 (if_pos c_13_2).symm) C gX0_checkColour_X0_checkRange rfl (by decide +kernel) rfl ⟨by decide, by decide⟩ rfl (Nat.le_of_ble_eq_true rfl) ⟨by decide, by decide⟩ hout (by decide) (by decide) rfl dX0_checkColour_13
  refine g_callS0 (na := 3) (av := [.int (g), .int (0), .int (255)]) (c_checkRange l D cI cJ hst _ (g) (0) (255) 0 (if_neg c_13_2).symm) C gX0_checkColour_X0_checkRange rfl (by decide +kernel) rfl ⟨Nat.le_of_ble_eq_true rfl, Nat.le_of_ble_eq_true rfl⟩ rfl (Nat.le_of_ble_eq_true rfl) ⟨Nat.zero_le _, Nat.zero_le _⟩ rfl dX0_checkColour_13 ?_
  have hg1 := out_lo c_13_2
  refine g_iload_n 2 C rfl dX0_checkColour_16 rfl ?_
  refine g_iconst 0 C dX0_checkColour_17 (by decide) ?_
  refine g_sipush 255 C dX0_checkColour_18 (by decide) ?_
  by_cases c_21_3 : out (b) (0) (255)
  ·
    obtain rfl : K = 2 := hK.trans (by simp only [c_5_1, c_13_2, c_21_3, if_true, if_false, or_true, true_or, or_false, false_or, or_self])
    exact g_callSX (na := 3) (av := [.int (b), .int (0), .int (255)]) (c_checkRange l D cI cJ hst _ (b) (0) (255) 2 (if_pos c_21_3).symm) C gX0_checkColour_X0_checkRange rfl (by decide +kernel) rfl ⟨by decide, by decide⟩ rfl (Nat.le_of_ble_eq_true rfl) ⟨by decide, by decide⟩ hout (by decide) (by decide) rfl dX0_checkColour_21
  refine g_callS0 (na := 3) (av := [.int (b), .int (0), .int (255)]) (c_checkRange l D cI cJ hst _ (b) (0) (255) 0 (if_neg c_21_3).symm) C gX0_checkColour_X0_checkRange rfl (by decide +kernel) rfl ⟨Nat.le_of_ble_eq_true rfl, Nat.le_of_ble_eq_true rfl⟩ rfl (Nat.le_of_ble_eq_true rfl) ⟨Nat.zero_le _, Nat.zero_le _⟩ rfl dX0_checkColour_21 ?_
  have hb1 := out_lo c_21_3
  obtain rfl : K = 0 := hK.trans (by simp only [c_5_1, c_13_2, c_21_3, if_true, if_false, or_true, true_or, or_false, false_or, or_self])
  exact g_vret C hr dX0_checkColour_24 (Nat.zero_le _) (Nat.zero_le _) rfl rfl rfl
set_option maxRecDepth 100000 in
set_option maxHeartbeats 4000000 in
theorem c_checkAtHome (l : Launch) (D : va_G) (cI cJ : ClassId) (hst : l.stackTraces = false) (h : Nat → Nat) (σ : gS) (np nt no ni : Nat) (hI : iA σ np nt no ni) (q : Nat) (hq : q < 8) (K : Nat) (hK : K = if ¬ σ.2 7 q ≤ 0 then 3 else 0) : MC l yX0_checkAtHome wsX0_checkAtHome 6 90 D (tyIJ cI cJ) [.ref (h 0), .int (nI (q))] (wA cI h σ) (wA cI h σ) (exT K) none (nT K) := by
  have hI0 := hI
  obtain ⟨⟨hnp, hnp6⟩, ⟨hnt, hnt12⟩, ⟨hno, hno10⟩, ⟨hni, hni8⟩, hPT, hLC, hLH⟩ := hI
  refine MC.ofG (cc := cX0_checkAtHome) (maxL := 2) (ret := none) [(0, .ref (h 0)), (1, .int (nI (q)))] (by decide) rfl (Nat.le_of_ble_eq_true rfl) rfl ?_
  intro p e s m args below meth c C hr hout
  refine g_aload_n 0 C rfl dX0_checkAtHome_0 rfl ?_
  refine g_iload_n 1 C rfl dX0_checkAtHome_1 rfl ?_
  refine g_callV0 (C0 := RX0) (T := TX0) (N := 17) (ci := 0) (na := 1) (As := [.int (nI (q))]) (c_isLent l D cI cJ h σ np nt no ni hI0 q (by omega)) C gX0_checkAtHome_X0_isLent rfl (by decide +kernel) rfl ⟨Nat.le_of_ble_eq_true rfl, Nat.le_of_ble_eq_true rfl⟩ rfl rfl rfl (Nat.le_of_ble_eq_true rfl) ⟨Nat.zero_le _, Nat.zero_le _⟩ rfl dX0_checkAtHome_2 ?_
  refine g_if_eq 18 C dX0_checkAtHome_5 (by decide) (fun c_5_1 => ?_) (fun c_5_1 => ?_)
  ·
    obtain rfl : K = 0 := hK.trans (if_neg (bI_eq c_5_1))
    exact g_vret C hr dX0_checkAtHome_18 (Nat.zero_le _) (Nat.zero_le _) rfl rfl rfl
  ·
    obtain rfl : K = 3 := hK.trans (if_pos (bI_ne c_5_1))
    exact g_throw (cls := eISE) (text := "the picture is lent") C hst rfl (by decide +kernel) (by decide +kernel) (by decide +kernel) (by decide +kernel) (by decide +kernel) (by decide +kernel) (by decide +kernel) hout dX0_checkAtHome_8 dX0_checkAtHome_11 dX0_checkAtHome_12 dX0_checkAtHome_14 dX0_checkAtHome_17 (by decide) (by decide) (by decide) (by decide) (by decide) (by decide) rfl
set_option maxRecDepth 100000 in
set_option maxHeartbeats 4000000 in
theorem c_pigment (l : Launch) (D : va_G) (cI cJ : ClassId) (hst : l.stackTraces = false) (h : Nat → Nat) (σ : gS) (np nt no ni : Nat) (hI : iA σ np nt no ni) (r g b : Int32) (K : Nat) (hK : K = th_pigment np r g b) : MC l yX0_pigment wsX0_pigment 8 134 D (tyIJ cI cJ) [.ref (h 0), .int (r), .int (g), .int (b)] (wA cI h σ) (wA cI h (s_pigment σ np r g b)) (exT K) (some (.int (nI np))) (nT K) := by
  have hI0 := hI
  obtain ⟨⟨hnp, hnp6⟩, ⟨hnt, hnt12⟩, ⟨hno, hno10⟩, ⟨hni, hni8⟩, hPT, hLC, hLH⟩ := hI
  refine MC.ofG (cc := cX0_pigment) (maxL := 5) (ret := (some .int)) [(0, .ref (h 0)), (1, .int (r)), (2, .int (g)), (3, .int (b))] (by decide) rfl (Nat.le_of_ble_eq_true rfl) rfl ?_
  intro p e s m args below meth c C hr hout
  have hin : ∀ w ∈ wsX00, w ∈ wsX0_pigment := fun w h => by first | exact List.mem_cons_of_mem _ (List.mem_append_right _ h) | exact List.mem_cons_of_mem _ (List.mem_append_left _ (List.mem_append_right _ h)) | exact List.mem_cons_of_mem _ (List.mem_append_left _ (List.mem_append_left _ (List.mem_append_right _ h))) | exact List.mem_cons_of_mem _ (List.mem_append_left _ (List.mem_append_left _ (List.mem_append_left _ (List.mem_append_right _ h)))) | exact List.mem_cons_of_mem _ (List.mem_append_left _ (List.mem_append_left _ (List.mem_append_left _ (List.mem_append_left _ (List.mem_append_right _ h)))))
  refine g_iload_n 1 C rfl dX0_pigment_0 rfl ?_
  refine g_iload_n 2 C rfl dX0_pigment_1 rfl ?_
  refine g_iload_n 3 C rfl dX0_pigment_2 rfl ?_
  by_cases c_3_1 : out (r) 0 255 ∨ out (g) 0 255 ∨ out (b) 0 255
  ·
    obtain rfl : K = 2 := hK.trans (by simp only [th_pigment, c_3_1, if_true, if_false, not_true, not_false_iff])
    exact g_callSX (na := 3) (av := [.int (r), .int (g), .int (b)]) (c_checkColour l D cI cJ hst _ (r) (g) (b) 2 (if_pos c_3_1).symm) C gX0_pigment_X0_checkColour rfl (by decide +kernel) rfl ⟨by decide, by decide⟩ rfl (Nat.le_of_ble_eq_true rfl) ⟨by decide, by decide⟩ hout (by decide) (by decide) rfl dX0_pigment_3
  refine g_callS0 (na := 3) (av := [.int (r), .int (g), .int (b)]) (c_checkColour l D cI cJ hst _ (r) (g) (b) 0 (if_neg c_3_1).symm) C gX0_pigment_X0_checkColour rfl (by decide +kernel) rfl ⟨Nat.le_of_ble_eq_true rfl, Nat.le_of_ble_eq_true rfl⟩ rfl (Nat.le_of_ble_eq_true rfl) ⟨Nat.zero_le _, Nat.zero_le _⟩ rfl dX0_pigment_3 ?_
  refine g_aload_n 0 C rfl dX0_pigment_6 rfl ?_
  refine g_get (C0 := RX0) (T := TX0) (N := 17) 0 0 0 (.int (σ.1 0)) C hin rfl rfl (by decide) (by decide +kernel) rfl dX0_pigment_7 ?_
  refine g_is (nI np) hnp ?_
  refine g_bipush 6 C dX0_pigment_10 (by decide) ?_
  refine g_icmp_lt 25 C dX0_pigment_12 (by decide) (fun c_12_2 => ?_) (fun c_12_2 => ?_)
  ·
    have d_12_2 : np < 6 := (nI_ltI (a := np) (b := 6) (by omega) (by omega)).mp c_12_2
    refine g_aload_n 0 C rfl dX0_pigment_25 rfl ?_
    refine g_get (C0 := RX0) (T := TX0) (N := 17) 0 0 0 (.int (σ.1 0)) C hin rfl rfl (by decide) (by decide +kernel) rfl dX0_pigment_26 ?_
    refine g_is (nI np) hnp ?_
    refine g_iconst 3 C dX0_pigment_29 (by decide) ?_
    refine g_imulN np 3 C dX0_pigment_30 ?_
    refine g_istore [(4, .int (nI (np * 3))), (0, .ref (h 0)), (1, .int (r)), (2, .int (g)), (3, .int (b))] C dX0_pigment_31 (by decide) rfl ?_
    refine g_aload_n 1 C rfl dX0_pigment_33 rfl ?_
    refine g_get (C0 := RX0) (T := TX0) (N := 17) 0 0 5 (.ref (h 1)) C hin rfl rfl (by decide) (by decide +kernel) rfl dX0_pigment_34 ?_
    refine g_iload 0 C rfl dX0_pigment_37 ?_
    refine g_iload_n 2 C rfl dX0_pigment_39 rfl ?_
    refine g_iastN (cA := cI) (n := 18) (a := h 1) (f := σ.2 0) (x := r) (np * 3) 1 0 (wA cI h (sA σ 0 (upd (σ.2 0) (np * 3) (r)))) C rfl rfl (by omega) (by decide) rfl dX0_pigment_40 ?_
    refine g_aload_n 1 C rfl dX0_pigment_41 rfl ?_
    refine g_get (C0 := RX0) (T := TX0) (N := 17) 0 0 5 (.ref (h 1)) C hin rfl rfl (by decide) (by decide +kernel) rfl dX0_pigment_42 ?_
    refine g_iload 0 C rfl dX0_pigment_45 ?_
    refine g_iconst 1 C dX0_pigment_47 (by decide) ?_
    refine g_iaddN (np * 3) 1 C dX0_pigment_48 ?_
    refine g_iload_n 3 C rfl dX0_pigment_49 rfl ?_
    refine g_iastN (cA := cI) (n := 18) (a := h 1) (f := upd (σ.2 0) (np * 3) (r)) (x := g) ((np * 3) + 1) 1 0 (wA cI h (sA σ 0 (upd (upd (σ.2 0) (np * 3) (r)) ((np * 3) + 1) (g)))) C rfl rfl (by omega) (by decide) rfl dX0_pigment_50 ?_
    refine g_aload_n 1 C rfl dX0_pigment_51 rfl ?_
    refine g_get (C0 := RX0) (T := TX0) (N := 17) 0 0 5 (.ref (h 1)) C hin rfl rfl (by decide) (by decide +kernel) rfl dX0_pigment_52 ?_
    refine g_iload 0 C rfl dX0_pigment_55 ?_
    refine g_iconst 2 C dX0_pigment_57 (by decide) ?_
    refine g_iaddN (np * 3) 2 C dX0_pigment_58 ?_
    refine g_iload_n 4 C rfl dX0_pigment_59 rfl ?_
    refine g_iastN (cA := cI) (n := 18) (a := h 1) (f := upd (upd (σ.2 0) (np * 3) (r)) ((np * 3) + 1) (g)) (x := b) ((np * 3) + 2) 1 0 (wA cI h (sA σ 0 (upd (upd (upd (σ.2 0) (np * 3) (r)) ((np * 3) + 1) (g)) ((np * 3) + 2) (b)))) C rfl rfl (by omega) (by decide) rfl dX0_pigment_60 ?_
    refine g_aload_n 1 C rfl dX0_pigment_61 rfl ?_
    refine g_dup C dX0_pigment_62 rfl ?_
    refine g_get (C0 := RX0) (T := TX0) (N := 17) 0 0 0 (.int (σ.1 0)) C hin rfl rfl (by decide) (by decide +kernel) rfl dX0_pigment_63 ?_
    refine g_is (nI np) hnp ?_
    refine g_iconst 1 C dX0_pigment_66 (by decide) ?_
    refine g_iaddN np 1 C dX0_pigment_67 ?_
    refine g_put (C0 := RX0) (T := TX0) (N := 17) 0 0 0 (wA cI h (sS (sA σ 0 (upd (upd (upd (σ.2 0) (np * 3) (r)) ((np * 3) + 1) (g)) ((np * 3) + 2) (b))) 0 (nI (np + 1)))) C hin tyX0_ok nmX0 rfl rfl (by decide) (by decide +kernel) rfl (by decide +kernel) (Nat.le_of_ble_eq_true rfl) rfl dX0_pigment_68 ?_
    refine g_aload_n 1 C rfl dX0_pigment_71 rfl ?_
    refine g_get (C0 := RX0) (T := TX0) (N := 17) 0 0 0 (.int (nI (np + 1))) C hin rfl rfl (by decide) (by decide +kernel) rfl dX0_pigment_72 ?_
    refine g_iconst 1 C dX0_pigment_75 (by decide) ?_
    refine g_isubN (np + 1) 1 C (by omega) dX0_pigment_76 ?_
    obtain rfl : K = 0 := hK.trans (by simp only [th_pigment, c_3_1, c_12_2, if_true, if_false, not_true, not_false_iff])
    exact g_iret C hr rfl dX0_pigment_77 (Nat.zero_le _) (Nat.zero_le _) rfl rfl rfl
  ·
    have d_12_2 : ¬ np < 6 := fun q => c_12_2 ((nI_ltI (a := np) (b := 6) (by omega) (by omega)).mpr q)
    obtain rfl : K = 3 := hK.trans (by simp only [th_pigment, c_3_1, c_12_2, if_true, if_false, not_true, not_false_iff])
    exact g_throw (cls := eISE) (text := "no more pigments") C hst rfl (by decide +kernel) (by decide +kernel) (by decide +kernel) (by decide +kernel) (by decide +kernel) (by decide +kernel) (by decide +kernel) hout dX0_pigment_15 dX0_pigment_18 dX0_pigment_19 dX0_pigment_21 dX0_pigment_24 (by decide) (by decide) (by decide) (by decide) (by decide) (by decide) rfl
set_option maxRecDepth 100000 in
set_option maxHeartbeats 4000000 in
theorem c_tube (l : Launch) (D : va_G) (cI cJ : ClassId) (hst : l.stackTraces = false) (h : Nat → Nat) (σ : gS) (np nt no ni : Nat) (hI : iA σ np nt no ni) (x g : Int32) (K : Nat) (hK : K = th_tube np nt x g) : MC l yX0_tube wsX0_tube 7 112 D (tyIJ cI cJ) [.ref (h 0), .int (x), .int (g)] (wA cI h σ) (wA cI h (s_tube σ nt x g)) (exT K) (some (.int (nI nt))) (nT K) := by
  have hI0 := hI
  obtain ⟨⟨hnp, hnp6⟩, ⟨hnt, hnt12⟩, ⟨hno, hno10⟩, ⟨hni, hni8⟩, hPT, hLC, hLH⟩ := hI
  refine MC.ofG (cc := cX0_tube) (maxL := 3) (ret := (some .int)) [(0, .ref (h 0)), (1, .int (x)), (2, .int (g))] (by decide) rfl (Nat.le_of_ble_eq_true rfl) rfl ?_
  intro p e s m args below meth c C hr hout
  have hin : ∀ w ∈ wsX00, w ∈ wsX0_tube := fun w h => by first | exact List.mem_cons_of_mem _ (List.mem_append_right _ h) | exact List.mem_cons_of_mem _ (List.mem_append_left _ (List.mem_append_right _ h)) | exact List.mem_cons_of_mem _ (List.mem_append_left _ (List.mem_append_left _ (List.mem_append_right _ h))) | exact List.mem_cons_of_mem _ (List.mem_append_left _ (List.mem_append_left _ (List.mem_append_left _ (List.mem_append_right _ h)))) | exact List.mem_cons_of_mem _ (List.mem_append_left _ (List.mem_append_left _ (List.mem_append_left _ (List.mem_append_left _ (List.mem_append_right _ h)))))
  refine g_iload_n 1 C rfl dX0_tube_0 rfl ?_
  refine g_aload_n 0 C rfl dX0_tube_1 rfl ?_
  refine g_get (C0 := RX0) (T := TX0) (N := 17) 0 0 0 (.int (σ.1 0)) C hin rfl rfl (by decide) (by decide +kernel) rfl dX0_tube_2 ?_
  refine g_is (nI np) hnp ?_
  by_cases c_5_1 : bad x (nI (np))
  ·
    obtain rfl : K = 1 := hK.trans (by simp [th_tube, c_5_1])
    exact g_callSX (na := 2) (av := [.int (x), .int (nI (np))]) (c_checkNumber l D cI cJ hst _ x (nI (np)) 1 (if_pos c_5_1).symm) C gX0_tube_X0_checkNumber rfl (by decide +kernel) rfl ⟨by decide, by decide⟩ rfl (Nat.le_of_ble_eq_true rfl) ⟨by decide, by decide⟩ hout (by decide) (by decide) rfl dX0_tube_5
  refine g_callS0 (na := 2) (av := [.int (x), .int (nI (np))]) (c_checkNumber l D cI cJ hst _ x (nI (np)) 0 (if_neg c_5_1).symm) C gX0_tube_X0_checkNumber rfl (by decide +kernel) rfl ⟨Nat.le_of_ble_eq_true rfl, Nat.le_of_ble_eq_true rfl⟩ rfl (Nat.le_of_ble_eq_true rfl) ⟨Nat.zero_le _, Nat.zero_le _⟩ rfl dX0_tube_5 ?_
  obtain ⟨x', hx', rfl⟩ := nb_of (N := np) rfl (by omega) c_5_1
  have kx' : cl (nI x') = x' := cl_nI (by omega)
  refine g_iload_n 2 C rfl dX0_tube_8 rfl ?_
  refine g_iconst 1 C dX0_tube_9 (by decide) ?_
  refine g_sipush 1000 C dX0_tube_10 (by decide) ?_
  by_cases c_13_2 : out (g) (1) (1000)
  ·
    obtain rfl : K = 2 := hK.trans (by simp [th_tube, c_5_1, c_13_2, kx'])
    exact g_callSX (na := 3) (av := [.int (g), .int (1), .int (1000)]) (c_checkRange l D cI cJ hst _ (g) (1) (1000) 2 (if_pos c_13_2).symm) C gX0_tube_X0_checkRange rfl (by decide +kernel) rfl ⟨by decide, by decide⟩ rfl (Nat.le_of_ble_eq_true rfl) ⟨by decide, by decide⟩ hout (by decide) (by decide) rfl dX0_tube_13
  refine g_callS0 (na := 3) (av := [.int (g), .int (1), .int (1000)]) (c_checkRange l D cI cJ hst _ (g) (1) (1000) 0 (if_neg c_13_2).symm) C gX0_tube_X0_checkRange rfl (by decide +kernel) rfl ⟨Nat.le_of_ble_eq_true rfl, Nat.le_of_ble_eq_true rfl⟩ rfl (Nat.le_of_ble_eq_true rfl) ⟨Nat.zero_le _, Nat.zero_le _⟩ rfl dX0_tube_13 ?_
  have hg1 := out_lo c_13_2
  refine g_aload_n 0 C rfl dX0_tube_16 rfl ?_
  refine g_get (C0 := RX0) (T := TX0) (N := 17) 0 0 1 (.int (σ.1 1)) C hin rfl rfl (by decide) (by decide +kernel) rfl dX0_tube_17 ?_
  refine g_is (nI nt) hnt ?_
  refine g_bipush 12 C dX0_tube_20 (by decide) ?_
  refine g_icmp_lt 35 C dX0_tube_22 (by decide) (fun c_22_3 => ?_) (fun c_22_3 => ?_)
  ·
    have d_22_3 : nt < 12 := (nI_ltI (a := nt) (b := 12) (by omega) (by omega)).mp c_22_3
    refine g_aload_n 0 C rfl dX0_tube_35 rfl ?_
    refine g_get (C0 := RX0) (T := TX0) (N := 17) 0 0 6 (.ref (h 2)) C hin rfl rfl (by decide) (by decide +kernel) rfl dX0_tube_36 ?_
    refine g_aload_n 0 C rfl dX0_tube_39 rfl ?_
    refine g_get (C0 := RX0) (T := TX0) (N := 17) 0 0 1 (.int (σ.1 1)) C hin rfl rfl (by decide) (by decide +kernel) rfl dX0_tube_40 ?_
    refine g_is (nI nt) hnt ?_
    refine g_iload_n 1 C rfl dX0_tube_43 rfl ?_
    refine g_iastN (cA := cI) (n := 12) (a := h 2) (f := σ.2 1) (x := nI (x')) nt 2 0 (wA cI h (sA σ 1 (upd (σ.2 1) nt (nI (x'))))) C rfl rfl (by omega) (by decide) rfl dX0_tube_44 ?_
    refine g_aload_n 0 C rfl dX0_tube_45 rfl ?_
    refine g_get (C0 := RX0) (T := TX0) (N := 17) 0 0 7 (.ref (h 3)) C hin rfl rfl (by decide) (by decide +kernel) rfl dX0_tube_46 ?_
    refine g_aload_n 0 C rfl dX0_tube_49 rfl ?_
    refine g_get (C0 := RX0) (T := TX0) (N := 17) 0 0 1 (.int (σ.1 1)) C hin rfl rfl (by decide) (by decide +kernel) rfl dX0_tube_50 ?_
    refine g_is (nI nt) hnt ?_
    refine g_iload_n 2 C rfl dX0_tube_53 rfl ?_
    refine g_iastN (cA := cI) (n := 12) (a := h 3) (f := σ.2 2) (x := g) nt 3 0 (wA cI h (sA (sA σ 1 (upd (σ.2 1) nt (nI (x')))) 2 (upd (σ.2 2) nt (g)))) C rfl rfl (by omega) (by decide) rfl dX0_tube_54 ?_
    refine g_aload_n 0 C rfl dX0_tube_55 rfl ?_
    refine g_dup C dX0_tube_56 rfl ?_
    refine g_get (C0 := RX0) (T := TX0) (N := 17) 0 0 1 (.int (σ.1 1)) C hin rfl rfl (by decide) (by decide +kernel) rfl dX0_tube_57 ?_
    refine g_is (nI nt) hnt ?_
    refine g_iconst 1 C dX0_tube_60 (by decide) ?_
    refine g_iaddN nt 1 C dX0_tube_61 ?_
    refine g_put (C0 := RX0) (T := TX0) (N := 17) 0 0 1 (wA cI h (sS (sA (sA σ 1 (upd (σ.2 1) nt (nI (x')))) 2 (upd (σ.2 2) nt (g))) 1 (nI (nt + 1)))) C hin tyX0_ok nmX0 rfl rfl (by decide) (by decide +kernel) rfl (by decide +kernel) (Nat.le_of_ble_eq_true rfl) rfl dX0_tube_62 ?_
    refine g_aload_n 0 C rfl dX0_tube_65 rfl ?_
    refine g_get (C0 := RX0) (T := TX0) (N := 17) 0 0 1 (.int (nI (nt + 1))) C hin rfl rfl (by decide) (by decide +kernel) rfl dX0_tube_66 ?_
    refine g_iconst 1 C dX0_tube_69 (by decide) ?_
    refine g_isubN (nt + 1) 1 C (by omega) dX0_tube_70 ?_
    obtain rfl : K = 0 := hK.trans (by simp [th_tube, c_5_1, c_13_2, c_22_3, kx'])
    exact g_iret C hr rfl dX0_tube_71 (Nat.zero_le _) (Nat.zero_le _) rfl rfl rfl
  ·
    have d_22_3 : ¬ nt < 12 := fun q => c_22_3 ((nI_ltI (a := nt) (b := 12) (by omega) (by omega)).mpr q)
    obtain rfl : K = 3 := hK.trans (by simp [th_tube, c_5_1, c_13_2, c_22_3, kx'])
    exact g_throw (cls := eISE) (text := "no more tubes") C hst rfl (by decide +kernel) (by decide +kernel) (by decide +kernel) (by decide +kernel) (by decide +kernel) (by decide +kernel) (by decide +kernel) hout dX0_tube_25 dX0_tube_28 dX0_tube_29 dX0_tube_31 dX0_tube_34 (by decide) (by decide) (by decide) (by decide) (by decide) (by decide) rfl
set_option maxRecDepth 100000 in
set_option maxHeartbeats 4000000 in
theorem c_pot (l : Launch) (D : va_G) (cI cJ : ClassId) (hst : l.stackTraces = false) (h : Nat → Nat) (σ : gS) (np nt no ni : Nat) (hI : iA σ np nt no ni)  (K : Nat) (hK : K = th_pot no) : MC l yX0_pot wsX0_pot 6 90 D (tyIJ cI cJ) [.ref (h 0)] (wA cI h σ) (wA cI h (sS σ 2 (nI (no + 1)))) (exT K) (some (.int (nI no))) (nT K) := by
  have hI0 := hI
  obtain ⟨⟨hnp, hnp6⟩, ⟨hnt, hnt12⟩, ⟨hno, hno10⟩, ⟨hni, hni8⟩, hPT, hLC, hLH⟩ := hI
  refine MC.ofG (cc := cX0_pot) (maxL := 1) (ret := (some .int)) [(0, .ref (h 0))] (by decide) rfl (Nat.le_of_ble_eq_true rfl) rfl ?_
  intro p e s m args below meth c C hr hout
  have hin : ∀ w ∈ wsX00, w ∈ wsX0_pot := fun w h => by first | exact List.mem_cons_of_mem _ (List.mem_append_right _ h) | exact List.mem_cons_of_mem _ (List.mem_append_left _ (List.mem_append_right _ h)) | exact List.mem_cons_of_mem _ (List.mem_append_left _ (List.mem_append_left _ (List.mem_append_right _ h))) | exact List.mem_cons_of_mem _ (List.mem_append_left _ (List.mem_append_left _ (List.mem_append_left _ (List.mem_append_right _ h)))) | exact List.mem_cons_of_mem _ (List.mem_append_left _ (List.mem_append_left _ (List.mem_append_left _ (List.mem_append_left _ (List.mem_append_right _ h)))))
  refine g_aload_n 0 C rfl dX0_pot_0 rfl ?_
  refine g_get (C0 := RX0) (T := TX0) (N := 17) 0 0 2 (.int (σ.1 2)) C hin rfl rfl (by decide) (by decide +kernel) rfl dX0_pot_1 ?_
  refine g_is (nI no) hno ?_
  refine g_bipush 10 C dX0_pot_4 (by decide) ?_
  refine g_icmp_lt 19 C dX0_pot_6 (by decide) (fun c_6_1 => ?_) (fun c_6_1 => ?_)
  ·
    have d_6_1 : no < 10 := (nI_ltI (a := no) (b := 10) (by omega) (by omega)).mp c_6_1
    refine g_aload_n 0 C rfl dX0_pot_19 rfl ?_
    refine g_dup C dX0_pot_20 rfl ?_
    refine g_get (C0 := RX0) (T := TX0) (N := 17) 0 0 2 (.int (σ.1 2)) C hin rfl rfl (by decide) (by decide +kernel) rfl dX0_pot_21 ?_
    refine g_is (nI no) hno ?_
    refine g_iconst 1 C dX0_pot_24 (by decide) ?_
    refine g_iaddN no 1 C dX0_pot_25 ?_
    refine g_put (C0 := RX0) (T := TX0) (N := 17) 0 0 2 (wA cI h (sS σ 2 (nI (no + 1)))) C hin tyX0_ok nmX0 rfl rfl (by decide) (by decide +kernel) rfl (by decide +kernel) (Nat.le_of_ble_eq_true rfl) rfl dX0_pot_26 ?_
    refine g_aload_n 0 C rfl dX0_pot_29 rfl ?_
    refine g_get (C0 := RX0) (T := TX0) (N := 17) 0 0 2 (.int (nI (no + 1))) C hin rfl rfl (by decide) (by decide +kernel) rfl dX0_pot_30 ?_
    refine g_iconst 1 C dX0_pot_33 (by decide) ?_
    refine g_isubN (no + 1) 1 C (by omega) dX0_pot_34 ?_
    obtain rfl : K = 0 := hK.trans (by simp [th_pot, c_6_1])
    exact g_iret C hr rfl dX0_pot_35 (Nat.zero_le _) (Nat.zero_le _) rfl rfl rfl
  ·
    have d_6_1 : ¬ no < 10 := fun q => c_6_1 ((nI_ltI (a := no) (b := 10) (by omega) (by omega)).mpr q)
    obtain rfl : K = 3 := hK.trans (by simp [th_pot, c_6_1])
    exact g_throw (cls := eISE) (text := "no more pots") C hst rfl (by decide +kernel) (by decide +kernel) (by decide +kernel) (by decide +kernel) (by decide +kernel) (by decide +kernel) (by decide +kernel) hout dX0_pot_9 dX0_pot_12 dX0_pot_13 dX0_pot_15 dX0_pot_18 (by decide) (by decide) (by decide) (by decide) (by decide) (by decide) rfl
set_option maxRecDepth 100000 in
set_option maxHeartbeats 4000000 in
theorem c_picture (l : Launch) (D : va_G) (cI cJ : ClassId) (hst : l.stackTraces = false) (h : Nat → Nat) (σ : gS) (np nt no ni : Nat) (hI : iA σ np nt no ni)  (K : Nat) (hK : K = th_picture ni) : MC l yX0_picture wsX0_picture 6 90 D (tyIJ cI cJ) [.ref (h 0)] (wA cI h σ) (wA cI h (sS σ 3 (nI (ni + 1)))) (exT K) (some (.int (nI ni))) (nT K) := by
  have hI0 := hI
  obtain ⟨⟨hnp, hnp6⟩, ⟨hnt, hnt12⟩, ⟨hno, hno10⟩, ⟨hni, hni8⟩, hPT, hLC, hLH⟩ := hI
  refine MC.ofG (cc := cX0_picture) (maxL := 1) (ret := (some .int)) [(0, .ref (h 0))] (by decide) rfl (Nat.le_of_ble_eq_true rfl) rfl ?_
  intro p e s m args below meth c C hr hout
  have hin : ∀ w ∈ wsX00, w ∈ wsX0_picture := fun w h => by first | exact List.mem_cons_of_mem _ (List.mem_append_right _ h) | exact List.mem_cons_of_mem _ (List.mem_append_left _ (List.mem_append_right _ h)) | exact List.mem_cons_of_mem _ (List.mem_append_left _ (List.mem_append_left _ (List.mem_append_right _ h))) | exact List.mem_cons_of_mem _ (List.mem_append_left _ (List.mem_append_left _ (List.mem_append_left _ (List.mem_append_right _ h)))) | exact List.mem_cons_of_mem _ (List.mem_append_left _ (List.mem_append_left _ (List.mem_append_left _ (List.mem_append_left _ (List.mem_append_right _ h)))))
  refine g_aload_n 0 C rfl dX0_picture_0 rfl ?_
  refine g_get (C0 := RX0) (T := TX0) (N := 17) 0 0 3 (.int (σ.1 3)) C hin rfl rfl (by decide) (by decide +kernel) rfl dX0_picture_1 ?_
  refine g_is (nI ni) hni ?_
  refine g_bipush 8 C dX0_picture_4 (by decide) ?_
  refine g_icmp_lt 19 C dX0_picture_6 (by decide) (fun c_6_1 => ?_) (fun c_6_1 => ?_)
  ·
    have d_6_1 : ni < 8 := (nI_ltI (a := ni) (b := 8) (by omega) (by omega)).mp c_6_1
    refine g_aload_n 0 C rfl dX0_picture_19 rfl ?_
    refine g_dup C dX0_picture_20 rfl ?_
    refine g_get (C0 := RX0) (T := TX0) (N := 17) 0 0 3 (.int (σ.1 3)) C hin rfl rfl (by decide) (by decide +kernel) rfl dX0_picture_21 ?_
    refine g_is (nI ni) hni ?_
    refine g_iconst 1 C dX0_picture_24 (by decide) ?_
    refine g_iaddN ni 1 C dX0_picture_25 ?_
    refine g_put (C0 := RX0) (T := TX0) (N := 17) 0 0 3 (wA cI h (sS σ 3 (nI (ni + 1)))) C hin tyX0_ok nmX0 rfl rfl (by decide) (by decide +kernel) rfl (by decide +kernel) (Nat.le_of_ble_eq_true rfl) rfl dX0_picture_26 ?_
    refine g_aload_n 0 C rfl dX0_picture_29 rfl ?_
    refine g_get (C0 := RX0) (T := TX0) (N := 17) 0 0 3 (.int (nI (ni + 1))) C hin rfl rfl (by decide) (by decide +kernel) rfl dX0_picture_30 ?_
    refine g_iconst 1 C dX0_picture_33 (by decide) ?_
    refine g_isubN (ni + 1) 1 C (by omega) dX0_picture_34 ?_
    obtain rfl : K = 0 := hK.trans (by simp [th_picture, c_6_1])
    exact g_iret C hr rfl dX0_picture_35 (Nat.zero_le _) (Nat.zero_le _) rfl rfl rfl
  ·
    have d_6_1 : ¬ ni < 8 := fun q => c_6_1 ((nI_ltI (a := ni) (b := 8) (by omega) (by omega)).mpr q)
    obtain rfl : K = 3 := hK.trans (by simp [th_picture, c_6_1])
    exact g_throw (cls := eISE) (text := "no more pictures") C hst rfl (by decide +kernel) (by decide +kernel) (by decide +kernel) (by decide +kernel) (by decide +kernel) (by decide +kernel) (by decide +kernel) hout dX0_picture_9 dX0_picture_12 dX0_picture_13 dX0_picture_15 dX0_picture_18 (by decide) (by decide) (by decide) (by decide) (by decide) (by decide) rfl
set_option maxRecDepth 100000 in
set_option maxHeartbeats 4000000 in
theorem c_squeeze (l : Launch) (D : va_G) (cI cJ : ClassId) (hst : l.stackTraces = false) (h : Nat → Nat) (σ : gS) (np nt no ni : Nat) (hI : iA σ np nt no ni) (x t g : Int32) (K : Nat) (hK : K = th_squeeze σ nt no x t g) : MC l yX0_squeeze wsX0_squeeze 7 112 D (tyIJ cI cJ) [.ref (h 0), .int (x), .int (t), .int (g)] (wA cI h σ) (wA cI h (s_squeeze σ (cl x) (cl t) g)) (exT K) (some (.int (σ.2 2 (cl t) - g))) (nT K) := by
  have hI0 := hI
  obtain ⟨⟨hnp, hnp6⟩, ⟨hnt, hnt12⟩, ⟨hno, hno10⟩, ⟨hni, hni8⟩, hPT, hLC, hLH⟩ := hI
  refine MC.ofG (cc := cX0_squeeze) (maxL := 4) (ret := (some .int)) [(0, .ref (h 0)), (1, .int (x)), (2, .int (t)), (3, .int (g))] (by decide) rfl (Nat.le_of_ble_eq_true rfl) rfl ?_
  intro p e s m args below meth c C hr hout
  have hin : ∀ w ∈ wsX00, w ∈ wsX0_squeeze := fun w h => by first | exact List.mem_cons_of_mem _ (List.mem_append_right _ h) | exact List.mem_cons_of_mem _ (List.mem_append_left _ (List.mem_append_right _ h)) | exact List.mem_cons_of_mem _ (List.mem_append_left _ (List.mem_append_left _ (List.mem_append_right _ h))) | exact List.mem_cons_of_mem _ (List.mem_append_left _ (List.mem_append_left _ (List.mem_append_left _ (List.mem_append_right _ h)))) | exact List.mem_cons_of_mem _ (List.mem_append_left _ (List.mem_append_left _ (List.mem_append_left _ (List.mem_append_left _ (List.mem_append_right _ h)))))
  refine g_iload_n 1 C rfl dX0_squeeze_0 rfl ?_
  refine g_aload_n 0 C rfl dX0_squeeze_1 rfl ?_
  refine g_get (C0 := RX0) (T := TX0) (N := 17) 0 0 2 (.int (σ.1 2)) C hin rfl rfl (by decide) (by decide +kernel) rfl dX0_squeeze_2 ?_
  refine g_is (nI no) hno ?_
  by_cases c_5_1 : bad x (nI (no))
  ·
    obtain rfl : K = 1 := hK.trans (by simp [th_squeeze, c_5_1])
    exact g_callSX (na := 2) (av := [.int (x), .int (nI (no))]) (c_checkNumber l D cI cJ hst _ x (nI (no)) 1 (if_pos c_5_1).symm) C gX0_squeeze_X0_checkNumber rfl (by decide +kernel) rfl ⟨by decide, by decide⟩ rfl (Nat.le_of_ble_eq_true rfl) ⟨by decide, by decide⟩ hout (by decide) (by decide) rfl dX0_squeeze_5
  refine g_callS0 (na := 2) (av := [.int (x), .int (nI (no))]) (c_checkNumber l D cI cJ hst _ x (nI (no)) 0 (if_neg c_5_1).symm) C gX0_squeeze_X0_checkNumber rfl (by decide +kernel) rfl ⟨Nat.le_of_ble_eq_true rfl, Nat.le_of_ble_eq_true rfl⟩ rfl (Nat.le_of_ble_eq_true rfl) ⟨Nat.zero_le _, Nat.zero_le _⟩ rfl dX0_squeeze_5 ?_
  obtain ⟨x', hx', rfl⟩ := nb_of (N := no) rfl (by omega) c_5_1
  have kx' : cl (nI x') = x' := cl_nI (by omega)
  refine g_iload_n 2 C rfl dX0_squeeze_8 rfl ?_
  refine g_aload_n 0 C rfl dX0_squeeze_9 rfl ?_
  refine g_get (C0 := RX0) (T := TX0) (N := 17) 0 0 1 (.int (σ.1 1)) C hin rfl rfl (by decide) (by decide +kernel) rfl dX0_squeeze_10 ?_
  refine g_is (nI nt) hnt ?_
  by_cases c_13_2 : bad t (nI (nt))
  ·
    obtain rfl : K = 1 := hK.trans (by simp [th_squeeze, c_5_1, c_13_2, kx'])
    exact g_callSX (na := 2) (av := [.int (t), .int (nI (nt))]) (c_checkNumber l D cI cJ hst _ t (nI (nt)) 1 (if_pos c_13_2).symm) C gX0_squeeze_X0_checkNumber rfl (by decide +kernel) rfl ⟨by decide, by decide⟩ rfl (Nat.le_of_ble_eq_true rfl) ⟨by decide, by decide⟩ hout (by decide) (by decide) rfl dX0_squeeze_13
  refine g_callS0 (na := 2) (av := [.int (t), .int (nI (nt))]) (c_checkNumber l D cI cJ hst _ t (nI (nt)) 0 (if_neg c_13_2).symm) C gX0_squeeze_X0_checkNumber rfl (by decide +kernel) rfl ⟨Nat.le_of_ble_eq_true rfl, Nat.le_of_ble_eq_true rfl⟩ rfl (Nat.le_of_ble_eq_true rfl) ⟨Nat.zero_le _, Nat.zero_le _⟩ rfl dX0_squeeze_13 ?_
  obtain ⟨t', ht', rfl⟩ := nb_of (N := nt) rfl (by omega) c_13_2
  have kt' : cl (nI t') = t' := cl_nI (by omega)
  refine g_iload_n 3 C rfl dX0_squeeze_16 rfl ?_
  refine g_iconst 1 C dX0_squeeze_17 (by decide) ?_
  refine g_sipush 1000 C dX0_squeeze_18 (by decide) ?_
  by_cases c_21_3 : out (g) (1) (1000)
  ·
    obtain rfl : K = 2 := hK.trans (by simp [th_squeeze, c_5_1, c_13_2, c_21_3, kx', kt'])
    exact g_callSX (na := 3) (av := [.int (g), .int (1), .int (1000)]) (c_checkRange l D cI cJ hst _ (g) (1) (1000) 2 (if_pos c_21_3).symm) C gX0_squeeze_X0_checkRange rfl (by decide +kernel) rfl ⟨by decide, by decide⟩ rfl (Nat.le_of_ble_eq_true rfl) ⟨by decide, by decide⟩ hout (by decide) (by decide) rfl dX0_squeeze_21
  refine g_callS0 (na := 3) (av := [.int (g), .int (1), .int (1000)]) (c_checkRange l D cI cJ hst _ (g) (1) (1000) 0 (if_neg c_21_3).symm) C gX0_squeeze_X0_checkRange rfl (by decide +kernel) rfl ⟨Nat.le_of_ble_eq_true rfl, Nat.le_of_ble_eq_true rfl⟩ rfl (Nat.le_of_ble_eq_true rfl) ⟨Nat.zero_le _, Nat.zero_le _⟩ rfl dX0_squeeze_21 ?_
  have hg1 := out_lo c_21_3
  refine g_aload_n 0 C rfl dX0_squeeze_24 rfl ?_
  refine g_get (C0 := RX0) (T := TX0) (N := 17) 0 0 7 (.ref (h 3)) C hin rfl rfl (by decide) (by decide +kernel) rfl dX0_squeeze_25 ?_
  refine g_iload_n 2 C rfl dX0_squeeze_28 rfl ?_
  refine g_ialdN (cA := cI) (n := 12) (a := h 3) (f := σ.2 2) t' 3 0 C rfl rfl (by omega) (by decide) dX0_squeeze_29 ?_
  refine g_iload_n 3 C rfl dX0_squeeze_30 rfl ?_
  refine g_icmp_ge 44 C dX0_squeeze_31 (by decide) (fun c_31_4 => ?_) (fun c_31_4 => ?_)
  ·
    refine g_aload_n 0 C rfl dX0_squeeze_44 rfl ?_
    refine g_get (C0 := RX0) (T := TX0) (N := 17) 0 0 7 (.ref (h 3)) C hin rfl rfl (by decide) (by decide +kernel) rfl dX0_squeeze_45 ?_
    refine g_iload_n 2 C rfl dX0_squeeze_48 rfl ?_
    refine g_dup2 C dX0_squeeze_49 rfl rfl ?_
    refine g_ialdN (cA := cI) (n := 12) (a := h 3) (f := σ.2 2) t' 3 0 C rfl rfl (by omega) (by decide) dX0_squeeze_50 ?_
    refine g_iload_n 3 C rfl dX0_squeeze_51 rfl ?_
    refine g_isub C dX0_squeeze_52 ?_
    refine g_iastN (cA := cI) (n := 12) (a := h 3) (f := σ.2 2) (x := ((σ.2 2 t') - g)) t' 3 0 (wA cI h (sA σ 2 (upd (σ.2 2) t' (((σ.2 2 t') - g))))) C rfl rfl (by omega) (by decide) rfl dX0_squeeze_53 ?_
    refine g_aload_n 0 C rfl dX0_squeeze_54 rfl ?_
    refine g_get (C0 := RX0) (T := TX0) (N := 17) 0 0 8 (.ref (h 4)) C hin rfl rfl (by decide) (by decide +kernel) rfl dX0_squeeze_55 ?_
    refine g_iload_n 1 C rfl dX0_squeeze_58 rfl ?_
    refine g_callS0 (na := 1) (av := [.int (nI (x'))]) (c_potRow l D cI cJ _ (nI (x'))) C gX0_squeeze_X0_potRow rfl (by decide +kernel) rfl ⟨Nat.le_of_ble_eq_true rfl, Nat.le_of_ble_eq_true rfl⟩ rfl (Nat.le_of_ble_eq_true rfl) ⟨Nat.zero_le _, Nat.zero_le _⟩ rfl dX0_squeeze_59 ?_
    refine g_iload_n 2 C rfl dX0_squeeze_62 rfl ?_
    refine g_callS0 (na := 2) (av := [.int (nI (x')), .int (nI (t'))]) (c_place l D cI cJ _ x' t') C gX0_squeeze_X0_place rfl (by decide +kernel) rfl ⟨Nat.le_of_ble_eq_true rfl, Nat.le_of_ble_eq_true rfl⟩ rfl (Nat.le_of_ble_eq_true rfl) ⟨Nat.zero_le _, Nat.zero_le _⟩ rfl dX0_squeeze_63 ?_
    refine g_dup2 C dX0_squeeze_66 rfl rfl ?_
    refine g_ialdN (cA := cI) (n := 1284) (a := h 4) (f := σ.2 3) (x' * 12 + t') 4 0 C rfl rfl (by omega) (by decide) dX0_squeeze_67 ?_
    refine g_iload_n 3 C rfl dX0_squeeze_68 rfl ?_
    refine g_iadd C dX0_squeeze_69 ?_
    refine g_iastN (cA := cI) (n := 1284) (a := h 4) (f := σ.2 3) (x := ((σ.2 3 (x' * 12 + t')) + g)) (x' * 12 + t') 4 0 (wA cI h (sA (sA σ 2 (upd (σ.2 2) t' (((σ.2 2 t') - g)))) 3 (upd (σ.2 3) (x' * 12 + t') (((σ.2 3 (x' * 12 + t')) + g))))) C rfl rfl (by omega) (by decide) rfl dX0_squeeze_70 ?_
    refine g_aload_n 0 C rfl dX0_squeeze_71 rfl ?_
    refine g_get (C0 := RX0) (T := TX0) (N := 17) 0 0 7 (.ref (h 3)) C hin rfl rfl (by decide) (by decide +kernel) rfl dX0_squeeze_72 ?_
    refine g_iload_n 2 C rfl dX0_squeeze_75 rfl ?_
    refine g_ialdN (cA := cI) (n := 12) (a := h 3) (f := upd (σ.2 2) t' (((σ.2 2 t') - g))) t' 3 0 C rfl rfl (by omega) (by decide) dX0_squeeze_76 ?_
    refine g_is (((σ.2 2 t') - g)) pk_us ?_
    obtain rfl : K = 0 := hK.trans (by simp [th_squeeze, c_5_1, c_13_2, c_21_3, c_31_4, kx', kt'])
    exact g_iret C hr rfl dX0_squeeze_77 (Nat.zero_le _) (Nat.zero_le _) rfl (by rw [kt']) (by rw [kx', kt']; rfl)
  ·
    obtain rfl : K = 3 := hK.trans (by simp [th_squeeze, c_5_1, c_13_2, c_21_3, c_31_4, kx', kt'])
    exact g_throw (cls := eISE) (text := "the tube has not so much") C hst rfl (by decide +kernel) (by decide +kernel) (by decide +kernel) (by decide +kernel) (by decide +kernel) (by decide +kernel) (by decide +kernel) hout dX0_squeeze_34 dX0_squeeze_37 dX0_squeeze_38 dX0_squeeze_40 dX0_squeeze_43 (by decide) (by decide) (by decide) (by decide) (by decide) (by decide) rfl
set_option maxRecDepth 100000 in
set_option maxHeartbeats 4000000 in
theorem c_pour (l : Launch) (D : va_G) (cI cJ : ClassId) (hst : l.stackTraces = false) (h : Nat → Nat) (σ : gS) (np nt no ni : Nat) (hI : iA σ np nt no ni) (x y g : Int32) (K : Nat) (hK : K = th_pour σ nt no x y g) : MC l yX0_pour wsX0_pour 7 112 D (tyIJ cI cJ) [.ref (h 0), .int (x), .int (y), .int (g)] (wA cI h σ) (wA cI h (sA σ 3 (mvS σ nt (cl x) (cl y) g))) (exT K) (some (.int (rowS (mvS σ nt (cl x) (cl y) g) (cl y) nt))) (nT K) := by
  have hI0 := hI
  obtain ⟨⟨hnp, hnp6⟩, ⟨hnt, hnt12⟩, ⟨hno, hno10⟩, ⟨hni, hni8⟩, hPT, hLC, hLH⟩ := hI
  refine MC.ofG (cc := cX0_pour) (maxL := 4) (ret := (some .int)) [(0, .ref (h 0)), (1, .int (x)), (2, .int (y)), (3, .int (g))] (by decide) rfl (Nat.le_of_ble_eq_true rfl) rfl ?_
  intro p e s m args below meth c C hr hout
  have hin : ∀ w ∈ wsX00, w ∈ wsX0_pour := fun w h => by first | exact List.mem_cons_of_mem _ (List.mem_append_right _ h) | exact List.mem_cons_of_mem _ (List.mem_append_left _ (List.mem_append_right _ h)) | exact List.mem_cons_of_mem _ (List.mem_append_left _ (List.mem_append_left _ (List.mem_append_right _ h))) | exact List.mem_cons_of_mem _ (List.mem_append_left _ (List.mem_append_left _ (List.mem_append_left _ (List.mem_append_right _ h)))) | exact List.mem_cons_of_mem _ (List.mem_append_left _ (List.mem_append_left _ (List.mem_append_left _ (List.mem_append_left _ (List.mem_append_right _ h)))))
  refine g_iload_n 1 C rfl dX0_pour_0 rfl ?_
  refine g_aload_n 0 C rfl dX0_pour_1 rfl ?_
  refine g_get (C0 := RX0) (T := TX0) (N := 17) 0 0 2 (.int (σ.1 2)) C hin rfl rfl (by decide) (by decide +kernel) rfl dX0_pour_2 ?_
  refine g_is (nI no) hno ?_
  by_cases c_5_1 : bad x (nI (no))
  ·
    obtain rfl : K = 1 := hK.trans (by simp [th_pour, c_5_1])
    exact g_callSX (na := 2) (av := [.int (x), .int (nI (no))]) (c_checkNumber l D cI cJ hst _ x (nI (no)) 1 (if_pos c_5_1).symm) C gX0_pour_X0_checkNumber rfl (by decide +kernel) rfl ⟨by decide, by decide⟩ rfl (Nat.le_of_ble_eq_true rfl) ⟨by decide, by decide⟩ hout (by decide) (by decide) rfl dX0_pour_5
  refine g_callS0 (na := 2) (av := [.int (x), .int (nI (no))]) (c_checkNumber l D cI cJ hst _ x (nI (no)) 0 (if_neg c_5_1).symm) C gX0_pour_X0_checkNumber rfl (by decide +kernel) rfl ⟨Nat.le_of_ble_eq_true rfl, Nat.le_of_ble_eq_true rfl⟩ rfl (Nat.le_of_ble_eq_true rfl) ⟨Nat.zero_le _, Nat.zero_le _⟩ rfl dX0_pour_5 ?_
  obtain ⟨x', hx', rfl⟩ := nb_of (N := no) rfl (by omega) c_5_1
  have kx' : cl (nI x') = x' := cl_nI (by omega)
  refine g_iload_n 2 C rfl dX0_pour_8 rfl ?_
  refine g_aload_n 0 C rfl dX0_pour_9 rfl ?_
  refine g_get (C0 := RX0) (T := TX0) (N := 17) 0 0 2 (.int (σ.1 2)) C hin rfl rfl (by decide) (by decide +kernel) rfl dX0_pour_10 ?_
  refine g_is (nI no) hno ?_
  by_cases c_13_2 : bad y (nI (no))
  ·
    obtain rfl : K = 1 := hK.trans (by simp [th_pour, c_5_1, c_13_2, kx'])
    exact g_callSX (na := 2) (av := [.int (y), .int (nI (no))]) (c_checkNumber l D cI cJ hst _ y (nI (no)) 1 (if_pos c_13_2).symm) C gX0_pour_X0_checkNumber rfl (by decide +kernel) rfl ⟨by decide, by decide⟩ rfl (Nat.le_of_ble_eq_true rfl) ⟨by decide, by decide⟩ hout (by decide) (by decide) rfl dX0_pour_13
  refine g_callS0 (na := 2) (av := [.int (y), .int (nI (no))]) (c_checkNumber l D cI cJ hst _ y (nI (no)) 0 (if_neg c_13_2).symm) C gX0_pour_X0_checkNumber rfl (by decide +kernel) rfl ⟨Nat.le_of_ble_eq_true rfl, Nat.le_of_ble_eq_true rfl⟩ rfl (Nat.le_of_ble_eq_true rfl) ⟨Nat.zero_le _, Nat.zero_le _⟩ rfl dX0_pour_13 ?_
  obtain ⟨y', hy', rfl⟩ := nb_of (N := no) rfl (by omega) c_13_2
  have ky' : cl (nI y') = y' := cl_nI (by omega)
  refine g_iload_n 1 C rfl dX0_pour_16 rfl ?_
  refine g_iload_n 2 C rfl dX0_pour_17 rfl ?_
  refine g_icmp_ne 31 C dX0_pour_18 (by decide) (fun c_18_3 => ?_) (fun c_18_3 => ?_)
  ·
    have d_18_3 : ¬ x' = y' := fun q => c_18_3 ((nI_eq (a := x') (b := y') (by omega) (by omega)).mpr q)
    refine g_iload_n 3 C rfl dX0_pour_31 rfl ?_
    refine g_iconst 1 C dX0_pour_32 (by decide) ?_
    refine g_sipush 12000 C dX0_pour_33 (by decide) ?_
    by_cases c_36_4 : out (g) (1) (12000)
    ·
      obtain rfl : K = 2 := hK.trans (by simp [th_pour, c_5_1, c_13_2, c_18_3, c_36_4, kx', ky'])
      exact g_callSX (na := 3) (av := [.int (g), .int (1), .int (12000)]) (c_checkRange l D cI cJ hst _ (g) (1) (12000) 2 (if_pos c_36_4).symm) C gX0_pour_X0_checkRange rfl (by decide +kernel) rfl ⟨by decide, by decide⟩ rfl (Nat.le_of_ble_eq_true rfl) ⟨by decide, by decide⟩ hout (by decide) (by decide) rfl dX0_pour_36
    refine g_callS0 (na := 3) (av := [.int (g), .int (1), .int (12000)]) (c_checkRange l D cI cJ hst _ (g) (1) (12000) 0 (if_neg c_36_4).symm) C gX0_pour_X0_checkRange rfl (by decide +kernel) rfl ⟨Nat.le_of_ble_eq_true rfl, Nat.le_of_ble_eq_true rfl⟩ rfl (Nat.le_of_ble_eq_true rfl) ⟨Nat.zero_le _, Nat.zero_le _⟩ rfl dX0_pour_36 ?_
    have hg1 := out_lo c_36_4
    refine g_aload_n 0 C rfl dX0_pour_39 rfl ?_
    refine g_iload_n 1 C rfl dX0_pour_40 rfl ?_
    refine g_callS0 (na := 1) (av := [.int (nI (x'))]) (c_potRow l D cI cJ _ (nI (x'))) C gX0_pour_X0_potRow rfl (by decide +kernel) rfl ⟨Nat.le_of_ble_eq_true rfl, Nat.le_of_ble_eq_true rfl⟩ rfl (Nat.le_of_ble_eq_true rfl) ⟨Nat.zero_le _, Nat.zero_le _⟩ rfl dX0_pour_41 ?_
    refine g_iload_n 2 C rfl dX0_pour_44 rfl ?_
    refine g_callS0 (na := 1) (av := [.int (nI (y'))]) (c_potRow l D cI cJ _ (nI (y'))) C gX0_pour_X0_potRow rfl (by decide +kernel) rfl ⟨Nat.le_of_ble_eq_true rfl, Nat.le_of_ble_eq_true rfl⟩ rfl (Nat.le_of_ble_eq_true rfl) ⟨Nat.zero_le _, Nat.zero_le _⟩ rfl dX0_pour_45 ?_
    refine g_iload_n 3 C rfl dX0_pour_48 rfl ?_
    by_cases c_49_5 : rowS (σ.2 3) x' nt < g
    ·
      refine g_callV0 (C0 := RX0) (T := TX0) (N := 17) (ci := 0) (na := 3) (As := [.int (nI (x')), .int (nI (y')), .int (g)]) (c_move_no l D cI cJ h σ np nt no ni hI0 x' y' g (by omega) (by omega) c_49_5) C gX0_pour_X0_move rfl (by decide +kernel) rfl ⟨Nat.le_of_ble_eq_true rfl, Nat.le_of_ble_eq_true rfl⟩ rfl rfl rfl (Nat.le_of_ble_eq_true rfl) ⟨Nat.zero_le _, Nat.zero_le _⟩ rfl dX0_pour_49 ?_
      refine g_if_ne 65 C dX0_pour_52 (by decide) (fun q => absurd q (by decide)) (fun _ => ?_)
      obtain rfl : K = 3 := hK.trans (by simp [th_pour, c_5_1, c_13_2, c_18_3, c_36_4, c_49_5, kx', ky'])
      exact g_throw (cls := eISE) (text := "the pot has not so much") C hst rfl (by decide +kernel) (by decide +kernel) (by decide +kernel) (by decide +kernel) (by decide +kernel) (by decide +kernel) (by decide +kernel) hout dX0_pour_55 dX0_pour_58 dX0_pour_59 dX0_pour_61 dX0_pour_64 (by decide) (by decide) (by decide) (by decide) (by decide) (by decide) rfl
    ·
      refine g_callV0 (C0 := RX0) (T := TX0) (N := 17) (ci := 0) (na := 3) (As := [.int (nI (x')), .int (nI (y')), .int (g)]) (c_move_ok l D cI cJ h σ np nt no ni hI0 x' y' g (by omega) (by omega) hg1 c_49_5) C gX0_pour_X0_move rfl (by decide +kernel) rfl ⟨Nat.le_of_ble_eq_true rfl, Nat.le_of_ble_eq_true rfl⟩ rfl rfl rfl (Nat.le_of_ble_eq_true rfl) ⟨Nat.zero_le _, Nat.zero_le _⟩ rfl dX0_pour_49 ?_
      refine g_w (wA cI h (sA σ 3 (mvS σ nt x' y' g))) rfl ?_
      refine g_if_ne 65 C dX0_pour_52 (by decide) (fun _ => ?_) (fun q => absurd q (by decide))
      refine g_aload_n 0 C rfl dX0_pour_65 rfl ?_
      refine g_iload_n 2 C rfl dX0_pour_66 rfl ?_
      refine g_callS0 (na := 1) (av := [.int (nI (y'))]) (c_potRow l D cI cJ _ (nI (y'))) C gX0_pour_X0_potRow rfl (by decide +kernel) rfl ⟨Nat.le_of_ble_eq_true rfl, Nat.le_of_ble_eq_true rfl⟩ rfl (Nat.le_of_ble_eq_true rfl) ⟨Nat.zero_le _, Nat.zero_le _⟩ rfl dX0_pour_67 ?_
      refine g_callV0 (C0 := RX0) (T := TX0) (N := 17) (ci := 0) (na := 1) (As := [.int (nI (y'))]) (c_sumOfRow l D cI cJ h (sA σ 3 (mvS σ nt x' y' g)) np nt no ni hI0 y' (by omega)) C gX0_pour_X0_sumOfRow rfl (by decide +kernel) rfl ⟨Nat.le_of_ble_eq_true rfl, Nat.le_of_ble_eq_true rfl⟩ rfl rfl rfl (Nat.le_of_ble_eq_true rfl) ⟨Nat.zero_le _, Nat.zero_le _⟩ rfl dX0_pour_70 ?_
      obtain rfl : K = 0 := hK.trans (by simp [th_pour, c_5_1, c_13_2, c_18_3, c_36_4, c_49_5, kx', ky'])
      exact g_iret C hr rfl dX0_pour_73 (Nat.zero_le _) (Nat.zero_le _) rfl (by rw [kx', ky']; rfl) (by rw [kx', ky'])
  ·
    have d_18_3 : x' = y' := (nI_eq (a := x') (b := y') (by omega) (by omega)).mp c_18_3
    obtain rfl : K = 2 := hK.trans (by simp [th_pour, c_5_1, c_13_2, c_18_3, kx', ky'])
    exact g_throw (cls := eIAE) (text := "the pots are the same") C hst rfl (by decide +kernel) (by decide +kernel) (by decide +kernel) (by decide +kernel) (by decide +kernel) (by decide +kernel) (by decide +kernel) hout dX0_pour_21 dX0_pour_24 dX0_pour_25 dX0_pour_27 dX0_pour_30 (by decide) (by decide) (by decide) (by decide) (by decide) (by decide) rfl
set_option maxRecDepth 100000 in
set_option maxHeartbeats 4000000 in
theorem c_scrape (l : Launch) (D : va_G) (cI cJ : ClassId) (hst : l.stackTraces = false) (h : Nat → Nat) (σ : gS) (np nt no ni : Nat) (hI : iA σ np nt no ni) (x : Int32) (K : Nat) (hK : K = th_scrape no x) : MC l yX0_scrape wsX0_scrape 7 111 D (tyIJ cI cJ) [.ref (h 0), .int (x)] (wA cI h σ) (wA cI h (sA σ 3 (wzL (σ.2 3) (cl x) nt))) (exT K) (some (.int (rowS (σ.2 3) (cl x) nt))) (nT K) := by
  have hI0 := hI
  obtain ⟨⟨hnp, hnp6⟩, ⟨hnt, hnt12⟩, ⟨hno, hno10⟩, ⟨hni, hni8⟩, hPT, hLC, hLH⟩ := hI
  refine MC.ofG (cc := cX0_scrape) (maxL := 2) (ret := (some .int)) [(0, .ref (h 0)), (1, .int (x))] (by decide) rfl (Nat.le_of_ble_eq_true rfl) rfl ?_
  intro p e s m args below meth c C hr hout
  have hin : ∀ w ∈ wsX00, w ∈ wsX0_scrape := fun w h => by first | exact List.mem_cons_of_mem _ (List.mem_append_right _ h) | exact List.mem_cons_of_mem _ (List.mem_append_left _ (List.mem_append_right _ h)) | exact List.mem_cons_of_mem _ (List.mem_append_left _ (List.mem_append_left _ (List.mem_append_right _ h))) | exact List.mem_cons_of_mem _ (List.mem_append_left _ (List.mem_append_left _ (List.mem_append_left _ (List.mem_append_right _ h)))) | exact List.mem_cons_of_mem _ (List.mem_append_left _ (List.mem_append_left _ (List.mem_append_left _ (List.mem_append_left _ (List.mem_append_right _ h)))))
  refine g_iload_n 1 C rfl dX0_scrape_0 rfl ?_
  refine g_aload_n 0 C rfl dX0_scrape_1 rfl ?_
  refine g_get (C0 := RX0) (T := TX0) (N := 17) 0 0 2 (.int (σ.1 2)) C hin rfl rfl (by decide) (by decide +kernel) rfl dX0_scrape_2 ?_
  refine g_is (nI no) hno ?_
  by_cases c_5_1 : bad x (nI (no))
  ·
    obtain rfl : K = 1 := hK.trans (by simp [th_scrape, c_5_1])
    exact g_callSX (na := 2) (av := [.int (x), .int (nI (no))]) (c_checkNumber l D cI cJ hst _ x (nI (no)) 1 (if_pos c_5_1).symm) C gX0_scrape_X0_checkNumber rfl (by decide +kernel) rfl ⟨by decide, by decide⟩ rfl (Nat.le_of_ble_eq_true rfl) ⟨by decide, by decide⟩ hout (by decide) (by decide) rfl dX0_scrape_5
  refine g_callS0 (na := 2) (av := [.int (x), .int (nI (no))]) (c_checkNumber l D cI cJ hst _ x (nI (no)) 0 (if_neg c_5_1).symm) C gX0_scrape_X0_checkNumber rfl (by decide +kernel) rfl ⟨Nat.le_of_ble_eq_true rfl, Nat.le_of_ble_eq_true rfl⟩ rfl (Nat.le_of_ble_eq_true rfl) ⟨Nat.zero_le _, Nat.zero_le _⟩ rfl dX0_scrape_5 ?_
  obtain ⟨x', hx', rfl⟩ := nb_of (N := no) rfl (by omega) c_5_1
  have kx' : cl (nI x') = x' := cl_nI (by omega)
  refine g_aload_n 0 C rfl dX0_scrape_8 rfl ?_
  refine g_iload_n 1 C rfl dX0_scrape_9 rfl ?_
  refine g_callS0 (na := 1) (av := [.int (nI (x'))]) (c_potRow l D cI cJ _ (nI (x'))) C gX0_scrape_X0_potRow rfl (by decide +kernel) rfl ⟨Nat.le_of_ble_eq_true rfl, Nat.le_of_ble_eq_true rfl⟩ rfl (Nat.le_of_ble_eq_true rfl) ⟨Nat.zero_le _, Nat.zero_le _⟩ rfl dX0_scrape_10 ?_
  refine g_callV0 (C0 := RX0) (T := TX0) (N := 17) (ci := 0) (na := 1) (As := [.int (nI (x'))]) (c_waste l D cI cJ h σ np nt no ni hI0 x' (by omega)) C gX0_scrape_X0_waste rfl (by decide +kernel) rfl ⟨Nat.le_of_ble_eq_true rfl, Nat.le_of_ble_eq_true rfl⟩ rfl rfl rfl (Nat.le_of_ble_eq_true rfl) ⟨Nat.zero_le _, Nat.zero_le _⟩ rfl dX0_scrape_13 ?_
  refine g_w (wA cI h (sA σ 3 (wzL (σ.2 3) x' nt))) rfl ?_
  obtain rfl : K = 0 := hK.trans (by simp [th_scrape, c_5_1, kx'])
  exact g_iret C hr rfl dX0_scrape_16 (Nat.zero_le _) (Nat.zero_le _) rfl (by rw [kx']) (by rw [kx'])
set_option maxRecDepth 100000 in
set_option maxHeartbeats 4000000 in
theorem c_paint (l : Launch) (D : va_G) (cI cJ : ClassId) (hst : l.stackTraces = false) (h : Nat → Nat) (σ : gS) (np nt no ni : Nat) (hI : iA σ np nt no ni) (q x g : Int32) (K : Nat) (hK : K = th_paint σ nt no ni q x g) : MC l yX0_paint wsX0_paint 7 112 D (tyIJ cI cJ) [.ref (h 0), .int (q), .int (x), .int (g)] (wA cI h σ) (wA cI h (s_paint σ nt (cl q) (cl x) g)) (exT K) (some (.int (nI (cl (σ.2 4 (cl q)) + 1)))) (nT K) := by
  have hI0 := hI
  obtain ⟨⟨hnp, hnp6⟩, ⟨hnt, hnt12⟩, ⟨hno, hno10⟩, ⟨hni, hni8⟩, hPT, hLC, hLH⟩ := hI
  refine MC.ofG (cc := cX0_paint) (maxL := 4) (ret := (some .int)) [(0, .ref (h 0)), (1, .int (q)), (2, .int (x)), (3, .int (g))] (by decide) rfl (Nat.le_of_ble_eq_true rfl) rfl ?_
  intro p e s m args below meth c C hr hout
  have hin : ∀ w ∈ wsX00, w ∈ wsX0_paint := fun w h => by first | exact List.mem_cons_of_mem _ (List.mem_append_right _ h) | exact List.mem_cons_of_mem _ (List.mem_append_left _ (List.mem_append_right _ h)) | exact List.mem_cons_of_mem _ (List.mem_append_left _ (List.mem_append_left _ (List.mem_append_right _ h))) | exact List.mem_cons_of_mem _ (List.mem_append_left _ (List.mem_append_left _ (List.mem_append_left _ (List.mem_append_right _ h)))) | exact List.mem_cons_of_mem _ (List.mem_append_left _ (List.mem_append_left _ (List.mem_append_left _ (List.mem_append_left _ (List.mem_append_right _ h)))))
  refine g_iload_n 1 C rfl dX0_paint_0 rfl ?_
  refine g_aload_n 0 C rfl dX0_paint_1 rfl ?_
  refine g_get (C0 := RX0) (T := TX0) (N := 17) 0 0 3 (.int (σ.1 3)) C hin rfl rfl (by decide) (by decide +kernel) rfl dX0_paint_2 ?_
  refine g_is (nI ni) hni ?_
  by_cases c_5_1 : bad q (nI (ni))
  ·
    obtain rfl : K = 1 := hK.trans (by simp [th_paint, c_5_1])
    exact g_callSX (na := 2) (av := [.int (q), .int (nI (ni))]) (c_checkNumber l D cI cJ hst _ q (nI (ni)) 1 (if_pos c_5_1).symm) C gX0_paint_X0_checkNumber rfl (by decide +kernel) rfl ⟨by decide, by decide⟩ rfl (Nat.le_of_ble_eq_true rfl) ⟨by decide, by decide⟩ hout (by decide) (by decide) rfl dX0_paint_5
  refine g_callS0 (na := 2) (av := [.int (q), .int (nI (ni))]) (c_checkNumber l D cI cJ hst _ q (nI (ni)) 0 (if_neg c_5_1).symm) C gX0_paint_X0_checkNumber rfl (by decide +kernel) rfl ⟨Nat.le_of_ble_eq_true rfl, Nat.le_of_ble_eq_true rfl⟩ rfl (Nat.le_of_ble_eq_true rfl) ⟨Nat.zero_le _, Nat.zero_le _⟩ rfl dX0_paint_5 ?_
  obtain ⟨q', hq', rfl⟩ := nb_of (N := ni) rfl (by omega) c_5_1
  have kq' : cl (nI q') = q' := cl_nI (by omega)
  refine g_iload_n 2 C rfl dX0_paint_8 rfl ?_
  refine g_aload_n 0 C rfl dX0_paint_9 rfl ?_
  refine g_get (C0 := RX0) (T := TX0) (N := 17) 0 0 2 (.int (σ.1 2)) C hin rfl rfl (by decide) (by decide +kernel) rfl dX0_paint_10 ?_
  refine g_is (nI no) hno ?_
  by_cases c_13_2 : bad x (nI (no))
  ·
    obtain rfl : K = 1 := hK.trans (by simp [th_paint, c_5_1, c_13_2, kq'])
    exact g_callSX (na := 2) (av := [.int (x), .int (nI (no))]) (c_checkNumber l D cI cJ hst _ x (nI (no)) 1 (if_pos c_13_2).symm) C gX0_paint_X0_checkNumber rfl (by decide +kernel) rfl ⟨by decide, by decide⟩ rfl (Nat.le_of_ble_eq_true rfl) ⟨by decide, by decide⟩ hout (by decide) (by decide) rfl dX0_paint_13
  refine g_callS0 (na := 2) (av := [.int (x), .int (nI (no))]) (c_checkNumber l D cI cJ hst _ x (nI (no)) 0 (if_neg c_13_2).symm) C gX0_paint_X0_checkNumber rfl (by decide +kernel) rfl ⟨Nat.le_of_ble_eq_true rfl, Nat.le_of_ble_eq_true rfl⟩ rfl (Nat.le_of_ble_eq_true rfl) ⟨Nat.zero_le _, Nat.zero_le _⟩ rfl dX0_paint_13 ?_
  obtain ⟨x', hx', rfl⟩ := nb_of (N := no) rfl (by omega) c_13_2
  have kx' : cl (nI x') = x' := cl_nI (by omega)
  refine g_iload_n 3 C rfl dX0_paint_16 rfl ?_
  refine g_iconst 1 C dX0_paint_17 (by decide) ?_
  refine g_sipush 1000 C dX0_paint_18 (by decide) ?_
  by_cases c_21_3 : out (g) (1) (1000)
  ·
    obtain rfl : K = 2 := hK.trans (by simp [th_paint, c_5_1, c_13_2, c_21_3, kq', kx'])
    exact g_callSX (na := 3) (av := [.int (g), .int (1), .int (1000)]) (c_checkRange l D cI cJ hst _ (g) (1) (1000) 2 (if_pos c_21_3).symm) C gX0_paint_X0_checkRange rfl (by decide +kernel) rfl ⟨by decide, by decide⟩ rfl (Nat.le_of_ble_eq_true rfl) ⟨by decide, by decide⟩ hout (by decide) (by decide) rfl dX0_paint_21
  refine g_callS0 (na := 3) (av := [.int (g), .int (1), .int (1000)]) (c_checkRange l D cI cJ hst _ (g) (1) (1000) 0 (if_neg c_21_3).symm) C gX0_paint_X0_checkRange rfl (by decide +kernel) rfl ⟨Nat.le_of_ble_eq_true rfl, Nat.le_of_ble_eq_true rfl⟩ rfl (Nat.le_of_ble_eq_true rfl) ⟨Nat.zero_le _, Nat.zero_le _⟩ rfl dX0_paint_21 ?_
  have hg1 := out_lo c_21_3
  refine g_aload_n 0 C rfl dX0_paint_24 rfl ?_
  refine g_iload_n 1 C rfl dX0_paint_25 rfl ?_
  by_cases c_26_4 : ¬ σ.2 7 q' ≤ 0
  ·
    obtain rfl : K = 3 := hK.trans (by simp [th_paint, c_5_1, c_13_2, c_21_3, c_26_4, kq', kx'])
    exact g_callVX (C0 := RX0) (T := TX0) (N := 17) (ci := 0) (na := 1) (As := [.int (nI (q'))]) (c_checkAtHome l D cI cJ hst h σ np nt no ni hI0 q' (by omega) 3 (if_pos c_26_4).symm) C gX0_paint_X0_checkAtHome rfl (by decide +kernel) rfl ⟨by decide, by decide⟩ rfl rfl rfl (Nat.le_of_ble_eq_true rfl) ⟨by decide, by decide⟩ hout (by decide) (by decide) rfl dX0_paint_26
  refine g_callV0 (C0 := RX0) (T := TX0) (N := 17) (ci := 0) (na := 1) (As := [.int (nI (q'))]) (c_checkAtHome l D cI cJ hst h σ np nt no ni hI0 q' (by omega) 0 (if_neg c_26_4).symm) C gX0_paint_X0_checkAtHome rfl (by decide +kernel) rfl ⟨Nat.le_of_ble_eq_true rfl, Nat.le_of_ble_eq_true rfl⟩ rfl rfl rfl (Nat.le_of_ble_eq_true rfl) ⟨Nat.zero_le _, Nat.zero_le _⟩ rfl dX0_paint_26 ?_
  refine g_aload_n 0 C rfl dX0_paint_29 rfl ?_
  refine g_get (C0 := RX0) (T := TX0) (N := 17) 0 0 9 (.ref (h 5)) C hin rfl rfl (by decide) (by decide +kernel) rfl dX0_paint_30 ?_
  refine g_iload_n 1 C rfl dX0_paint_33 rfl ?_
  refine g_ialdN (cA := cI) (n := 8) (a := h 5) (f := σ.2 4) q' 5 0 C rfl rfl (by omega) (by decide) dX0_paint_34 ?_
  obtain ⟨jL, hjL, ejL⟩ := hLC q'
  refine g_is (nI (jL)) ejL ?_
  refine g_bipush 12 C dX0_paint_35 (by decide) ?_
  refine g_icmp_lt 50 C dX0_paint_37 (by decide) (fun c_37_5 => ?_) (fun c_37_5 => ?_)
  ·
    have d_37_5 : jL < 12 := (nI_ltI (a := jL) (b := 12) (by omega) (by omega)).mp c_37_5
    refine g_aload_n 0 C rfl dX0_paint_50 rfl ?_
    refine g_iload_n 2 C rfl dX0_paint_51 rfl ?_
    refine g_callS0 (na := 1) (av := [.int (nI (x'))]) (c_potRow l D cI cJ _ (nI (x'))) C gX0_paint_X0_potRow rfl (by decide +kernel) rfl ⟨Nat.le_of_ble_eq_true rfl, Nat.le_of_ble_eq_true rfl⟩ rfl (Nat.le_of_ble_eq_true rfl) ⟨Nat.zero_le _, Nat.zero_le _⟩ rfl dX0_paint_52 ?_
    refine g_iload_n 1 C rfl dX0_paint_55 rfl ?_
    refine g_aload_n 0 C rfl dX0_paint_56 rfl ?_
    refine g_get (C0 := RX0) (T := TX0) (N := 17) 0 0 9 (.ref (h 5)) C hin rfl rfl (by decide) (by decide +kernel) rfl dX0_paint_57 ?_
    refine g_iload_n 1 C rfl dX0_paint_60 rfl ?_
    refine g_ialdN (cA := cI) (n := 8) (a := h 5) (f := σ.2 4) q' 5 0 C rfl rfl (by omega) (by decide) dX0_paint_61 ?_
    refine g_is (nI (jL)) ejL ?_
    refine g_callS0 (na := 2) (av := [.int (nI (q')), .int (nI (jL))]) (c_layerRow l D cI cJ _ q' jL) C gX0_paint_X0_layerRow rfl (by decide +kernel) rfl ⟨Nat.le_of_ble_eq_true rfl, Nat.le_of_ble_eq_true rfl⟩ rfl (Nat.le_of_ble_eq_true rfl) ⟨Nat.zero_le _, Nat.zero_le _⟩ rfl dX0_paint_62 ?_
    refine g_iload_n 3 C rfl dX0_paint_65 rfl ?_
    by_cases c_66_6 : rowS (σ.2 3) x' nt < g
    ·
      refine g_callV0 (C0 := RX0) (T := TX0) (N := 17) (ci := 0) (na := 3) (As := [.int (nI (x')), .int (nI (10 + q' * 12 + jL)), .int (g)]) (c_move_no l D cI cJ h σ np nt no ni hI0 x' (10 + q' * 12 + jL) g (by omega) (by omega) c_66_6) C gX0_paint_X0_move rfl (by decide +kernel) rfl ⟨Nat.le_of_ble_eq_true rfl, Nat.le_of_ble_eq_true rfl⟩ rfl rfl rfl (Nat.le_of_ble_eq_true rfl) ⟨Nat.zero_le _, Nat.zero_le _⟩ rfl dX0_paint_66 ?_
      refine g_if_ne 82 C dX0_paint_69 (by decide) (fun q => absurd q (by decide)) (fun _ => ?_)
      obtain rfl : K = 3 := hK.trans (by simp [th_paint, c_5_1, c_13_2, c_21_3, c_26_4, c_37_5, c_66_6, kq', kx', ejL])
      exact g_throw (cls := eISE) (text := "the pot has not so much") C hst rfl (by decide +kernel) (by decide +kernel) (by decide +kernel) (by decide +kernel) (by decide +kernel) (by decide +kernel) (by decide +kernel) hout dX0_paint_72 dX0_paint_75 dX0_paint_76 dX0_paint_78 dX0_paint_81 (by decide) (by decide) (by decide) (by decide) (by decide) (by decide) rfl
    ·
      refine g_callV0 (C0 := RX0) (T := TX0) (N := 17) (ci := 0) (na := 3) (As := [.int (nI (x')), .int (nI (10 + q' * 12 + jL)), .int (g)]) (c_move_ok l D cI cJ h σ np nt no ni hI0 x' (10 + q' * 12 + jL) g (by omega) (by omega) hg1 c_66_6) C gX0_paint_X0_move rfl (by decide +kernel) rfl ⟨Nat.le_of_ble_eq_true rfl, Nat.le_of_ble_eq_true rfl⟩ rfl rfl rfl (Nat.le_of_ble_eq_true rfl) ⟨Nat.zero_le _, Nat.zero_le _⟩ rfl dX0_paint_66 ?_
      refine g_w (wA cI h (sA σ 3 (mvS σ nt x' (10 + q' * 12 + jL) g))) rfl ?_
      refine g_if_ne 82 C dX0_paint_69 (by decide) (fun _ => ?_) (fun q => absurd q (by decide))
      refine g_aload_n 0 C rfl dX0_paint_82 rfl ?_
      refine g_get (C0 := RX0) (T := TX0) (N := 17) 0 0 9 (.ref (h 5)) C hin rfl rfl (by decide) (by decide +kernel) rfl dX0_paint_83 ?_
      refine g_iload_n 1 C rfl dX0_paint_86 rfl ?_
      refine g_dup2 C dX0_paint_87 rfl rfl ?_
      refine g_ialdN (cA := cI) (n := 8) (a := h 5) (f := σ.2 4) q' 5 0 C rfl rfl (by omega) (by decide) dX0_paint_88 ?_
      refine g_is (nI (jL)) ejL ?_
      refine g_iconst 1 C dX0_paint_89 (by decide) ?_
      refine g_iaddN jL 1 C dX0_paint_90 ?_
      refine g_iastN (cA := cI) (n := 8) (a := h 5) (f := σ.2 4) (x := nI (jL + 1)) q' 5 0 (wA cI h (sA (sA σ 3 (mvS σ nt x' (10 + q' * 12 + jL) g)) 4 (upd (σ.2 4) q' (nI (jL + 1))))) C rfl rfl (by omega) (by decide) rfl dX0_paint_91 ?_
      refine g_aload_n 0 C rfl dX0_paint_92 rfl ?_
      refine g_get (C0 := RX0) (T := TX0) (N := 17) 0 0 9 (.ref (h 5)) C hin rfl rfl (by decide) (by decide +kernel) rfl dX0_paint_93 ?_
      refine g_iload_n 1 C rfl dX0_paint_96 rfl ?_
      refine g_ialdN (cA := cI) (n := 8) (a := h 5) (f := upd (σ.2 4) q' (nI (jL + 1))) q' 5 0 C rfl rfl (by omega) (by decide) dX0_paint_97 ?_
      refine g_is (nI (jL + 1)) pk_us ?_
      obtain rfl : K = 0 := hK.trans (by simp [th_paint, c_5_1, c_13_2, c_21_3, c_26_4, c_37_5, c_66_6, kq', kx', ejL])
      exact g_iret C hr rfl dX0_paint_98 (Nat.zero_le _) (Nat.zero_le _) rfl (by rw [kq', ejL, cl_nI (by omega)]) (by rw [kq', kx']; simp only [s_paint, ejL, cl_nI (show jL < 2 ^ 31 by omega)])
  ·
    have d_37_5 : ¬ jL < 12 := fun q => c_37_5 ((nI_ltI (a := jL) (b := 12) (by omega) (by omega)).mpr q)
    obtain rfl : K = 3 := hK.trans (by simp [th_paint, c_5_1, c_13_2, c_21_3, c_26_4, c_37_5, kq', kx', ejL])
    exact g_throw (cls := eISE) (text := "no more layers") C hst rfl (by decide +kernel) (by decide +kernel) (by decide +kernel) (by decide +kernel) (by decide +kernel) (by decide +kernel) (by decide +kernel) hout dX0_paint_40 dX0_paint_43 dX0_paint_44 dX0_paint_46 dX0_paint_49 (by decide) (by decide) (by decide) (by decide) (by decide) (by decide) rfl
set_option maxRecDepth 100000 in
set_option maxHeartbeats 4000000 in
theorem c_damp (l : Launch) (D : va_G) (cI cJ : ClassId) (hst : l.stackTraces = false) (h : Nat → Nat) (σ : gS) (np nt no ni : Nat) (hI : iA σ np nt no ni) (x d : Int32) (K : Nat) (hK : K = th_damp x d) : MC l yX0_damp wsX0_damp 7 112 D (tyIJ cI cJ) [.ref (h 0), .int (x), .int (d)] (wA cI h σ) (wA cI h (sA σ 10 (upd (σ.2 10) (cl x) d))) (exT K) (some (.int (σ.2 10 (cl x)))) (nT K) := by
  have hI0 := hI
  obtain ⟨⟨hnp, hnp6⟩, ⟨hnt, hnt12⟩, ⟨hno, hno10⟩, ⟨hni, hni8⟩, hPT, hLC, hLH⟩ := hI
  refine MC.ofG (cc := cX0_damp) (maxL := 4) (ret := (some .int)) [(0, .ref (h 0)), (1, .int (x)), (2, .int (d))] (by decide) rfl (Nat.le_of_ble_eq_true rfl) rfl ?_
  intro p e s m args below meth c C hr hout
  have hin : ∀ w ∈ wsX00, w ∈ wsX0_damp := fun w h => by first | exact List.mem_cons_of_mem _ (List.mem_append_right _ h) | exact List.mem_cons_of_mem _ (List.mem_append_left _ (List.mem_append_right _ h)) | exact List.mem_cons_of_mem _ (List.mem_append_left _ (List.mem_append_left _ (List.mem_append_right _ h))) | exact List.mem_cons_of_mem _ (List.mem_append_left _ (List.mem_append_left _ (List.mem_append_left _ (List.mem_append_right _ h)))) | exact List.mem_cons_of_mem _ (List.mem_append_left _ (List.mem_append_left _ (List.mem_append_left _ (List.mem_append_left _ (List.mem_append_right _ h)))))
  refine g_iload_n 1 C rfl dX0_damp_0 rfl ?_
  refine g_iconst 4 C dX0_damp_1 (by decide) ?_
  by_cases c_2_1 : bad x (4)
  ·
    obtain rfl : K = 1 := hK.trans (by simp [th_damp, c_2_1])
    exact g_callSX (na := 2) (av := [.int (x), .int (4)]) (c_checkNumber l D cI cJ hst _ x (4) 1 (if_pos c_2_1).symm) C gX0_damp_X0_checkNumber rfl (by decide +kernel) rfl ⟨by decide, by decide⟩ rfl (Nat.le_of_ble_eq_true rfl) ⟨by decide, by decide⟩ hout (by decide) (by decide) rfl dX0_damp_2
  refine g_callS0 (na := 2) (av := [.int (x), .int (4)]) (c_checkNumber l D cI cJ hst _ x (4) 0 (if_neg c_2_1).symm) C gX0_damp_X0_checkNumber rfl (by decide +kernel) rfl ⟨Nat.le_of_ble_eq_true rfl, Nat.le_of_ble_eq_true rfl⟩ rfl (Nat.le_of_ble_eq_true rfl) ⟨Nat.zero_le _, Nat.zero_le _⟩ rfl dX0_damp_2 ?_
  obtain ⟨x', hx', rfl⟩ := nb_of (N := 4) rfl (by omega) c_2_1
  have kx' : cl (nI x') = x' := cl_nI (by omega)
  refine g_iload_n 2 C rfl dX0_damp_5 rfl ?_
  refine g_iconst 0 C dX0_damp_6 (by decide) ?_
  refine g_bipush 100 C dX0_damp_7 (by decide) ?_
  by_cases c_9_2 : out (d) (0) (100)
  ·
    obtain rfl : K = 2 := hK.trans (by simp [th_damp, c_2_1, c_9_2, kx'])
    exact g_callSX (na := 3) (av := [.int (d), .int (0), .int (100)]) (c_checkRange l D cI cJ hst _ (d) (0) (100) 2 (if_pos c_9_2).symm) C gX0_damp_X0_checkRange rfl (by decide +kernel) rfl ⟨by decide, by decide⟩ rfl (Nat.le_of_ble_eq_true rfl) ⟨by decide, by decide⟩ hout (by decide) (by decide) rfl dX0_damp_9
  refine g_callS0 (na := 3) (av := [.int (d), .int (0), .int (100)]) (c_checkRange l D cI cJ hst _ (d) (0) (100) 0 (if_neg c_9_2).symm) C gX0_damp_X0_checkRange rfl (by decide +kernel) rfl ⟨Nat.le_of_ble_eq_true rfl, Nat.le_of_ble_eq_true rfl⟩ rfl (Nat.le_of_ble_eq_true rfl) ⟨Nat.zero_le _, Nat.zero_le _⟩ rfl dX0_damp_9 ?_
  have hd1 := out_lo c_9_2
  refine g_aload_n 0 C rfl dX0_damp_12 rfl ?_
  refine g_get (C0 := RX0) (T := TX0) (N := 17) 0 0 15 (.ref (h 11)) C hin rfl rfl (by decide) (by decide +kernel) rfl dX0_damp_13 ?_
  refine g_iload_n 1 C rfl dX0_damp_16 rfl ?_
  refine g_ialdN (cA := cI) (n := 4) (a := h 11) (f := σ.2 10) x' 11 0 C rfl rfl (by omega) (by decide) dX0_damp_17 ?_
  refine g_istore_n [(3, .int (σ.2 10 x')), (0, .ref (h 0)), (1, .int (nI (x'))), (2, .int (d))] C dX0_damp_18 rfl (by decide) rfl ?_
  refine g_aload_n 1 C rfl dX0_damp_19 rfl ?_
  refine g_get (C0 := RX0) (T := TX0) (N := 17) 0 0 15 (.ref (h 11)) C hin rfl rfl (by decide) (by decide +kernel) rfl dX0_damp_20 ?_
  refine g_iload_n 2 C rfl dX0_damp_23 rfl ?_
  refine g_iload_n 3 C rfl dX0_damp_24 rfl ?_
  refine g_iastN (cA := cI) (n := 4) (a := h 11) (f := σ.2 10) (x := d) x' 11 0 (wA cI h (sA σ 10 (upd (σ.2 10) x' (d)))) C rfl rfl (by omega) (by decide) rfl dX0_damp_25 ?_
  refine g_iload_n 0 C rfl dX0_damp_26 rfl ?_
  obtain rfl : K = 0 := hK.trans (by simp [th_damp, c_2_1, c_9_2, kx'])
  exact g_iret C hr rfl dX0_damp_27 (Nat.zero_le _) (Nat.zero_le _) rfl (by rw [kx']) (by rw [kx'])
set_option maxRecDepth 100000 in
set_option maxHeartbeats 4000000 in
theorem c_lend (l : Launch) (D : va_G) (cI cJ : ClassId) (hst : l.stackTraces = false) (h : Nat → Nat) (σ : gS) (np nt no ni : Nat) (hI : iA σ np nt no ni) (q x d : Int32) (K : Nat) (hK : K = th_lend σ ni q x d) : MC l yX0_lend wsX0_lend 7 139 D (tyIJ cI cJ) [.ref (h 0), .int (q), .int (x), .int (d)] (wA cI h σ) (wA cI h (s_lend σ np nt ni (cl q) (cl x) d)) (exT K) (some (.int (valA σ np nt ni (cl q) / 100 + 1))) (nT K) := by
  have hI0 := hI
  obtain ⟨⟨hnp, hnp6⟩, ⟨hnt, hnt12⟩, ⟨hno, hno10⟩, ⟨hni, hni8⟩, hPT, hLC, hLH⟩ := hI
  refine MC.ofG (cc := cX0_lend) (maxL := 4) (ret := (some .int)) [(0, .ref (h 0)), (1, .int (q)), (2, .int (x)), (3, .int (d))] (by decide) rfl (Nat.le_of_ble_eq_true rfl) rfl ?_
  intro p e s m args below meth c C hr hout
  have hin : ∀ w ∈ wsX00, w ∈ wsX0_lend := fun w h => by first | exact List.mem_cons_of_mem _ (List.mem_append_right _ h) | exact List.mem_cons_of_mem _ (List.mem_append_left _ (List.mem_append_right _ h)) | exact List.mem_cons_of_mem _ (List.mem_append_left _ (List.mem_append_left _ (List.mem_append_right _ h))) | exact List.mem_cons_of_mem _ (List.mem_append_left _ (List.mem_append_left _ (List.mem_append_left _ (List.mem_append_right _ h)))) | exact List.mem_cons_of_mem _ (List.mem_append_left _ (List.mem_append_left _ (List.mem_append_left _ (List.mem_append_left _ (List.mem_append_right _ h)))))
  refine g_iload_n 1 C rfl dX0_lend_0 rfl ?_
  refine g_aload_n 0 C rfl dX0_lend_1 rfl ?_
  refine g_get (C0 := RX0) (T := TX0) (N := 17) 0 0 3 (.int (σ.1 3)) C hin rfl rfl (by decide) (by decide +kernel) rfl dX0_lend_2 ?_
  refine g_is (nI ni) hni ?_
  by_cases c_5_1 : bad q (nI (ni))
  ·
    obtain rfl : K = 1 := hK.trans (by simp [th_lend, c_5_1])
    exact g_callSX (na := 2) (av := [.int (q), .int (nI (ni))]) (c_checkNumber l D cI cJ hst _ q (nI (ni)) 1 (if_pos c_5_1).symm) C gX0_lend_X0_checkNumber rfl (by decide +kernel) rfl ⟨by decide, by decide⟩ rfl (Nat.le_of_ble_eq_true rfl) ⟨by decide, by decide⟩ hout (by decide) (by decide) rfl dX0_lend_5
  refine g_callS0 (na := 2) (av := [.int (q), .int (nI (ni))]) (c_checkNumber l D cI cJ hst _ q (nI (ni)) 0 (if_neg c_5_1).symm) C gX0_lend_X0_checkNumber rfl (by decide +kernel) rfl ⟨Nat.le_of_ble_eq_true rfl, Nat.le_of_ble_eq_true rfl⟩ rfl (Nat.le_of_ble_eq_true rfl) ⟨Nat.zero_le _, Nat.zero_le _⟩ rfl dX0_lend_5 ?_
  obtain ⟨q', hq', rfl⟩ := nb_of (N := ni) rfl (by omega) c_5_1
  have kq' : cl (nI q') = q' := cl_nI (by omega)
  refine g_iload_n 2 C rfl dX0_lend_8 rfl ?_
  refine g_iconst 4 C dX0_lend_9 (by decide) ?_
  by_cases c_10_2 : bad x (4)
  ·
    obtain rfl : K = 1 := hK.trans (by simp [th_lend, c_5_1, c_10_2, kq'])
    exact g_callSX (na := 2) (av := [.int (x), .int (4)]) (c_checkNumber l D cI cJ hst _ x (4) 1 (if_pos c_10_2).symm) C gX0_lend_X0_checkNumber rfl (by decide +kernel) rfl ⟨by decide, by decide⟩ rfl (Nat.le_of_ble_eq_true rfl) ⟨by decide, by decide⟩ hout (by decide) (by decide) rfl dX0_lend_10
  refine g_callS0 (na := 2) (av := [.int (x), .int (4)]) (c_checkNumber l D cI cJ hst _ x (4) 0 (if_neg c_10_2).symm) C gX0_lend_X0_checkNumber rfl (by decide +kernel) rfl ⟨Nat.le_of_ble_eq_true rfl, Nat.le_of_ble_eq_true rfl⟩ rfl (Nat.le_of_ble_eq_true rfl) ⟨Nat.zero_le _, Nat.zero_le _⟩ rfl dX0_lend_10 ?_
  obtain ⟨x', hx', rfl⟩ := nb_of (N := 4) rfl (by omega) c_10_2
  have kx' : cl (nI x') = x' := cl_nI (by omega)
  refine g_iload_n 3 C rfl dX0_lend_13 rfl ?_
  refine g_iconst 1 C dX0_lend_14 (by decide) ?_
  refine g_bipush 100 C dX0_lend_15 (by decide) ?_
  by_cases c_17_3 : out (d) (1) (100)
  ·
    obtain rfl : K = 2 := hK.trans (by simp [th_lend, c_5_1, c_10_2, c_17_3, kq', kx'])
    exact g_callSX (na := 3) (av := [.int (d), .int (1), .int (100)]) (c_checkRange l D cI cJ hst _ (d) (1) (100) 2 (if_pos c_17_3).symm) C gX0_lend_X0_checkRange rfl (by decide +kernel) rfl ⟨by decide, by decide⟩ rfl (Nat.le_of_ble_eq_true rfl) ⟨by decide, by decide⟩ hout (by decide) (by decide) rfl dX0_lend_17
  refine g_callS0 (na := 3) (av := [.int (d), .int (1), .int (100)]) (c_checkRange l D cI cJ hst _ (d) (1) (100) 0 (if_neg c_17_3).symm) C gX0_lend_X0_checkRange rfl (by decide +kernel) rfl ⟨Nat.le_of_ble_eq_true rfl, Nat.le_of_ble_eq_true rfl⟩ rfl (Nat.le_of_ble_eq_true rfl) ⟨Nat.zero_le _, Nat.zero_le _⟩ rfl dX0_lend_17 ?_
  have hd1 := out_lo c_17_3
  refine g_aload_n 0 C rfl dX0_lend_20 rfl ?_
  refine g_iload_n 1 C rfl dX0_lend_21 rfl ?_
  by_cases c_22_4 : ¬ σ.2 7 q' ≤ 0
  ·
    obtain rfl : K = 3 := hK.trans (by simp [th_lend, c_5_1, c_10_2, c_17_3, c_22_4, kq', kx'])
    exact g_callVX (C0 := RX0) (T := TX0) (N := 17) (ci := 0) (na := 1) (As := [.int (nI (q'))]) (c_checkAtHome l D cI cJ hst h σ np nt no ni hI0 q' (by omega) 3 (if_pos c_22_4).symm) C gX0_lend_X0_checkAtHome rfl (by decide +kernel) rfl ⟨by decide, by decide⟩ rfl rfl rfl (Nat.le_of_ble_eq_true rfl) ⟨by decide, by decide⟩ hout (by decide) (by decide) rfl dX0_lend_22
  refine g_callV0 (C0 := RX0) (T := TX0) (N := 17) (ci := 0) (na := 1) (As := [.int (nI (q'))]) (c_checkAtHome l D cI cJ hst h σ np nt no ni hI0 q' (by omega) 0 (if_neg c_22_4).symm) C gX0_lend_X0_checkAtHome rfl (by decide +kernel) rfl ⟨Nat.le_of_ble_eq_true rfl, Nat.le_of_ble_eq_true rfl⟩ rfl rfl rfl (Nat.le_of_ble_eq_true rfl) ⟨Nat.zero_le _, Nat.zero_le _⟩ rfl dX0_lend_22 ?_
  refine g_aload_n 0 C rfl dX0_lend_25 rfl ?_
  refine g_get (C0 := RX0) (T := TX0) (N := 17) 0 0 10 (.ref (h 6)) C hin rfl rfl (by decide) (by decide +kernel) rfl dX0_lend_26 ?_
  refine g_iload_n 1 C rfl dX0_lend_29 rfl ?_
  refine g_ialdN (cA := cI) (n := 8) (a := h 6) (f := σ.2 5) q' 6 0 C rfl rfl (by omega) (by decide) dX0_lend_30 ?_
  refine g_bipush 10 C dX0_lend_31 (by decide) ?_
  refine g_icmp_lt 46 C dX0_lend_33 (by decide) (fun c_33_5 => ?_) (fun c_33_5 => ?_)
  ·
    refine g_aload_n 0 C rfl dX0_lend_46 rfl ?_
    refine g_get (C0 := RX0) (T := TX0) (N := 17) 0 0 14 (.ref (h 10)) C hin rfl rfl (by decide) (by decide +kernel) rfl dX0_lend_47 ?_
    refine g_iload_n 1 C rfl dX0_lend_50 rfl ?_
    refine g_aload_n 0 C rfl dX0_lend_51 rfl ?_
    refine g_iload_n 1 C rfl dX0_lend_52 rfl ?_
    refine g_callV0 (C0 := RX0) (T := TX0) (N := 17) (ci := 0) (na := 1) (As := [.int (nI (q'))]) (c_valueOf l D cI cJ h σ np nt no ni hI0 q' (by omega)) C gX0_lend_X0_valueOf rfl (by decide +kernel) rfl ⟨Nat.le_of_ble_eq_true rfl, Nat.le_of_ble_eq_true rfl⟩ rfl rfl rfl (Nat.le_of_ble_eq_true rfl) ⟨Nat.zero_le _, Nat.zero_le _⟩ rfl dX0_lend_53 ?_
    refine g_bipush 100 C dX0_lend_56 (by decide) ?_
    refine g_idiv C (by decide) dX0_lend_58 ?_
    refine g_iconst 1 C dX0_lend_59 (by decide) ?_
    refine g_iadd C dX0_lend_60 ?_
    refine g_iastN (cA := cI) (n := 8) (a := h 10) (f := σ.2 9) (x := (((valA σ np nt ni q') / 100) + 1)) q' 10 0 (wA cI h (sA σ 9 (upd (σ.2 9) q' ((((valA σ np nt ni q') / 100) + 1))))) C rfl rfl (by omega) (by decide) rfl dX0_lend_61 ?_
    refine g_aload_n 0 C rfl dX0_lend_62 rfl ?_
    refine g_get (C0 := RX0) (T := TX0) (N := 17) 0 0 13 (.ref (h 9)) C hin rfl rfl (by decide) (by decide +kernel) rfl dX0_lend_63 ?_
    refine g_iload_n 1 C rfl dX0_lend_66 rfl ?_
    refine g_iload_n 2 C rfl dX0_lend_67 rfl ?_
    refine g_iastN (cA := cI) (n := 8) (a := h 9) (f := σ.2 8) (x := nI (x')) q' 9 0 (wA cI h (sA (sA σ 9 (upd (σ.2 9) q' ((((valA σ np nt ni q') / 100) + 1)))) 8 (upd (σ.2 8) q' (nI (x'))))) C rfl rfl (by omega) (by decide) rfl dX0_lend_68 ?_
    refine g_aload_n 0 C rfl dX0_lend_69 rfl ?_
    refine g_get (C0 := RX0) (T := TX0) (N := 17) 0 0 12 (.ref (h 8)) C hin rfl rfl (by decide) (by decide +kernel) rfl dX0_lend_70 ?_
    refine g_iload_n 1 C rfl dX0_lend_73 rfl ?_
    refine g_iload_n 3 C rfl dX0_lend_74 rfl ?_
    refine g_iastN (cA := cI) (n := 8) (a := h 8) (f := σ.2 7) (x := d) q' 8 0 (wA cI h (sA (sA (sA σ 9 (upd (σ.2 9) q' ((((valA σ np nt ni q') / 100) + 1)))) 8 (upd (σ.2 8) q' (nI (x')))) 7 (upd (σ.2 7) q' (d)))) C rfl rfl (by omega) (by decide) rfl dX0_lend_75 ?_
    refine g_aload_n 0 C rfl dX0_lend_76 rfl ?_
    refine g_get (C0 := RX0) (T := TX0) (N := 17) 0 0 14 (.ref (h 10)) C hin rfl rfl (by decide) (by decide +kernel) rfl dX0_lend_77 ?_
    refine g_iload_n 1 C rfl dX0_lend_80 rfl ?_
    refine g_ialdN (cA := cI) (n := 8) (a := h 10) (f := upd (σ.2 9) q' ((((valA σ np nt ni q') / 100) + 1))) q' 10 0 C rfl rfl (by omega) (by decide) dX0_lend_81 ?_
    refine g_is ((((valA σ np nt ni q') / 100) + 1)) pk_us ?_
    obtain rfl : K = 0 := hK.trans (by simp [th_lend, c_5_1, c_10_2, c_17_3, c_22_4, c_33_5, kq', kx'])
    exact g_iret C hr rfl dX0_lend_82 (Nat.zero_le _) (Nat.zero_le _) rfl (by rw [kq']) (by rw [kq', kx']; rfl)
  ·
    obtain rfl : K = 3 := hK.trans (by simp [th_lend, c_5_1, c_10_2, c_17_3, c_22_4, c_33_5, kq', kx'])
    exact g_throw (cls := eISE) (text := "the picture has too many cracks") C hst rfl (by decide +kernel) (by decide +kernel) (by decide +kernel) (by decide +kernel) (by decide +kernel) (by decide +kernel) (by decide +kernel) hout dX0_lend_36 dX0_lend_39 dX0_lend_40 dX0_lend_42 dX0_lend_45 (by decide) (by decide) (by decide) (by decide) (by decide) (by decide) rfl
set_option maxRecDepth 100000 in
set_option maxHeartbeats 4000000 in
theorem c_sell (l : Launch) (D : va_G) (cI cJ : ClassId) (hst : l.stackTraces = false) (h : Nat → Nat) (σ : gS) (np nt no ni : Nat) (hI : iA σ np nt no ni) (q x : Int32) (K : Nat) (hK : K = th_sell σ ni q x) : MC l yX0_sell wsX0_sell 7 139 D (tyIJ cI cJ) [.ref (h 0), .int (q), .int (x)] (wA cI h σ) (wA cI h (s_sell σ (cl q) x)) (exT K) (some (.int (valA (s_sell σ (cl q) x) np nt ni (cl q)))) (nT K) := by
  have hI0 := hI
  obtain ⟨⟨hnp, hnp6⟩, ⟨hnt, hnt12⟩, ⟨hno, hno10⟩, ⟨hni, hni8⟩, hPT, hLC, hLH⟩ := hI
  refine MC.ofG (cc := cX0_sell) (maxL := 3) (ret := (some .int)) [(0, .ref (h 0)), (1, .int (q)), (2, .int (x))] (by decide) rfl (Nat.le_of_ble_eq_true rfl) rfl ?_
  intro p e s m args below meth c C hr hout
  have hin : ∀ w ∈ wsX00, w ∈ wsX0_sell := fun w h => by first | exact List.mem_cons_of_mem _ (List.mem_append_right _ h) | exact List.mem_cons_of_mem _ (List.mem_append_left _ (List.mem_append_right _ h)) | exact List.mem_cons_of_mem _ (List.mem_append_left _ (List.mem_append_left _ (List.mem_append_right _ h))) | exact List.mem_cons_of_mem _ (List.mem_append_left _ (List.mem_append_left _ (List.mem_append_left _ (List.mem_append_right _ h)))) | exact List.mem_cons_of_mem _ (List.mem_append_left _ (List.mem_append_left _ (List.mem_append_left _ (List.mem_append_left _ (List.mem_append_right _ h)))))
  refine g_iload_n 1 C rfl dX0_sell_0 rfl ?_
  refine g_aload_n 0 C rfl dX0_sell_1 rfl ?_
  refine g_get (C0 := RX0) (T := TX0) (N := 17) 0 0 3 (.int (σ.1 3)) C hin rfl rfl (by decide) (by decide +kernel) rfl dX0_sell_2 ?_
  refine g_is (nI ni) hni ?_
  by_cases c_5_1 : bad q (nI (ni))
  ·
    obtain rfl : K = 1 := hK.trans (by simp [th_sell, c_5_1])
    exact g_callSX (na := 2) (av := [.int (q), .int (nI (ni))]) (c_checkNumber l D cI cJ hst _ q (nI (ni)) 1 (if_pos c_5_1).symm) C gX0_sell_X0_checkNumber rfl (by decide +kernel) rfl ⟨by decide, by decide⟩ rfl (Nat.le_of_ble_eq_true rfl) ⟨by decide, by decide⟩ hout (by decide) (by decide) rfl dX0_sell_5
  refine g_callS0 (na := 2) (av := [.int (q), .int (nI (ni))]) (c_checkNumber l D cI cJ hst _ q (nI (ni)) 0 (if_neg c_5_1).symm) C gX0_sell_X0_checkNumber rfl (by decide +kernel) rfl ⟨Nat.le_of_ble_eq_true rfl, Nat.le_of_ble_eq_true rfl⟩ rfl (Nat.le_of_ble_eq_true rfl) ⟨Nat.zero_le _, Nat.zero_le _⟩ rfl dX0_sell_5 ?_
  obtain ⟨q', hq', rfl⟩ := nb_of (N := ni) rfl (by omega) c_5_1
  have kq' : cl (nI q') = q' := cl_nI (by omega)
  refine g_iload_n 2 C rfl dX0_sell_8 rfl ?_
  refine g_iconst 1 C dX0_sell_9 (by decide) ?_
  refine g_ldc 100000 C (by decide +kernel) dX0_sell_10 ?_
  by_cases c_12_2 : out (x) (1) (100000)
  ·
    obtain rfl : K = 2 := hK.trans (by simp [th_sell, c_5_1, c_12_2, kq'])
    exact g_callSX (na := 3) (av := [.int (x), .int (1), .int (100000)]) (c_checkRange l D cI cJ hst _ (x) (1) (100000) 2 (if_pos c_12_2).symm) C gX0_sell_X0_checkRange rfl (by decide +kernel) rfl ⟨by decide, by decide⟩ rfl (Nat.le_of_ble_eq_true rfl) ⟨by decide, by decide⟩ hout (by decide) (by decide) rfl dX0_sell_12
  refine g_callS0 (na := 3) (av := [.int (x), .int (1), .int (100000)]) (c_checkRange l D cI cJ hst _ (x) (1) (100000) 0 (if_neg c_12_2).symm) C gX0_sell_X0_checkRange rfl (by decide +kernel) rfl ⟨Nat.le_of_ble_eq_true rfl, Nat.le_of_ble_eq_true rfl⟩ rfl (Nat.le_of_ble_eq_true rfl) ⟨Nat.zero_le _, Nat.zero_le _⟩ rfl dX0_sell_12 ?_
  have hx1 := out_lo c_12_2
  refine g_aload_n 0 C rfl dX0_sell_15 rfl ?_
  refine g_iload_n 1 C rfl dX0_sell_16 rfl ?_
  by_cases c_17_3 : ¬ σ.2 7 q' ≤ 0
  ·
    obtain rfl : K = 3 := hK.trans (by simp [th_sell, c_5_1, c_12_2, c_17_3, kq'])
    exact g_callVX (C0 := RX0) (T := TX0) (N := 17) (ci := 0) (na := 1) (As := [.int (nI (q'))]) (c_checkAtHome l D cI cJ hst h σ np nt no ni hI0 q' (by omega) 3 (if_pos c_17_3).symm) C gX0_sell_X0_checkAtHome rfl (by decide +kernel) rfl ⟨by decide, by decide⟩ rfl rfl rfl (Nat.le_of_ble_eq_true rfl) ⟨by decide, by decide⟩ hout (by decide) (by decide) rfl dX0_sell_17
  refine g_callV0 (C0 := RX0) (T := TX0) (N := 17) (ci := 0) (na := 1) (As := [.int (nI (q'))]) (c_checkAtHome l D cI cJ hst h σ np nt no ni hI0 q' (by omega) 0 (if_neg c_17_3).symm) C gX0_sell_X0_checkAtHome rfl (by decide +kernel) rfl ⟨Nat.le_of_ble_eq_true rfl, Nat.le_of_ble_eq_true rfl⟩ rfl rfl rfl (Nat.le_of_ble_eq_true rfl) ⟨Nat.zero_le _, Nat.zero_le _⟩ rfl dX0_sell_17 ?_
  refine g_aload_n 0 C rfl dX0_sell_20 rfl ?_
  refine g_get (C0 := RX0) (T := TX0) (N := 17) 0 0 9 (.ref (h 5)) C hin rfl rfl (by decide) (by decide +kernel) rfl dX0_sell_21 ?_
  refine g_iload_n 1 C rfl dX0_sell_24 rfl ?_
  refine g_ialdN (cA := cI) (n := 8) (a := h 5) (f := σ.2 4) q' 5 0 C rfl rfl (by omega) (by decide) dX0_sell_25 ?_
  refine g_if_ne 39 C dX0_sell_26 (by decide) (fun c_26_4 => ?_) (fun c_26_4 => ?_)
  ·
    refine g_aload_n 0 C rfl dX0_sell_39 rfl ?_
    refine g_get (C0 := RX0) (T := TX0) (N := 17) 0 0 11 (.ref (h 7)) C hin rfl rfl (by decide) (by decide +kernel) rfl dX0_sell_40 ?_
    refine g_iload_n 1 C rfl dX0_sell_43 rfl ?_
    refine g_iload_n 2 C rfl dX0_sell_44 rfl ?_
    refine g_iastN (cA := cI) (n := 8) (a := h 7) (f := σ.2 6) (x := x) q' 7 0 (wA cI h (sA σ 6 (upd (σ.2 6) q' (x)))) C rfl rfl (by omega) (by decide) rfl dX0_sell_45 ?_
    refine g_aload_n 0 C rfl dX0_sell_46 rfl ?_
    refine g_iload_n 1 C rfl dX0_sell_47 rfl ?_
    refine g_callV0 (C0 := RX0) (T := TX0) (N := 17) (ci := 0) (na := 1) (As := [.int (nI (q'))]) (c_valueOf l D cI cJ h (sA σ 6 (upd (σ.2 6) q' (x))) np nt no ni hI0 q' (by omega)) C gX0_sell_X0_valueOf rfl (by decide +kernel) rfl ⟨Nat.le_of_ble_eq_true rfl, Nat.le_of_ble_eq_true rfl⟩ rfl rfl rfl (Nat.le_of_ble_eq_true rfl) ⟨Nat.zero_le _, Nat.zero_le _⟩ rfl dX0_sell_48 ?_
    obtain rfl : K = 0 := hK.trans (by simp [th_sell, c_5_1, c_12_2, c_17_3, c_26_4, kq'])
    exact g_iret C hr rfl dX0_sell_51 (Nat.zero_le _) (Nat.zero_le _) rfl (by rw [kq']; rfl) (by rw [kq']; rfl)
  ·
    obtain rfl : K = 3 := hK.trans (by simp [th_sell, c_5_1, c_12_2, c_17_3, c_26_4, kq'])
    exact g_throw (cls := eISE) (text := "the picture has no layer") C hst rfl (by decide +kernel) (by decide +kernel) (by decide +kernel) (by decide +kernel) (by decide +kernel) (by decide +kernel) (by decide +kernel) hout dX0_sell_29 dX0_sell_32 dX0_sell_33 dX0_sell_35 dX0_sell_38 (by decide) (by decide) (by decide) (by decide) (by decide) (by decide) rfl
set_option maxRecDepth 100000 in
set_option maxHeartbeats 4000000 in
theorem c_left (l : Launch) (D : va_G) (cI cJ : ClassId) (hst : l.stackTraces = false) (h : Nat → Nat) (σ : gS) (np nt no ni : Nat) (hI : iA σ np nt no ni) (t : Int32) (K : Nat) (hK : K = th_left nt t) : MC l yX0_left wsX0_left 7 111 D (tyIJ cI cJ) [.ref (h 0), .int (t)] (wA cI h σ) (wA cI h σ) (exT K) (some (.int (σ.2 2 (cl t)))) (nT K) := by
  have hI0 := hI
  obtain ⟨⟨hnp, hnp6⟩, ⟨hnt, hnt12⟩, ⟨hno, hno10⟩, ⟨hni, hni8⟩, hPT, hLC, hLH⟩ := hI
  refine MC.ofG (cc := cX0_left) (maxL := 2) (ret := (some .int)) [(0, .ref (h 0)), (1, .int (t))] (by decide) rfl (Nat.le_of_ble_eq_true rfl) rfl ?_
  intro p e s m args below meth c C hr hout
  have hin : ∀ w ∈ wsX00, w ∈ wsX0_left := fun w h => by first | exact List.mem_cons_of_mem _ (List.mem_append_right _ h) | exact List.mem_cons_of_mem _ (List.mem_append_left _ (List.mem_append_right _ h)) | exact List.mem_cons_of_mem _ (List.mem_append_left _ (List.mem_append_left _ (List.mem_append_right _ h))) | exact List.mem_cons_of_mem _ (List.mem_append_left _ (List.mem_append_left _ (List.mem_append_left _ (List.mem_append_right _ h)))) | exact List.mem_cons_of_mem _ (List.mem_append_left _ (List.mem_append_left _ (List.mem_append_left _ (List.mem_append_left _ (List.mem_append_right _ h)))))
  refine g_iload_n 1 C rfl dX0_left_0 rfl ?_
  refine g_aload_n 0 C rfl dX0_left_1 rfl ?_
  refine g_get (C0 := RX0) (T := TX0) (N := 17) 0 0 1 (.int (σ.1 1)) C hin rfl rfl (by decide) (by decide +kernel) rfl dX0_left_2 ?_
  refine g_is (nI nt) hnt ?_
  by_cases c_5_1 : bad t (nI (nt))
  ·
    obtain rfl : K = 1 := hK.trans (by simp [th_left, c_5_1])
    exact g_callSX (na := 2) (av := [.int (t), .int (nI (nt))]) (c_checkNumber l D cI cJ hst _ t (nI (nt)) 1 (if_pos c_5_1).symm) C gX0_left_X0_checkNumber rfl (by decide +kernel) rfl ⟨by decide, by decide⟩ rfl (Nat.le_of_ble_eq_true rfl) ⟨by decide, by decide⟩ hout (by decide) (by decide) rfl dX0_left_5
  refine g_callS0 (na := 2) (av := [.int (t), .int (nI (nt))]) (c_checkNumber l D cI cJ hst _ t (nI (nt)) 0 (if_neg c_5_1).symm) C gX0_left_X0_checkNumber rfl (by decide +kernel) rfl ⟨Nat.le_of_ble_eq_true rfl, Nat.le_of_ble_eq_true rfl⟩ rfl (Nat.le_of_ble_eq_true rfl) ⟨Nat.zero_le _, Nat.zero_le _⟩ rfl dX0_left_5 ?_
  obtain ⟨t', ht', rfl⟩ := nb_of (N := nt) rfl (by omega) c_5_1
  have kt' : cl (nI t') = t' := cl_nI (by omega)
  refine g_aload_n 0 C rfl dX0_left_8 rfl ?_
  refine g_get (C0 := RX0) (T := TX0) (N := 17) 0 0 7 (.ref (h 3)) C hin rfl rfl (by decide) (by decide +kernel) rfl dX0_left_9 ?_
  refine g_iload_n 1 C rfl dX0_left_12 rfl ?_
  refine g_ialdN (cA := cI) (n := 12) (a := h 3) (f := σ.2 2) t' 3 0 C rfl rfl (by omega) (by decide) dX0_left_13 ?_
  obtain rfl : K = 0 := hK.trans (by simp [th_left, c_5_1, kt'])
  exact g_iret C hr rfl dX0_left_14 (Nat.zero_le _) (Nat.zero_le _) rfl (by rw [kt']) rfl
set_option maxRecDepth 100000 in
set_option maxHeartbeats 4000000 in
theorem c_paid (l : Launch) (D : va_G) (cI cJ : ClassId) (hst : l.stackTraces = false) (h : Nat → Nat) (σ : gS) (np nt no ni : Nat) (hI : iA σ np nt no ni) (x : Int32) (K : Nat) (hK : K = th_paid x) : MC l yX0_paid wsX0_paid 7 111 D (tyIJ cI cJ) [.ref (h 0), .int (x)] (wA cI h σ) (wA cI h σ) (exT K) (some (.int (σ.2 11 (cl x)))) (nT K) := by
  have hI0 := hI
  obtain ⟨⟨hnp, hnp6⟩, ⟨hnt, hnt12⟩, ⟨hno, hno10⟩, ⟨hni, hni8⟩, hPT, hLC, hLH⟩ := hI
  refine MC.ofG (cc := cX0_paid) (maxL := 2) (ret := (some .int)) [(0, .ref (h 0)), (1, .int (x))] (by decide) rfl (Nat.le_of_ble_eq_true rfl) rfl ?_
  intro p e s m args below meth c C hr hout
  have hin : ∀ w ∈ wsX00, w ∈ wsX0_paid := fun w h => by first | exact List.mem_cons_of_mem _ (List.mem_append_right _ h) | exact List.mem_cons_of_mem _ (List.mem_append_left _ (List.mem_append_right _ h)) | exact List.mem_cons_of_mem _ (List.mem_append_left _ (List.mem_append_left _ (List.mem_append_right _ h))) | exact List.mem_cons_of_mem _ (List.mem_append_left _ (List.mem_append_left _ (List.mem_append_left _ (List.mem_append_right _ h)))) | exact List.mem_cons_of_mem _ (List.mem_append_left _ (List.mem_append_left _ (List.mem_append_left _ (List.mem_append_left _ (List.mem_append_right _ h)))))
  refine g_iload_n 1 C rfl dX0_paid_0 rfl ?_
  refine g_iconst 4 C dX0_paid_1 (by decide) ?_
  by_cases c_2_1 : bad x (4)
  ·
    obtain rfl : K = 1 := hK.trans (by simp [th_paid, c_2_1])
    exact g_callSX (na := 2) (av := [.int (x), .int (4)]) (c_checkNumber l D cI cJ hst _ x (4) 1 (if_pos c_2_1).symm) C gX0_paid_X0_checkNumber rfl (by decide +kernel) rfl ⟨by decide, by decide⟩ rfl (Nat.le_of_ble_eq_true rfl) ⟨by decide, by decide⟩ hout (by decide) (by decide) rfl dX0_paid_2
  refine g_callS0 (na := 2) (av := [.int (x), .int (4)]) (c_checkNumber l D cI cJ hst _ x (4) 0 (if_neg c_2_1).symm) C gX0_paid_X0_checkNumber rfl (by decide +kernel) rfl ⟨Nat.le_of_ble_eq_true rfl, Nat.le_of_ble_eq_true rfl⟩ rfl (Nat.le_of_ble_eq_true rfl) ⟨Nat.zero_le _, Nat.zero_le _⟩ rfl dX0_paid_2 ?_
  obtain ⟨x', hx', rfl⟩ := nb_of (N := 4) rfl (by omega) c_2_1
  have kx' : cl (nI x') = x' := cl_nI (by omega)
  refine g_aload_n 0 C rfl dX0_paid_5 rfl ?_
  refine g_get (C0 := RX0) (T := TX0) (N := 17) 0 0 16 (.ref (h 12)) C hin rfl rfl (by decide) (by decide +kernel) rfl dX0_paid_6 ?_
  refine g_iload_n 1 C rfl dX0_paid_9 rfl ?_
  refine g_ialdN (cA := cI) (n := 4) (a := h 12) (f := σ.2 11) x' 12 0 C rfl rfl (by omega) (by decide) dX0_paid_10 ?_
  obtain rfl : K = 0 := hK.trans (by simp [th_paid, c_2_1, kx'])
  exact g_iret C hr rfl dX0_paid_11 (Nat.zero_le _) (Nat.zero_le _) rfl (by rw [kx']) rfl
set_option maxRecDepth 100000 in
set_option maxHeartbeats 4000000 in
theorem c_colour (l : Launch) (D : va_G) (cI cJ : ClassId) (hst : l.stackTraces = false) (h : Nat → Nat) (σ : gS) (np nt no ni : Nat) (hI : iA σ np nt no ni) (x v : Int32) (K : Nat) (hK : K = th_colour no x v) : MC l yX0_colour wsX0_colour 7 112 D (tyIJ cI cJ) [.ref (h 0), .int (x), .int (v)] (wA cI h σ) (wA cI h σ) (exT K) (some (.int (colR σ nt (cl x) (cl v)))) (nT K) := by
  have hI0 := hI
  obtain ⟨⟨hnp, hnp6⟩, ⟨hnt, hnt12⟩, ⟨hno, hno10⟩, ⟨hni, hni8⟩, hPT, hLC, hLH⟩ := hI
  refine MC.ofG (cc := cX0_colour) (maxL := 3) (ret := (some .int)) [(0, .ref (h 0)), (1, .int (x)), (2, .int (v))] (by decide) rfl (Nat.le_of_ble_eq_true rfl) rfl ?_
  intro p e s m args below meth c C hr hout
  have hin : ∀ w ∈ wsX00, w ∈ wsX0_colour := fun w h => by first | exact List.mem_cons_of_mem _ (List.mem_append_right _ h) | exact List.mem_cons_of_mem _ (List.mem_append_left _ (List.mem_append_right _ h)) | exact List.mem_cons_of_mem _ (List.mem_append_left _ (List.mem_append_left _ (List.mem_append_right _ h))) | exact List.mem_cons_of_mem _ (List.mem_append_left _ (List.mem_append_left _ (List.mem_append_left _ (List.mem_append_right _ h)))) | exact List.mem_cons_of_mem _ (List.mem_append_left _ (List.mem_append_left _ (List.mem_append_left _ (List.mem_append_left _ (List.mem_append_right _ h)))))
  refine g_iload_n 1 C rfl dX0_colour_0 rfl ?_
  refine g_aload_n 0 C rfl dX0_colour_1 rfl ?_
  refine g_get (C0 := RX0) (T := TX0) (N := 17) 0 0 2 (.int (σ.1 2)) C hin rfl rfl (by decide) (by decide +kernel) rfl dX0_colour_2 ?_
  refine g_is (nI no) hno ?_
  by_cases c_5_1 : bad x (nI (no))
  ·
    obtain rfl : K = 1 := hK.trans (by simp [th_colour, c_5_1])
    exact g_callSX (na := 2) (av := [.int (x), .int (nI (no))]) (c_checkNumber l D cI cJ hst _ x (nI (no)) 1 (if_pos c_5_1).symm) C gX0_colour_X0_checkNumber rfl (by decide +kernel) rfl ⟨by decide, by decide⟩ rfl (Nat.le_of_ble_eq_true rfl) ⟨by decide, by decide⟩ hout (by decide) (by decide) rfl dX0_colour_5
  refine g_callS0 (na := 2) (av := [.int (x), .int (nI (no))]) (c_checkNumber l D cI cJ hst _ x (nI (no)) 0 (if_neg c_5_1).symm) C gX0_colour_X0_checkNumber rfl (by decide +kernel) rfl ⟨Nat.le_of_ble_eq_true rfl, Nat.le_of_ble_eq_true rfl⟩ rfl (Nat.le_of_ble_eq_true rfl) ⟨Nat.zero_le _, Nat.zero_le _⟩ rfl dX0_colour_5 ?_
  obtain ⟨x', hx', rfl⟩ := nb_of (N := no) rfl (by omega) c_5_1
  have kx' : cl (nI x') = x' := cl_nI (by omega)
  refine g_iload_n 2 C rfl dX0_colour_8 rfl ?_
  refine g_iconst 0 C dX0_colour_9 (by decide) ?_
  refine g_iconst 2 C dX0_colour_10 (by decide) ?_
  by_cases c_11_2 : out (v) (0) (2)
  ·
    obtain rfl : K = 2 := hK.trans (by simp [th_colour, c_5_1, c_11_2, kx'])
    exact g_callSX (na := 3) (av := [.int (v), .int (0), .int (2)]) (c_checkRange l D cI cJ hst _ (v) (0) (2) 2 (if_pos c_11_2).symm) C gX0_colour_X0_checkRange rfl (by decide +kernel) rfl ⟨by decide, by decide⟩ rfl (Nat.le_of_ble_eq_true rfl) ⟨by decide, by decide⟩ hout (by decide) (by decide) rfl dX0_colour_11
  refine g_callS0 (na := 3) (av := [.int (v), .int (0), .int (2)]) (c_checkRange l D cI cJ hst _ (v) (0) (2) 0 (if_neg c_11_2).symm) C gX0_colour_X0_checkRange rfl (by decide +kernel) rfl ⟨Nat.le_of_ble_eq_true rfl, Nat.le_of_ble_eq_true rfl⟩ rfl (Nat.le_of_ble_eq_true rfl) ⟨Nat.zero_le _, Nat.zero_le _⟩ rfl dX0_colour_11 ?_
  have hv1 := out_lo c_11_2
  obtain ⟨v', hv', rfl⟩ := out_nat (M := 2) rfl (by decide) c_11_2
  have kv' : cl (nI v') = v' := cl_nI (by omega)
  refine g_aload_n 0 C rfl dX0_colour_14 rfl ?_
  refine g_iload_n 1 C rfl dX0_colour_15 rfl ?_
  refine g_callS0 (na := 1) (av := [.int (nI (x'))]) (c_potRow l D cI cJ _ (nI (x'))) C gX0_colour_X0_potRow rfl (by decide +kernel) rfl ⟨Nat.le_of_ble_eq_true rfl, Nat.le_of_ble_eq_true rfl⟩ rfl (Nat.le_of_ble_eq_true rfl) ⟨Nat.zero_le _, Nat.zero_le _⟩ rfl dX0_colour_16 ?_
  refine g_iload_n 2 C rfl dX0_colour_19 rfl ?_
  refine g_callV0 (C0 := RX0) (T := TX0) (N := 17) (ci := 0) (na := 2) (As := [.int (nI (x')), .int (nI (v'))]) (c_colourOfRow l D cI cJ h σ np nt no ni hI0 x' v' (by omega) (by omega)) C gX0_colour_X0_colourOfRow rfl (by decide +kernel) rfl ⟨Nat.le_of_ble_eq_true rfl, Nat.le_of_ble_eq_true rfl⟩ rfl rfl rfl (Nat.le_of_ble_eq_true rfl) ⟨Nat.zero_le _, Nat.zero_le _⟩ rfl dX0_colour_20 ?_
  obtain rfl : K = 0 := hK.trans (by simp [th_colour, c_5_1, c_11_2, kx', kv'])
  exact g_iret C hr rfl dX0_colour_23 (Nat.zero_le _) (Nat.zero_le _) rfl (by rw [kx', kv']) rfl
set_option maxRecDepth 100000 in
set_option maxHeartbeats 4000000 in
theorem c_layer (l : Launch) (D : va_G) (cI cJ : ClassId) (hst : l.stackTraces = false) (h : Nat → Nat) (σ : gS) (np nt no ni : Nat) (hI : iA σ np nt no ni) (q k t : Int32) (K : Nat) (hK : K = th_layer σ nt ni q k t) : MC l yX0_layer wsX0_layer 7 111 D (tyIJ cI cJ) [.ref (h 0), .int (q), .int (k), .int (t)] (wA cI h σ) (wA cI h σ) (exT K) (some (.int (σ.2 3 ((10 + cl q * 12 + cl k) * 12 + cl t)))) (nT K) := by
  have hI0 := hI
  obtain ⟨⟨hnp, hnp6⟩, ⟨hnt, hnt12⟩, ⟨hno, hno10⟩, ⟨hni, hni8⟩, hPT, hLC, hLH⟩ := hI
  refine MC.ofG (cc := cX0_layer) (maxL := 4) (ret := (some .int)) [(0, .ref (h 0)), (1, .int (q)), (2, .int (k)), (3, .int (t))] (by decide) rfl (Nat.le_of_ble_eq_true rfl) rfl ?_
  intro p e s m args below meth c C hr hout
  have hin : ∀ w ∈ wsX00, w ∈ wsX0_layer := fun w h => by first | exact List.mem_cons_of_mem _ (List.mem_append_right _ h) | exact List.mem_cons_of_mem _ (List.mem_append_left _ (List.mem_append_right _ h)) | exact List.mem_cons_of_mem _ (List.mem_append_left _ (List.mem_append_left _ (List.mem_append_right _ h))) | exact List.mem_cons_of_mem _ (List.mem_append_left _ (List.mem_append_left _ (List.mem_append_left _ (List.mem_append_right _ h)))) | exact List.mem_cons_of_mem _ (List.mem_append_left _ (List.mem_append_left _ (List.mem_append_left _ (List.mem_append_left _ (List.mem_append_right _ h)))))
  refine g_iload_n 1 C rfl dX0_layer_0 rfl ?_
  refine g_aload_n 0 C rfl dX0_layer_1 rfl ?_
  refine g_get (C0 := RX0) (T := TX0) (N := 17) 0 0 3 (.int (σ.1 3)) C hin rfl rfl (by decide) (by decide +kernel) rfl dX0_layer_2 ?_
  refine g_is (nI ni) hni ?_
  by_cases c_5_1 : bad q (nI (ni))
  ·
    obtain rfl : K = 1 := hK.trans (by simp [th_layer, c_5_1])
    exact g_callSX (na := 2) (av := [.int (q), .int (nI (ni))]) (c_checkNumber l D cI cJ hst _ q (nI (ni)) 1 (if_pos c_5_1).symm) C gX0_layer_X0_checkNumber rfl (by decide +kernel) rfl ⟨by decide, by decide⟩ rfl (Nat.le_of_ble_eq_true rfl) ⟨by decide, by decide⟩ hout (by decide) (by decide) rfl dX0_layer_5
  refine g_callS0 (na := 2) (av := [.int (q), .int (nI (ni))]) (c_checkNumber l D cI cJ hst _ q (nI (ni)) 0 (if_neg c_5_1).symm) C gX0_layer_X0_checkNumber rfl (by decide +kernel) rfl ⟨Nat.le_of_ble_eq_true rfl, Nat.le_of_ble_eq_true rfl⟩ rfl (Nat.le_of_ble_eq_true rfl) ⟨Nat.zero_le _, Nat.zero_le _⟩ rfl dX0_layer_5 ?_
  obtain ⟨q', hq', rfl⟩ := nb_of (N := ni) rfl (by omega) c_5_1
  have kq' : cl (nI q') = q' := cl_nI (by omega)
  refine g_iload_n 2 C rfl dX0_layer_8 rfl ?_
  refine g_aload_n 0 C rfl dX0_layer_9 rfl ?_
  refine g_get (C0 := RX0) (T := TX0) (N := 17) 0 0 9 (.ref (h 5)) C hin rfl rfl (by decide) (by decide +kernel) rfl dX0_layer_10 ?_
  refine g_iload_n 1 C rfl dX0_layer_13 rfl ?_
  refine g_ialdN (cA := cI) (n := 8) (a := h 5) (f := σ.2 4) q' 5 0 C rfl rfl (by omega) (by decide) dX0_layer_14 ?_
  obtain ⟨jL, hjL, ejL⟩ := hLC q'
  refine g_is (nI (jL)) ejL ?_
  by_cases c_15_2 : bad k (nI (jL))
  ·
    obtain rfl : K = 1 := hK.trans (by simp [th_layer, c_5_1, c_15_2, kq', ejL])
    exact g_callSX (na := 2) (av := [.int (k), .int (nI (jL))]) (c_checkNumber l D cI cJ hst _ k (nI (jL)) 1 (if_pos c_15_2).symm) C gX0_layer_X0_checkNumber rfl (by decide +kernel) rfl ⟨by decide, by decide⟩ rfl (Nat.le_of_ble_eq_true rfl) ⟨by decide, by decide⟩ hout (by decide) (by decide) rfl dX0_layer_15
  refine g_callS0 (na := 2) (av := [.int (k), .int (nI (jL))]) (c_checkNumber l D cI cJ hst _ k (nI (jL)) 0 (if_neg c_15_2).symm) C gX0_layer_X0_checkNumber rfl (by decide +kernel) rfl ⟨Nat.le_of_ble_eq_true rfl, Nat.le_of_ble_eq_true rfl⟩ rfl (Nat.le_of_ble_eq_true rfl) ⟨Nat.zero_le _, Nat.zero_le _⟩ rfl dX0_layer_15 ?_
  obtain ⟨k', hk', rfl⟩ := nb_of (N := jL) rfl (by omega) c_15_2
  have kk' : cl (nI k') = k' := cl_nI (by omega)
  refine g_iload_n 3 C rfl dX0_layer_18 rfl ?_
  refine g_aload_n 0 C rfl dX0_layer_19 rfl ?_
  refine g_get (C0 := RX0) (T := TX0) (N := 17) 0 0 1 (.int (σ.1 1)) C hin rfl rfl (by decide) (by decide +kernel) rfl dX0_layer_20 ?_
  refine g_is (nI nt) hnt ?_
  by_cases c_23_3 : bad t (nI (nt))
  ·
    obtain rfl : K = 1 := hK.trans (by simp [th_layer, c_5_1, c_15_2, c_23_3, kq', ejL, kk'])
    exact g_callSX (na := 2) (av := [.int (t), .int (nI (nt))]) (c_checkNumber l D cI cJ hst _ t (nI (nt)) 1 (if_pos c_23_3).symm) C gX0_layer_X0_checkNumber rfl (by decide +kernel) rfl ⟨by decide, by decide⟩ rfl (Nat.le_of_ble_eq_true rfl) ⟨by decide, by decide⟩ hout (by decide) (by decide) rfl dX0_layer_23
  refine g_callS0 (na := 2) (av := [.int (t), .int (nI (nt))]) (c_checkNumber l D cI cJ hst _ t (nI (nt)) 0 (if_neg c_23_3).symm) C gX0_layer_X0_checkNumber rfl (by decide +kernel) rfl ⟨Nat.le_of_ble_eq_true rfl, Nat.le_of_ble_eq_true rfl⟩ rfl (Nat.le_of_ble_eq_true rfl) ⟨Nat.zero_le _, Nat.zero_le _⟩ rfl dX0_layer_23 ?_
  obtain ⟨t', ht', rfl⟩ := nb_of (N := nt) rfl (by omega) c_23_3
  have kt' : cl (nI t') = t' := cl_nI (by omega)
  refine g_aload_n 0 C rfl dX0_layer_26 rfl ?_
  refine g_get (C0 := RX0) (T := TX0) (N := 17) 0 0 8 (.ref (h 4)) C hin rfl rfl (by decide) (by decide +kernel) rfl dX0_layer_27 ?_
  refine g_iload_n 1 C rfl dX0_layer_30 rfl ?_
  refine g_iload_n 2 C rfl dX0_layer_31 rfl ?_
  refine g_callS0 (na := 2) (av := [.int (nI (q')), .int (nI (k'))]) (c_layerRow l D cI cJ _ q' k') C gX0_layer_X0_layerRow rfl (by decide +kernel) rfl ⟨Nat.le_of_ble_eq_true rfl, Nat.le_of_ble_eq_true rfl⟩ rfl (Nat.le_of_ble_eq_true rfl) ⟨Nat.zero_le _, Nat.zero_le _⟩ rfl dX0_layer_32 ?_
  refine g_iload_n 3 C rfl dX0_layer_35 rfl ?_
  refine g_callS0 (na := 2) (av := [.int (nI (10 + q' * 12 + k')), .int (nI (t'))]) (c_place l D cI cJ _ (10 + q' * 12 + k') t') C gX0_layer_X0_place rfl (by decide +kernel) rfl ⟨Nat.le_of_ble_eq_true rfl, Nat.le_of_ble_eq_true rfl⟩ rfl (Nat.le_of_ble_eq_true rfl) ⟨Nat.zero_le _, Nat.zero_le _⟩ rfl dX0_layer_36 ?_
  refine g_ialdN (cA := cI) (n := 1284) (a := h 4) (f := σ.2 3) ((10 + q' * 12 + k') * 12 + t') 4 0 C rfl rfl (by omega) (by decide) dX0_layer_39 ?_
  obtain rfl : K = 0 := hK.trans (by simp [th_layer, c_5_1, c_15_2, c_23_3, kq', ejL, kk', kt'])
  exact g_iret C hr rfl dX0_layer_40 (Nat.zero_le _) (Nat.zero_le _) rfl (by rw [kq', kk', kt']) rfl
end
section
/-! The book, its calls (2). -/
set_option maxRecDepth 100000 in
set_option maxHeartbeats 4000000 in
theorem c_clean (l : Launch) (D : va_G) (cI cJ : ClassId) (hst : l.stackTraces = false) (h : Nat → Nat) (σ : gS) (np nt no ni : Nat) (hI : iA σ np nt no ni) (q n : Int32) (K : Nat) (hK : K = th_clean σ ni q n) : MC l yX0_clean wsX0_clean 7 112 D (tyIJ cI cJ) [.ref (h 0), .int (q), .int (n)] (wA cI h σ) (wA cI h (s_clean σ nt (cl q) (cl n))) (exT K) (some (.int (clS (σ.2 3) nt (cl q) (cl (σ.2 4 (cl q))) (cl n)))) (nT K) := by
  have hI0 := hI
  obtain ⟨⟨hnp, hnp6⟩, ⟨hnt, hnt12⟩, ⟨hno, hno10⟩, ⟨hni, hni8⟩, hPT, hLC, hLH⟩ := hI
  refine MC.ofG (cc := cX0_clean) (maxL := 5) (ret := (some .int)) [(0, .ref (h 0)), (1, .int (q)), (2, .int (n))] (by decide) rfl (Nat.le_of_ble_eq_true rfl) rfl ?_
  intro p e s m args below meth c C hr hout
  have hin : ∀ w ∈ wsX00, w ∈ wsX0_clean := fun w h => by first | exact List.mem_cons_of_mem _ (List.mem_append_right _ h) | exact List.mem_cons_of_mem _ (List.mem_append_left _ (List.mem_append_right _ h)) | exact List.mem_cons_of_mem _ (List.mem_append_left _ (List.mem_append_left _ (List.mem_append_right _ h))) | exact List.mem_cons_of_mem _ (List.mem_append_left _ (List.mem_append_left _ (List.mem_append_left _ (List.mem_append_right _ h)))) | exact List.mem_cons_of_mem _ (List.mem_append_left _ (List.mem_append_left _ (List.mem_append_left _ (List.mem_append_left _ (List.mem_append_right _ h)))))
  refine g_iload_n 1 C rfl dX0_clean_0 rfl ?_
  refine g_aload_n 0 C rfl dX0_clean_1 rfl ?_
  refine g_get (C0 := RX0) (T := TX0) (N := 17) 0 0 3 (.int (σ.1 3)) C hin rfl rfl (by decide) (by decide +kernel) rfl dX0_clean_2 ?_
  refine g_is (nI ni) hni ?_
  by_cases c_5_1 : bad q (nI (ni))
  ·
    obtain rfl : K = 1 := hK.trans (by simp [th_clean, c_5_1])
    exact g_callSX (na := 2) (av := [.int (q), .int (nI (ni))]) (c_checkNumber l D cI cJ hst _ q (nI (ni)) 1 (if_pos c_5_1).symm) C gX0_clean_X0_checkNumber rfl (by decide +kernel) rfl ⟨by decide, by decide⟩ rfl (Nat.le_of_ble_eq_true rfl) ⟨by decide, by decide⟩ hout (by decide) (by decide) rfl dX0_clean_5
  refine g_callS0 (na := 2) (av := [.int (q), .int (nI (ni))]) (c_checkNumber l D cI cJ hst _ q (nI (ni)) 0 (if_neg c_5_1).symm) C gX0_clean_X0_checkNumber rfl (by decide +kernel) rfl ⟨Nat.le_of_ble_eq_true rfl, Nat.le_of_ble_eq_true rfl⟩ rfl (Nat.le_of_ble_eq_true rfl) ⟨Nat.zero_le _, Nat.zero_le _⟩ rfl dX0_clean_5 ?_
  obtain ⟨q', hq', rfl⟩ := nb_of (N := ni) rfl (by omega) c_5_1
  have kq' : cl (nI q') = q' := cl_nI (by omega)
  refine g_iload_n 2 C rfl dX0_clean_8 rfl ?_
  refine g_iconst 1 C dX0_clean_9 (by decide) ?_
  refine g_bipush 12 C dX0_clean_10 (by decide) ?_
  by_cases c_12_2 : out (n) (1) (12)
  ·
    obtain rfl : K = 2 := hK.trans (by simp [th_clean, c_5_1, c_12_2, kq'])
    exact g_callSX (na := 3) (av := [.int (n), .int (1), .int (12)]) (c_checkRange l D cI cJ hst _ (n) (1) (12) 2 (if_pos c_12_2).symm) C gX0_clean_X0_checkRange rfl (by decide +kernel) rfl ⟨by decide, by decide⟩ rfl (Nat.le_of_ble_eq_true rfl) ⟨by decide, by decide⟩ hout (by decide) (by decide) rfl dX0_clean_12
  refine g_callS0 (na := 3) (av := [.int (n), .int (1), .int (12)]) (c_checkRange l D cI cJ hst _ (n) (1) (12) 0 (if_neg c_12_2).symm) C gX0_clean_X0_checkRange rfl (by decide +kernel) rfl ⟨Nat.le_of_ble_eq_true rfl, Nat.le_of_ble_eq_true rfl⟩ rfl (Nat.le_of_ble_eq_true rfl) ⟨Nat.zero_le _, Nat.zero_le _⟩ rfl dX0_clean_12 ?_
  have hn1 := out_lo c_12_2
  obtain ⟨n', hn', rfl⟩ := out_nat (M := 12) rfl (by decide) c_12_2
  have kn' : cl (nI n') = n' := cl_nI (by omega)
  refine g_aload_n 0 C rfl dX0_clean_15 rfl ?_
  refine g_iload_n 1 C rfl dX0_clean_16 rfl ?_
  by_cases c_17_3 : ¬ σ.2 7 q' ≤ 0
  ·
    obtain rfl : K = 3 := hK.trans (by simp [th_clean, c_5_1, c_12_2, c_17_3, kq', kn'])
    exact g_callVX (C0 := RX0) (T := TX0) (N := 17) (ci := 0) (na := 1) (As := [.int (nI (q'))]) (c_checkAtHome l D cI cJ hst h σ np nt no ni hI0 q' (by omega) 3 (if_pos c_17_3).symm) C gX0_clean_X0_checkAtHome rfl (by decide +kernel) rfl ⟨by decide, by decide⟩ rfl rfl rfl (Nat.le_of_ble_eq_true rfl) ⟨by decide, by decide⟩ hout (by decide) (by decide) rfl dX0_clean_17
  refine g_callV0 (C0 := RX0) (T := TX0) (N := 17) (ci := 0) (na := 1) (As := [.int (nI (q'))]) (c_checkAtHome l D cI cJ hst h σ np nt no ni hI0 q' (by omega) 0 (if_neg c_17_3).symm) C gX0_clean_X0_checkAtHome rfl (by decide +kernel) rfl ⟨Nat.le_of_ble_eq_true rfl, Nat.le_of_ble_eq_true rfl⟩ rfl rfl rfl (Nat.le_of_ble_eq_true rfl) ⟨Nat.zero_le _, Nat.zero_le _⟩ rfl dX0_clean_17 ?_
  refine g_aload_n 0 C rfl dX0_clean_20 rfl ?_
  refine g_get (C0 := RX0) (T := TX0) (N := 17) 0 0 9 (.ref (h 5)) C hin rfl rfl (by decide) (by decide +kernel) rfl dX0_clean_21 ?_
  refine g_iload_n 1 C rfl dX0_clean_24 rfl ?_
  refine g_ialdN (cA := cI) (n := 8) (a := h 5) (f := σ.2 4) q' 5 0 C rfl rfl (by omega) (by decide) dX0_clean_25 ?_
  obtain ⟨jL, hjL, ejL⟩ := hLC q'
  refine g_is (nI (jL)) ejL ?_
  refine g_iload_n 2 C rfl dX0_clean_26 rfl ?_
  refine g_icmp_ge 40 C dX0_clean_27 (by decide) (fun c_27_4 => ?_) (fun c_27_4 => ?_)
  ·
    have d_27_4 : n' ≤ jL := (nI_leI (a := n') (b := jL) (by omega) (by omega)).mp c_27_4
    refine g_iconst 0 C dX0_clean_40 (by decide) ?_
    refine g_istore_n [(3, .int (0)), (0, .ref (h 0)), (1, .int (nI (q'))), (2, .int (nI (n')))] C dX0_clean_41 rfl (by decide) rfl ?_
    refine g_iconst 0 C dX0_clean_42 (by decide) ?_
    refine g_istore [(4, .int (0)), (3, .int (0)), (0, .ref (h 0)), (1, .int (nI (q'))), (2, .int (nI (n')))] C dX0_clean_43 (by decide) rfl ?_
    have loop_45 : ∀ (fu : Nat) (k : Nat), k ≤ n' → n' + 1 ≤ k + fu → G p l e ({ frames := 7, cells := (nT K), slots := 6 * (nT K), locals := 112 } : Room) s m args below meth c D (va_A (wA cI h σ) s.heap.size) 5 0 0 (gQ below D (wA cI h σ) (wA cI h (s_clean σ nt (cl (nI q')) (cl (nI n')))) (exT K) (some (.int (clS (σ.2 3) nt (cl (nI q')) (cl (σ.2 4 (cl (nI q')))) (cl (nI n'))))) (nT K) args s) (wA cI h (sA (sA σ 3 (clL (σ.2 3) nt q' jL k)) 4 (upd (σ.2 4) q' (nI (jL - k))))) [(0, .ref (h 0)), (1, .int (nI (q'))), (2, .int (nI (n'))), (3, .int (clS (σ.2 3) nt q' jL k)), (4, .int (nI (k)))] 45 [] := by
      intro fu
      induction fu with
      | zero => intro k hk hf; exact absurd True.intro (by omega)
      | succ fu ih_45 =>
        intro k hk hf
        refine g_iload 4 C rfl dX0_clean_45 ?_
        refine g_iload_n 2 C rfl dX0_clean_47 rfl ?_
        refine g_icmp_ge 84 C dX0_clean_48 (by decide) (fun c_48_5 => ?_) (fun c_48_5 => ?_)
        ·
          have d_48_5 : n' ≤ k := (nI_leI (a := n') (b := k) (by omega) (by omega)).mp c_48_5
          refine g_iload_n 3 C rfl dX0_clean_84 rfl ?_
          obtain rfl : K = 0 := hK.trans (by simp [th_clean, c_5_1, c_12_2, c_17_3, c_27_4, c_48_5, kq', kn', ejL])
          exact g_iret C hr rfl dX0_clean_85 (Nat.zero_le _) (Nat.zero_le _) rfl (by rw [kq', kn', ejL, cl_nI (by omega), show n' = k by omega]) (by rw [s_clean, kq', kn', ejL, cl_nI (by omega), show n' = k by omega])
        ·
          have d_48_5 : ¬ n' ≤ k := fun zz => c_48_5 ((nI_leI (a := n') (b := k) (by omega) (by omega)).mpr zz)
          refine g_aload_n 0 C rfl dX0_clean_51 rfl ?_
          refine g_get (C0 := RX0) (T := TX0) (N := 17) 0 0 9 (.ref (h 5)) C hin rfl rfl (by decide) (by decide +kernel) rfl dX0_clean_52 ?_
          refine g_iload_n 1 C rfl dX0_clean_55 rfl ?_
          refine g_dup2 C dX0_clean_56 rfl rfl ?_
          refine g_ialdN (cA := cI) (n := 8) (a := h 5) (f := upd (σ.2 4) q' (nI (jL - k))) q' 5 0 C rfl rfl (by omega) (by decide) dX0_clean_57 ?_
          refine g_is (nI (jL - k)) pk_us ?_
          refine g_iconst 1 C dX0_clean_58 (by decide) ?_
          refine g_isubN (jL - k) 1 C (by omega) dX0_clean_59 ?_
          refine g_iastN (cA := cI) (n := 8) (a := h 5) (f := upd (σ.2 4) q' (nI (jL - k))) (x := nI ((jL - k) - 1)) q' 5 0 (wA cI h (sA (sA σ 3 (clL (σ.2 3) nt q' jL k)) 4 (upd (upd (σ.2 4) q' (nI (jL - k))) q' (nI ((jL - k) - 1))))) C rfl rfl (by omega) (by decide) rfl dX0_clean_60 ?_
          refine g_w (wA cI h (sA (sA σ 3 (clL (σ.2 3) nt q' jL k)) 4 (upd (σ.2 4) q' (nI (jL - k - 1))))) (by rw [upd_two]) ?_
          refine g_iload_n 3 C rfl dX0_clean_61 rfl ?_
          refine g_aload_n 0 C rfl dX0_clean_62 rfl ?_
          refine g_iload_n 1 C rfl dX0_clean_63 rfl ?_
          refine g_aload_n 0 C rfl dX0_clean_64 rfl ?_
          refine g_get (C0 := RX0) (T := TX0) (N := 17) 0 0 9 (.ref (h 5)) C hin rfl rfl (by decide) (by decide +kernel) rfl dX0_clean_65 ?_
          refine g_iload_n 1 C rfl dX0_clean_68 rfl ?_
          refine g_ialdN (cA := cI) (n := 8) (a := h 5) (f := upd (σ.2 4) q' (nI (jL - k - 1))) q' 5 0 C rfl rfl (by omega) (by decide) dX0_clean_69 ?_
          refine g_is (nI (jL - k - 1)) pk_us ?_
          refine g_callS0 (na := 2) (av := [.int (nI (q')), .int (nI (jL - k - 1))]) (c_layerRow l D cI cJ _ q' (jL - k - 1)) C gX0_clean_X0_layerRow rfl (by decide +kernel) rfl ⟨Nat.le_of_ble_eq_true rfl, Nat.le_of_ble_eq_true rfl⟩ rfl (Nat.le_of_ble_eq_true rfl) ⟨Nat.zero_le _, Nat.zero_le _⟩ rfl dX0_clean_70 ?_
          refine g_callV0 (C0 := RX0) (T := TX0) (N := 17) (ci := 0) (na := 1) (As := [.int (nI (10 + q' * 12 + (jL - k - 1)))]) (c_waste l D cI cJ h (sA (sA σ 3 (clL (σ.2 3) nt q' jL k)) 4 (upd (σ.2 4) q' (nI (jL - k - 1)))) np nt no ni (iA_LC hI0 _ q' (by omega)) (10 + q' * 12 + (jL - k - 1)) (by omega)) C gX0_clean_X0_waste rfl (by decide +kernel) rfl ⟨Nat.le_of_ble_eq_true rfl, Nat.le_of_ble_eq_true rfl⟩ rfl rfl rfl (Nat.le_of_ble_eq_true rfl) ⟨Nat.zero_le _, Nat.zero_le _⟩ rfl dX0_clean_73 ?_
          refine g_w (wA cI h (sA (sA σ 3 (wzL (clL (σ.2 3) nt q' jL k) (10 + q' * 12 + (jL - k - 1)) nt)) 4 (upd (σ.2 4) q' (nI (jL - k - 1))))) rfl ?_
          refine g_iadd C dX0_clean_76 ?_
          refine g_istore_n [(3, .int ((clS (σ.2 3) nt q' jL k) + (rowS (clL (σ.2 3) nt q' jL k) (10 + q' * 12 + (jL - k - 1)) nt))), (0, .ref (h 0)), (1, .int (nI (q'))), (2, .int (nI (n'))), (4, .int (nI (k)))] C dX0_clean_77 rfl (by decide) rfl ?_
          refine g_iincN 4 k 1 [(4, .int (nI (k + 1))), (3, .int ((clS (σ.2 3) nt q' jL k) + (rowS (clL (σ.2 3) nt q' jL k) (10 + q' * 12 + (jL - k - 1)) nt))), (0, .ref (h 0)), (1, .int (nI (q'))), (2, .int (nI (n')))] C dX0_clean_78 rfl (by decide) (by decide) rfl ?_
          refine g_goto 45 C dX0_clean_81 (by decide) ?_
          refine g_lv [2, 3, 4, 1, 0] [(0, .ref (h 0)), (1, .int (nI (q'))), (2, .int (nI (n'))), (3, .int ((clS (σ.2 3) nt q' jL k) + (rowS (clL (σ.2 3) nt q' jL k) (10 + q' * 12 + (jL - k - 1)) nt))), (4, .int (nI (k + 1)))] rfl ?_
          exact ih_45 (k + 1) (by omega) (by omega)
    refine g_lv [2, 3, 4, 1, 0] [(0, .ref (h 0)), (1, .int (nI (q'))), (2, .int (nI (n'))), (3, .int (0)), (4, .int (0))] rfl ?_
    refine g_w (wA cI h (sA (sA σ 3 (clL (σ.2 3) nt q' jL 0)) 4 (upd (σ.2 4) q' (nI (jL - 0))))) (by rw [show upd (σ.2 4) q' (nI (jL - 0)) = σ.2 4 from upd_id ejL]; rfl) ?_
    exact loop_45 (n' + 1) 0 (by omega) (by omega)
  ·
    have d_27_4 : ¬ n' ≤ jL := fun zz => c_27_4 ((nI_leI (a := n') (b := jL) (by omega) (by omega)).mpr zz)
    obtain rfl : K = 3 := hK.trans (by simp [th_clean, c_5_1, c_12_2, c_17_3, c_27_4, kq', kn', ejL])
    exact g_throw (cls := eISE) (text := "the picture has not so many layers") C hst rfl (by decide +kernel) (by decide +kernel) (by decide +kernel) (by decide +kernel) (by decide +kernel) (by decide +kernel) (by decide +kernel) hout dX0_clean_30 dX0_clean_33 dX0_clean_34 dX0_clean_36 dX0_clean_39 (by decide) (by decide) (by decide) (by decide) (by decide) (by decide) rfl
set_option maxRecDepth 100000 in
set_option maxHeartbeats 4000000 in
theorem c_pass (l : Launch) (D : va_G) (cI cJ : ClassId) (hst : l.stackTraces = false) (h : Nat → Nat) (σ : gS) (np nt no ni : Nat) (hI : iA σ np nt no ni) (d : Int32) (K : Nat) (hK : K = th_pass σ d) : MC l yX0_pass wsX0_pass 7 112 D (tyIJ cI cJ) [.ref (h 0), .int (d)] (wA cI h σ) (wA cI h (sS (pfls σ d ni) 4 (σ.1 4 + d))) (exT K) (some (.int (σ.1 4 + d))) (nT K) := by
  have hI0 := hI
  obtain ⟨⟨hnp, hnp6⟩, ⟨hnt, hnt12⟩, ⟨hno, hno10⟩, ⟨hni, hni8⟩, hPT, hLC, hLH⟩ := hI
  refine MC.ofG (cc := cX0_pass) (maxL := 3) (ret := (some .int)) [(0, .ref (h 0)), (1, .int (d))] (by decide) rfl (Nat.le_of_ble_eq_true rfl) rfl ?_
  intro p e s m args below meth c C hr hout
  have hin : ∀ w ∈ wsX00, w ∈ wsX0_pass := fun w h => by first | exact List.mem_cons_of_mem _ (List.mem_append_right _ h) | exact List.mem_cons_of_mem _ (List.mem_append_left _ (List.mem_append_right _ h)) | exact List.mem_cons_of_mem _ (List.mem_append_left _ (List.mem_append_left _ (List.mem_append_right _ h))) | exact List.mem_cons_of_mem _ (List.mem_append_left _ (List.mem_append_left _ (List.mem_append_left _ (List.mem_append_right _ h)))) | exact List.mem_cons_of_mem _ (List.mem_append_left _ (List.mem_append_left _ (List.mem_append_left _ (List.mem_append_left _ (List.mem_append_right _ h)))))
  refine g_iload_n 1 C rfl dX0_pass_0 rfl ?_
  refine g_iconst 1 C dX0_pass_1 (by decide) ?_
  refine g_bipush 100 C dX0_pass_2 (by decide) ?_
  by_cases c_4_1 : out (d) (1) (100)
  ·
    obtain rfl : K = 2 := hK.trans (by simp [th_pass, c_4_1])
    exact g_callSX (na := 3) (av := [.int (d), .int (1), .int (100)]) (c_checkRange l D cI cJ hst _ (d) (1) (100) 2 (if_pos c_4_1).symm) C gX0_pass_X0_checkRange rfl (by decide +kernel) rfl ⟨by decide, by decide⟩ rfl (Nat.le_of_ble_eq_true rfl) ⟨by decide, by decide⟩ hout (by decide) (by decide) rfl dX0_pass_4
  refine g_callS0 (na := 3) (av := [.int (d), .int (1), .int (100)]) (c_checkRange l D cI cJ hst _ (d) (1) (100) 0 (if_neg c_4_1).symm) C gX0_pass_X0_checkRange rfl (by decide +kernel) rfl ⟨Nat.le_of_ble_eq_true rfl, Nat.le_of_ble_eq_true rfl⟩ rfl (Nat.le_of_ble_eq_true rfl) ⟨Nat.zero_le _, Nat.zero_le _⟩ rfl dX0_pass_4 ?_
  have hd1 := out_lo c_4_1
  refine g_aload_n 0 C rfl dX0_pass_7 rfl ?_
  refine g_get (C0 := RX0) (T := TX0) (N := 17) 0 0 4 (.int (σ.1 4)) C hin rfl rfl (by decide) (by decide +kernel) rfl dX0_pass_8 ?_
  refine g_iload_n 1 C rfl dX0_pass_11 rfl ?_
  refine g_iadd C dX0_pass_12 ?_
  refine g_sipush 5000 C dX0_pass_13 (by decide) ?_
  refine g_icmp_le 29 C dX0_pass_16 (by decide) (fun c_16_2 => ?_) (fun c_16_2 => ?_)
  ·
    refine g_iconst 0 C dX0_pass_29 (by decide) ?_
    refine g_istore_n [(2, .int (0)), (0, .ref (h 0)), (1, .int (d))] C dX0_pass_30 rfl (by decide) rfl ?_
    have loop_31 : ∀ (fu : Nat) (i : Nat), i ≤ ni → ni + 1 ≤ i + fu → G p l e ({ frames := 7, cells := (nT K), slots := 6 * (nT K), locals := 112 } : Room) s m args below meth c D (va_A (wA cI h σ) s.heap.size) 3 0 0 (gQ below D (wA cI h σ) (wA cI h (sS (pfls σ d ni) 4 (σ.1 4 + d))) (exT K) (some (.int (σ.1 4 + d))) (nT K) args s) (wA cI h (pfls σ d i)) [(0, .ref (h 0)), (1, .int (d)), (2, .int (nI (i)))] 31 [] := by
      intro fu
      induction fu with
      | zero => intro i hi hf; exact absurd True.intro (by omega)
      | succ fu ih_31 =>
        intro i hi hf
        have hIi := iA_pfls hI0 d i
        refine g_iload_n 2 C rfl dX0_pass_31 rfl ?_
        refine g_aload_n 0 C rfl dX0_pass_32 rfl ?_
        refine g_get (C0 := RX0) (T := TX0) (N := 17) 0 0 3 (.int ((pfls σ d i).1 3)) C hin rfl rfl (by decide) (by decide +kernel) rfl dX0_pass_33 ?_
        refine g_is (nI ni) hIi.2.2.2.1.1 ?_
        refine g_icmp_ge 51 C dX0_pass_36 (by decide) (fun c_36_3 => ?_) (fun c_36_3 => ?_)
        ·
          have d_36_3 : ni ≤ i := (nI_leI (a := ni) (b := i) (by omega) (by omega)).mp c_36_3
          refine g_aload_n 0 C rfl dX0_pass_51 rfl ?_
          refine g_dup C dX0_pass_52 rfl ?_
          refine g_get (C0 := RX0) (T := TX0) (N := 17) 0 0 4 (.int ((pfls σ d i).1 4)) C hin rfl rfl (by decide) (by decide +kernel) rfl dX0_pass_53 ?_
          refine g_iload_n 1 C rfl dX0_pass_56 rfl ?_
          refine g_iadd C dX0_pass_57 ?_
          refine g_put (C0 := RX0) (T := TX0) (N := 17) 0 0 4 (wA cI h (sS (pfls σ d i) 4 ((((pfls σ d i).1 4) + d)))) C hin tyX0_ok nmX0 rfl rfl (by decide) (by decide +kernel) rfl (by decide +kernel) (Nat.le_of_ble_eq_true rfl) rfl dX0_pass_58 ?_
          refine g_aload_n 0 C rfl dX0_pass_61 rfl ?_
          refine g_get (C0 := RX0) (T := TX0) (N := 17) 0 0 4 (.int (((pfls σ d i).1 4) + d)) C hin rfl rfl (by decide) (by decide +kernel) rfl dX0_pass_62 ?_
          obtain rfl : K = 0 := hK.trans (by simp [th_pass, c_4_1, c_16_2, c_36_3])
          exact g_iret C hr rfl dX0_pass_65 (Nat.zero_le _) (Nat.zero_le _) rfl (by rw [pfls_1]) (by rw [show ni = i by omega, pfls_1])
        ·
          have d_36_3 : ¬ ni ≤ i := fun zz => c_36_3 ((nI_leI (a := ni) (b := i) (by omega) (by omega)).mpr zz)
          refine g_aload_n 0 C rfl dX0_pass_39 rfl ?_
          refine g_iload_n 2 C rfl dX0_pass_40 rfl ?_
          refine g_iload_n 1 C rfl dX0_pass_41 rfl ?_
          refine g_callV0 (C0 := RX0) (T := TX0) (N := 17) (ci := 0) (na := 2) (As := [.int (nI (i)), .int (d)]) (c_passForLoan l D cI cJ h (pfls σ d i) np nt no ni hIi i d (by omega)) C gX0_pass_X0_passForLoan rfl (by decide +kernel) rfl ⟨Nat.le_of_ble_eq_true rfl, Nat.le_of_ble_eq_true rfl⟩ rfl rfl rfl (Nat.le_of_ble_eq_true rfl) ⟨Nat.zero_le _, Nat.zero_le _⟩ rfl dX0_pass_42 ?_
          refine g_w (wA cI h (pfl (pfls σ d i) d i)) rfl ?_
          refine g_iincN 2 i 1 [(2, .int (nI (i + 1))), (0, .ref (h 0)), (1, .int (d))] C dX0_pass_45 rfl (by decide) (by decide) rfl ?_
          refine g_goto 31 C dX0_pass_48 (by decide) ?_
          refine g_lv [1, 2, 0] [(0, .ref (h 0)), (1, .int (d)), (2, .int (nI (i + 1)))] rfl ?_
          exact ih_31 (i + 1) (by omega) (by omega)
    refine g_lv [1, 2, 0] [(0, .ref (h 0)), (1, .int (d)), (2, .int (0))] rfl ?_
    exact loop_31 (ni + 1) 0 (by omega) (by omega)
  ·
    obtain rfl : K = 3 := hK.trans (by simp [th_pass, c_4_1, c_16_2])
    exact g_throw (cls := eISE) (text := "the book ends before that day") C hst rfl (by decide +kernel) (by decide +kernel) (by decide +kernel) (by decide +kernel) (by decide +kernel) (by decide +kernel) (by decide +kernel) hout dX0_pass_19 dX0_pass_22 dX0_pass_23 dX0_pass_25 dX0_pass_28 (by decide) (by decide) (by decide) (by decide) (by decide) (by decide) rfl
set_option maxRecDepth 100000 in
set_option maxHeartbeats 4000000 in
theorem c_has (l : Launch) (D : va_G) (cI cJ : ClassId) (hst : l.stackTraces = false) (h : Nat → Nat) (σ : gS) (np nt no ni : Nat) (hI : iA σ np nt no ni) (x t : Int32) (K : Nat) (hK : K = th_has nt no x t) : MC l yX0_has wsX0_has 7 111 D (tyIJ cI cJ) [.ref (h 0), .int (x), .int (t)] (wA cI h σ) (wA cI h σ) (exT K) (some (.int (r_has σ nt (cl x) t))) (nT K) := by
  have hI0 := hI
  obtain ⟨⟨hnp, hnp6⟩, ⟨hnt, hnt12⟩, ⟨hno, hno10⟩, ⟨hni, hni8⟩, hPT, hLC, hLH⟩ := hI
  refine MC.ofG (cc := cX0_has) (maxL := 3) (ret := (some .int)) [(0, .ref (h 0)), (1, .int (x)), (2, .int (t))] (by decide) rfl (Nat.le_of_ble_eq_true rfl) rfl ?_
  intro p e s m args below meth c C hr hout
  have hin : ∀ w ∈ wsX00, w ∈ wsX0_has := fun w h => by first | exact List.mem_cons_of_mem _ (List.mem_append_right _ h) | exact List.mem_cons_of_mem _ (List.mem_append_left _ (List.mem_append_right _ h)) | exact List.mem_cons_of_mem _ (List.mem_append_left _ (List.mem_append_left _ (List.mem_append_right _ h))) | exact List.mem_cons_of_mem _ (List.mem_append_left _ (List.mem_append_left _ (List.mem_append_left _ (List.mem_append_right _ h)))) | exact List.mem_cons_of_mem _ (List.mem_append_left _ (List.mem_append_left _ (List.mem_append_left _ (List.mem_append_left _ (List.mem_append_right _ h)))))
  refine g_iload_n 1 C rfl dX0_has_0 rfl ?_
  refine g_aload_n 0 C rfl dX0_has_1 rfl ?_
  refine g_get (C0 := RX0) (T := TX0) (N := 17) 0 0 2 (.int (σ.1 2)) C hin rfl rfl (by decide) (by decide +kernel) rfl dX0_has_2 ?_
  refine g_is (nI no) hno ?_
  by_cases c_5_1 : bad x (nI (no))
  ·
    obtain rfl : K = 1 := hK.trans (by simp [th_has, c_5_1])
    exact g_callSX (na := 2) (av := [.int (x), .int (nI (no))]) (c_checkNumber l D cI cJ hst _ x (nI (no)) 1 (if_pos c_5_1).symm) C gX0_has_X0_checkNumber rfl (by decide +kernel) rfl ⟨by decide, by decide⟩ rfl (Nat.le_of_ble_eq_true rfl) ⟨by decide, by decide⟩ hout (by decide) (by decide) rfl dX0_has_5
  refine g_callS0 (na := 2) (av := [.int (x), .int (nI (no))]) (c_checkNumber l D cI cJ hst _ x (nI (no)) 0 (if_neg c_5_1).symm) C gX0_has_X0_checkNumber rfl (by decide +kernel) rfl ⟨Nat.le_of_ble_eq_true rfl, Nat.le_of_ble_eq_true rfl⟩ rfl (Nat.le_of_ble_eq_true rfl) ⟨Nat.zero_le _, Nat.zero_le _⟩ rfl dX0_has_5 ?_
  obtain ⟨x', hx', rfl⟩ := nb_of (N := no) rfl (by omega) c_5_1
  have kx' : cl (nI x') = x' := cl_nI (by omega)
  refine g_iload_n 2 C rfl dX0_has_8 rfl ?_
  refine g_iconst (-1) C dX0_has_9 (by decide) ?_
  refine g_icmp_ne 22 C dX0_has_10 (by decide) (fun c_10_2 => ?_) (fun c_10_2 => ?_)
  ·
    refine g_iload_n 2 C rfl dX0_has_22 rfl ?_
    refine g_aload_n 0 C rfl dX0_has_23 rfl ?_
    refine g_get (C0 := RX0) (T := TX0) (N := 17) 0 0 1 (.int (σ.1 1)) C hin rfl rfl (by decide) (by decide +kernel) rfl dX0_has_24 ?_
    refine g_is (nI nt) hnt ?_
    by_cases c_27_3 : bad t (nI (nt))
    ·
      obtain rfl : K = 1 := hK.trans (by simp [th_has, c_5_1, c_10_2, c_27_3, kx'])
      exact g_callSX (na := 2) (av := [.int (t), .int (nI (nt))]) (c_checkNumber l D cI cJ hst _ t (nI (nt)) 1 (if_pos c_27_3).symm) C gX0_has_X0_checkNumber rfl (by decide +kernel) rfl ⟨by decide, by decide⟩ rfl (Nat.le_of_ble_eq_true rfl) ⟨by decide, by decide⟩ hout (by decide) (by decide) rfl dX0_has_27
    refine g_callS0 (na := 2) (av := [.int (t), .int (nI (nt))]) (c_checkNumber l D cI cJ hst _ t (nI (nt)) 0 (if_neg c_27_3).symm) C gX0_has_X0_checkNumber rfl (by decide +kernel) rfl ⟨Nat.le_of_ble_eq_true rfl, Nat.le_of_ble_eq_true rfl⟩ rfl (Nat.le_of_ble_eq_true rfl) ⟨Nat.zero_le _, Nat.zero_le _⟩ rfl dX0_has_27 ?_
    obtain ⟨t', ht', rfl⟩ := nb_of (N := nt) rfl (by omega) c_27_3
    have kt' : cl (nI t') = t' := cl_nI (by omega)
    refine g_aload_n 0 C rfl dX0_has_30 rfl ?_
    refine g_get (C0 := RX0) (T := TX0) (N := 17) 0 0 8 (.ref (h 4)) C hin rfl rfl (by decide) (by decide +kernel) rfl dX0_has_31 ?_
    refine g_iload_n 1 C rfl dX0_has_34 rfl ?_
    refine g_callS0 (na := 1) (av := [.int (nI (x'))]) (c_potRow l D cI cJ _ (nI (x'))) C gX0_has_X0_potRow rfl (by decide +kernel) rfl ⟨Nat.le_of_ble_eq_true rfl, Nat.le_of_ble_eq_true rfl⟩ rfl (Nat.le_of_ble_eq_true rfl) ⟨Nat.zero_le _, Nat.zero_le _⟩ rfl dX0_has_35 ?_
    refine g_iload_n 2 C rfl dX0_has_38 rfl ?_
    refine g_callS0 (na := 2) (av := [.int (nI (x')), .int (nI (t'))]) (c_place l D cI cJ _ x' t') C gX0_has_X0_place rfl (by decide +kernel) rfl ⟨Nat.le_of_ble_eq_true rfl, Nat.le_of_ble_eq_true rfl⟩ rfl (Nat.le_of_ble_eq_true rfl) ⟨Nat.zero_le _, Nat.zero_le _⟩ rfl dX0_has_39 ?_
    refine g_ialdN (cA := cI) (n := 1284) (a := h 4) (f := σ.2 3) (x' * 12 + t') 4 0 C rfl rfl (by omega) (by decide) dX0_has_42 ?_
    obtain rfl : K = 0 := hK.trans (by simp [th_has, c_5_1, c_10_2, c_27_3, kx', kt'])
    exact g_iret C hr rfl dX0_has_43 (Nat.zero_le _) (Nat.zero_le _) rfl (by rw [kx', r_has, if_neg c_10_2, kt']) rfl
  ·
    refine g_aload_n 0 C rfl dX0_has_13 rfl ?_
    refine g_iload_n 1 C rfl dX0_has_14 rfl ?_
    refine g_callS0 (na := 1) (av := [.int (nI (x'))]) (c_potRow l D cI cJ _ (nI (x'))) C gX0_has_X0_potRow rfl (by decide +kernel) rfl ⟨Nat.le_of_ble_eq_true rfl, Nat.le_of_ble_eq_true rfl⟩ rfl (Nat.le_of_ble_eq_true rfl) ⟨Nat.zero_le _, Nat.zero_le _⟩ rfl dX0_has_15 ?_
    refine g_callV0 (C0 := RX0) (T := TX0) (N := 17) (ci := 0) (na := 1) (As := [.int (nI (x'))]) (c_sumOfRow l D cI cJ h σ np nt no ni hI0 x' (by omega)) C gX0_has_X0_sumOfRow rfl (by decide +kernel) rfl ⟨Nat.le_of_ble_eq_true rfl, Nat.le_of_ble_eq_true rfl⟩ rfl rfl rfl (Nat.le_of_ble_eq_true rfl) ⟨Nat.zero_le _, Nat.zero_le _⟩ rfl dX0_has_18 ?_
    obtain rfl : K = 0 := hK.trans (by simp [th_has, c_5_1, c_10_2, kx'])
    exact g_iret C hr rfl dX0_has_21 (Nat.zero_le _) (Nat.zero_le _) rfl (by rw [kx', r_has, if_pos c_10_2]) rfl
set_option maxRecDepth 100000 in
set_option maxHeartbeats 4000000 in
theorem c_of (l : Launch) (D : va_G) (cI cJ : ClassId) (hst : l.stackTraces = false) (h : Nat → Nat) (σ : gS) (np nt no ni : Nat) (hI : iA σ np nt no ni) (q v : Int32) (K : Nat) (hK : K = th_of ni q v) : MC l yX0_of wsX0_of 7 139 D (tyIJ cI cJ) [.ref (h 0), .int (q), .int (v)] (wA cI h σ) (wA cI h σ) (exT K) (some (.int (r_of σ np nt ni (cl q) (cl v)))) (nT K) := by
  have hI0 := hI
  obtain ⟨⟨hnp, hnp6⟩, ⟨hnt, hnt12⟩, ⟨hno, hno10⟩, ⟨hni, hni8⟩, hPT, hLC, hLH⟩ := hI
  refine MC.ofG (cc := cX0_of) (maxL := 3) (ret := (some .int)) [(0, .ref (h 0)), (1, .int (q)), (2, .int (v))] (by decide) rfl (Nat.le_of_ble_eq_true rfl) rfl ?_
  intro p e s m args below meth c C hr hout
  have hin : ∀ w ∈ wsX00, w ∈ wsX0_of := fun w h => by first | exact List.mem_cons_of_mem _ (List.mem_append_right _ h) | exact List.mem_cons_of_mem _ (List.mem_append_left _ (List.mem_append_right _ h)) | exact List.mem_cons_of_mem _ (List.mem_append_left _ (List.mem_append_left _ (List.mem_append_right _ h))) | exact List.mem_cons_of_mem _ (List.mem_append_left _ (List.mem_append_left _ (List.mem_append_left _ (List.mem_append_right _ h)))) | exact List.mem_cons_of_mem _ (List.mem_append_left _ (List.mem_append_left _ (List.mem_append_left _ (List.mem_append_left _ (List.mem_append_right _ h)))))
  refine g_iload_n 1 C rfl dX0_of_0 rfl ?_
  refine g_aload_n 0 C rfl dX0_of_1 rfl ?_
  refine g_get (C0 := RX0) (T := TX0) (N := 17) 0 0 3 (.int (σ.1 3)) C hin rfl rfl (by decide) (by decide +kernel) rfl dX0_of_2 ?_
  refine g_is (nI ni) hni ?_
  by_cases c_5_1 : bad q (nI (ni))
  ·
    obtain rfl : K = 1 := hK.trans (by simp [th_of, c_5_1])
    exact g_callSX (na := 2) (av := [.int (q), .int (nI (ni))]) (c_checkNumber l D cI cJ hst _ q (nI (ni)) 1 (if_pos c_5_1).symm) C gX0_of_X0_checkNumber rfl (by decide +kernel) rfl ⟨by decide, by decide⟩ rfl (Nat.le_of_ble_eq_true rfl) ⟨by decide, by decide⟩ hout (by decide) (by decide) rfl dX0_of_5
  refine g_callS0 (na := 2) (av := [.int (q), .int (nI (ni))]) (c_checkNumber l D cI cJ hst _ q (nI (ni)) 0 (if_neg c_5_1).symm) C gX0_of_X0_checkNumber rfl (by decide +kernel) rfl ⟨Nat.le_of_ble_eq_true rfl, Nat.le_of_ble_eq_true rfl⟩ rfl (Nat.le_of_ble_eq_true rfl) ⟨Nat.zero_le _, Nat.zero_le _⟩ rfl dX0_of_5 ?_
  obtain ⟨q', hq', rfl⟩ := nb_of (N := ni) rfl (by omega) c_5_1
  have kq' : cl (nI q') = q' := cl_nI (by omega)
  refine g_iload_n 2 C rfl dX0_of_8 rfl ?_
  refine g_iconst 0 C dX0_of_9 (by decide) ?_
  refine g_bipush 8 C dX0_of_10 (by decide) ?_
  by_cases c_12_2 : out (v) (0) (8)
  ·
    obtain rfl : K = 2 := hK.trans (by simp [th_of, c_5_1, c_12_2, kq'])
    exact g_callSX (na := 3) (av := [.int (v), .int (0), .int (8)]) (c_checkRange l D cI cJ hst _ (v) (0) (8) 2 (if_pos c_12_2).symm) C gX0_of_X0_checkRange rfl (by decide +kernel) rfl ⟨by decide, by decide⟩ rfl (Nat.le_of_ble_eq_true rfl) ⟨by decide, by decide⟩ hout (by decide) (by decide) rfl dX0_of_12
  refine g_callS0 (na := 3) (av := [.int (v), .int (0), .int (8)]) (c_checkRange l D cI cJ hst _ (v) (0) (8) 0 (if_neg c_12_2).symm) C gX0_of_X0_checkRange rfl (by decide +kernel) rfl ⟨Nat.le_of_ble_eq_true rfl, Nat.le_of_ble_eq_true rfl⟩ rfl (Nat.le_of_ble_eq_true rfl) ⟨Nat.zero_le _, Nat.zero_le _⟩ rfl dX0_of_12 ?_
  have hv1 := out_lo c_12_2
  obtain ⟨v', hv', rfl⟩ := out_nat (M := 8) rfl (by decide) c_12_2
  have kv' : cl (nI v') = v' := cl_nI (by omega)
  refine g_iload_n 2 C rfl dX0_of_15 rfl ?_
  by_cases e0 : v' = 0
  ·
    subst e0
    refine g_tableIn (off := 40) 56 C dX0_of_16 (by decide +kernel) (by decide +kernel) (by decide +kernel) (by decide) ?_
    refine g_aload_n 0 C rfl dX0_of_56 rfl ?_
    refine g_get (C0 := RX0) (T := TX0) (N := 17) 0 0 9 (.ref (h 5)) C hin rfl rfl (by decide) (by decide +kernel) rfl dX0_of_57 ?_
    refine g_iload_n 1 C rfl dX0_of_60 rfl ?_
    refine g_ialdN (cA := cI) (n := 8) (a := h 5) (f := σ.2 4) q' 5 0 C rfl rfl (by omega) (by decide) dX0_of_61 ?_
    obtain rfl : K = 0 := hK.trans (by simp [th_of, c_5_1, c_12_2, kq', kv'])
    exact g_iret C hr rfl dX0_of_62 (Nat.zero_le _) (Nat.zero_le _) rfl (by rw [kq', kv']; rfl) rfl
  by_cases e1 : v' = 1
  ·
    subst e1
    refine g_tableIn (off := 47) 63 C dX0_of_16 (by decide +kernel) (by decide +kernel) (by decide +kernel) (by decide) ?_
    refine g_aload_n 0 C rfl dX0_of_63 rfl ?_
    refine g_get (C0 := RX0) (T := TX0) (N := 17) 0 0 10 (.ref (h 6)) C hin rfl rfl (by decide) (by decide +kernel) rfl dX0_of_64 ?_
    refine g_iload_n 1 C rfl dX0_of_67 rfl ?_
    refine g_ialdN (cA := cI) (n := 8) (a := h 6) (f := σ.2 5) q' 6 0 C rfl rfl (by omega) (by decide) dX0_of_68 ?_
    obtain rfl : K = 0 := hK.trans (by simp [th_of, c_5_1, c_12_2, kq', kv'])
    exact g_iret C hr rfl dX0_of_69 (Nat.zero_le _) (Nat.zero_le _) rfl (by rw [kq', kv']; rfl) rfl
  by_cases e2 : v' = 2
  ·
    subst e2
    refine g_tableIn (off := 54) 70 C dX0_of_16 (by decide +kernel) (by decide +kernel) (by decide +kernel) (by decide) ?_
    refine g_aload_n 0 C rfl dX0_of_70 rfl ?_
    refine g_iload_n 1 C rfl dX0_of_71 rfl ?_
    refine g_callV0 (C0 := RX0) (T := TX0) (N := 17) (ci := 0) (na := 1) (As := [.int (nI (q'))]) (c_valueOf l D cI cJ h σ np nt no ni hI0 q' (by omega)) C gX0_of_X0_valueOf rfl (by decide +kernel) rfl ⟨Nat.le_of_ble_eq_true rfl, Nat.le_of_ble_eq_true rfl⟩ rfl rfl rfl (Nat.le_of_ble_eq_true rfl) ⟨Nat.zero_le _, Nat.zero_le _⟩ rfl dX0_of_72 ?_
    obtain rfl : K = 0 := hK.trans (by simp [th_of, c_5_1, c_12_2, kq', kv'])
    exact g_iret C hr rfl dX0_of_75 (Nat.zero_le _) (Nat.zero_le _) rfl (by rw [kq', kv']; rfl) rfl
  by_cases e3 : v' = 3
  ·
    subst e3
    refine g_tableIn (off := 60) 76 C dX0_of_16 (by decide +kernel) (by decide +kernel) (by decide +kernel) (by decide) ?_
    refine g_aload_n 0 C rfl dX0_of_76 rfl ?_
    refine g_iload_n 1 C rfl dX0_of_77 rfl ?_
    refine g_callV0 (C0 := RX0) (T := TX0) (N := 17) (ci := 0) (na := 1) (As := [.int (nI (q'))]) (c_mainPigmentOf l D cI cJ h σ np nt no ni hI0 q' (by omega)) C gX0_of_X0_mainPigmentOf rfl (by decide +kernel) rfl ⟨Nat.le_of_ble_eq_true rfl, Nat.le_of_ble_eq_true rfl⟩ rfl rfl rfl (Nat.le_of_ble_eq_true rfl) ⟨Nat.zero_le _, Nat.zero_le _⟩ rfl dX0_of_78 ?_
    obtain rfl : K = 0 := hK.trans (by simp [th_of, c_5_1, c_12_2, kq', kv'])
    exact g_iret C hr rfl dX0_of_81 (Nat.zero_le _) (Nat.zero_le _) rfl (by rw [kq', kv']; rfl) rfl
  by_cases e4 : v' = 4
  ·
    subst e4
    refine g_tableIn (off := 66) 82 C dX0_of_16 (by decide +kernel) (by decide +kernel) (by decide +kernel) (by decide) ?_
    refine g_aload_n 0 C rfl dX0_of_82 rfl ?_
    refine g_iload_n 1 C rfl dX0_of_83 rfl ?_
    refine g_callV0 (C0 := RX0) (T := TX0) (N := 17) (ci := 0) (na := 1) (As := [.int (nI (q'))]) (c_isLent l D cI cJ h σ np nt no ni hI0 q' (by omega)) C gX0_of_X0_isLent rfl (by decide +kernel) rfl ⟨Nat.le_of_ble_eq_true rfl, Nat.le_of_ble_eq_true rfl⟩ rfl rfl rfl (Nat.le_of_ble_eq_true rfl) ⟨Nat.zero_le _, Nat.zero_le _⟩ rfl dX0_of_84 ?_
    refine g_if_eq 99 C dX0_of_87 (by decide) (fun c_87_3 => ?_) (fun c_87_3 => ?_)
    ·
      refine g_iconst (-1) C dX0_of_99 (by decide) ?_
      obtain rfl : K = 0 := hK.trans (by simp [th_of, c_5_1, c_12_2, c_87_3, kq', kv'])
      exact g_iret C hr rfl dX0_of_100 (Nat.zero_le _) (Nat.zero_le _) rfl (by rw [kq', kv']; exact congrArg (fun x => some (Value.int x)) (if_neg (bI_eq c_87_3)).symm) rfl
    ·
      refine g_aload_n 0 C rfl dX0_of_90 rfl ?_
      refine g_get (C0 := RX0) (T := TX0) (N := 17) 0 0 13 (.ref (h 9)) C hin rfl rfl (by decide) (by decide +kernel) rfl dX0_of_91 ?_
      refine g_iload_n 1 C rfl dX0_of_94 rfl ?_
      refine g_ialdN (cA := cI) (n := 8) (a := h 9) (f := σ.2 8) q' 9 0 C rfl rfl (by omega) (by decide) dX0_of_95 ?_
      refine g_goto 100 C dX0_of_96 (by decide) ?_
      obtain rfl : K = 0 := hK.trans (by simp [th_of, c_5_1, c_12_2, c_87_3, kq', kv'])
      exact g_iret C hr rfl dX0_of_100 (Nat.zero_le _) (Nat.zero_le _) rfl (by rw [kq', kv']; exact congrArg (fun x => some (Value.int x)) (if_pos (bI_ne c_87_3)).symm) rfl
  by_cases e5 : v' = 5
  ·
    subst e5
    refine g_tableIn (off := 85) 101 C dX0_of_16 (by decide +kernel) (by decide +kernel) (by decide +kernel) (by decide) ?_
    refine g_aload_n 0 C rfl dX0_of_101 rfl ?_
    refine g_get (C0 := RX0) (T := TX0) (N := 17) 0 0 12 (.ref (h 8)) C hin rfl rfl (by decide) (by decide +kernel) rfl dX0_of_102 ?_
    refine g_iload_n 1 C rfl dX0_of_105 rfl ?_
    refine g_ialdN (cA := cI) (n := 8) (a := h 8) (f := σ.2 7) q' 8 0 C rfl rfl (by omega) (by decide) dX0_of_106 ?_
    obtain rfl : K = 0 := hK.trans (by simp [th_of, c_5_1, c_12_2, kq', kv'])
    exact g_iret C hr rfl dX0_of_107 (Nat.zero_le _) (Nat.zero_le _) rfl (by rw [kq', kv']; rfl) rfl
  refine g_tableOut 108 C dX0_of_16 (Or.inr (by rw [nI_toInt (by omega)]; omega)) (by decide) ?_
  refine g_aload_n 0 C rfl dX0_of_108 rfl ?_
  refine g_iload_n 1 C rfl dX0_of_109 rfl ?_
  refine g_iload_n 2 C rfl dX0_of_110 rfl ?_
  refine g_bipush 6 C dX0_of_111 (by decide) ?_
  refine g_isubN v' 6 C (by omega) dX0_of_113 ?_
  refine g_callV0 (C0 := RX0) (T := TX0) (N := 17) (ci := 0) (na := 2) (As := [.int (nI (q')), .int (nI (v' - 6))]) (c_lookOf l D cI cJ h σ np nt no ni hI0 q' (v' - 6) (by omega) (by omega)) C gX0_of_X0_lookOf rfl (by decide +kernel) rfl ⟨Nat.le_of_ble_eq_true rfl, Nat.le_of_ble_eq_true rfl⟩ rfl rfl rfl (Nat.le_of_ble_eq_true rfl) ⟨Nat.zero_le _, Nat.zero_le _⟩ rfl dX0_of_114 ?_
  obtain rfl : K = 0 := hK.trans (by simp [th_of, c_5_1, c_12_2, kq', kv'])
  exact g_iret C hr rfl dX0_of_117 (Nat.zero_le _) (Nat.zero_le _) rfl (by rw [kq', kv', r_of, if_neg e0, if_neg e1, if_neg e2, if_neg e3, if_neg e4, if_neg e5]) rfl
set_option maxRecDepth 100000 in
set_option maxHeartbeats 4000000 in
theorem c_where (l : Launch) (D : va_G) (cI cJ : ClassId) (hst : l.stackTraces = false) (h : Nat → Nat) (σ : gS) (np nt no ni : Nat) (hI : iA σ np nt no ni) (t v : Int32) (K : Nat) (hK : K = th_where nt t v) : MC l yX0_where wsX0_where 7 112 D (tyIJ cI cJ) [.ref (h 0), .int (t), .int (v)] (wA cI h σ) (wA cI h σ) (exT K) (some (.int (r_where σ (cl t) (cl v)))) (nT K) := by
  have hI0 := hI
  obtain ⟨⟨hnp, hnp6⟩, ⟨hnt, hnt12⟩, ⟨hno, hno10⟩, ⟨hni, hni8⟩, hPT, hLC, hLH⟩ := hI
  refine MC.ofG (cc := cX0_where) (maxL := 3) (ret := (some .int)) [(0, .ref (h 0)), (1, .int (t)), (2, .int (v))] (by decide) rfl (Nat.le_of_ble_eq_true rfl) rfl ?_
  intro p e s m args below meth c C hr hout
  have hin : ∀ w ∈ wsX00, w ∈ wsX0_where := fun w h => by first | exact List.mem_cons_of_mem _ (List.mem_append_right _ h) | exact List.mem_cons_of_mem _ (List.mem_append_left _ (List.mem_append_right _ h)) | exact List.mem_cons_of_mem _ (List.mem_append_left _ (List.mem_append_left _ (List.mem_append_right _ h))) | exact List.mem_cons_of_mem _ (List.mem_append_left _ (List.mem_append_left _ (List.mem_append_left _ (List.mem_append_right _ h)))) | exact List.mem_cons_of_mem _ (List.mem_append_left _ (List.mem_append_left _ (List.mem_append_left _ (List.mem_append_left _ (List.mem_append_right _ h)))))
  refine g_iload_n 1 C rfl dX0_where_0 rfl ?_
  refine g_aload_n 0 C rfl dX0_where_1 rfl ?_
  refine g_get (C0 := RX0) (T := TX0) (N := 17) 0 0 1 (.int (σ.1 1)) C hin rfl rfl (by decide) (by decide +kernel) rfl dX0_where_2 ?_
  refine g_is (nI nt) hnt ?_
  by_cases c_5_1 : bad t (nI (nt))
  ·
    obtain rfl : K = 1 := hK.trans (by simp [th_where, c_5_1])
    exact g_callSX (na := 2) (av := [.int (t), .int (nI (nt))]) (c_checkNumber l D cI cJ hst _ t (nI (nt)) 1 (if_pos c_5_1).symm) C gX0_where_X0_checkNumber rfl (by decide +kernel) rfl ⟨by decide, by decide⟩ rfl (Nat.le_of_ble_eq_true rfl) ⟨by decide, by decide⟩ hout (by decide) (by decide) rfl dX0_where_5
  refine g_callS0 (na := 2) (av := [.int (t), .int (nI (nt))]) (c_checkNumber l D cI cJ hst _ t (nI (nt)) 0 (if_neg c_5_1).symm) C gX0_where_X0_checkNumber rfl (by decide +kernel) rfl ⟨Nat.le_of_ble_eq_true rfl, Nat.le_of_ble_eq_true rfl⟩ rfl (Nat.le_of_ble_eq_true rfl) ⟨Nat.zero_le _, Nat.zero_le _⟩ rfl dX0_where_5 ?_
  obtain ⟨t', ht', rfl⟩ := nb_of (N := nt) rfl (by omega) c_5_1
  have kt' : cl (nI t') = t' := cl_nI (by omega)
  refine g_iload_n 2 C rfl dX0_where_8 rfl ?_
  refine g_iconst 0 C dX0_where_9 (by decide) ?_
  refine g_iconst 3 C dX0_where_10 (by decide) ?_
  by_cases c_11_2 : out (v) (0) (3)
  ·
    obtain rfl : K = 2 := hK.trans (by simp [th_where, c_5_1, c_11_2, kt'])
    exact g_callSX (na := 3) (av := [.int (v), .int (0), .int (3)]) (c_checkRange l D cI cJ hst _ (v) (0) (3) 2 (if_pos c_11_2).symm) C gX0_where_X0_checkRange rfl (by decide +kernel) rfl ⟨by decide, by decide⟩ rfl (Nat.le_of_ble_eq_true rfl) ⟨by decide, by decide⟩ hout (by decide) (by decide) rfl dX0_where_11
  refine g_callS0 (na := 3) (av := [.int (v), .int (0), .int (3)]) (c_checkRange l D cI cJ hst _ (v) (0) (3) 0 (if_neg c_11_2).symm) C gX0_where_X0_checkRange rfl (by decide +kernel) rfl ⟨Nat.le_of_ble_eq_true rfl, Nat.le_of_ble_eq_true rfl⟩ rfl (Nat.le_of_ble_eq_true rfl) ⟨Nat.zero_le _, Nat.zero_le _⟩ rfl dX0_where_11 ?_
  have hv1 := out_lo c_11_2
  obtain ⟨v', hv', rfl⟩ := out_nat (M := 3) rfl (by decide) c_11_2
  have kv' : cl (nI v') = v' := cl_nI (by omega)
  refine g_iload_n 2 C rfl dX0_where_14 rfl ?_
  by_cases e0 : v' = 0
  ·
    subst e0
    refine g_tableIn (off := 25) 40 C dX0_where_15 (by decide +kernel) (by decide +kernel) (by decide +kernel) (by decide) ?_
    refine g_aload_n 0 C rfl dX0_where_40 rfl ?_
    refine g_get (C0 := RX0) (T := TX0) (N := 17) 0 0 7 (.ref (h 3)) C hin rfl rfl (by decide) (by decide +kernel) rfl dX0_where_41 ?_
    refine g_iload_n 1 C rfl dX0_where_44 rfl ?_
    refine g_ialdN (cA := cI) (n := 12) (a := h 3) (f := σ.2 2) t' 3 0 C rfl rfl (by omega) (by decide) dX0_where_45 ?_
    obtain rfl : K = 0 := hK.trans (by simp [th_where, c_5_1, c_11_2, kt', kv'])
    exact g_iret C hr rfl dX0_where_46 (Nat.zero_le _) (Nat.zero_le _) rfl (by rw [kt', kv']; rfl) rfl
  by_cases e1 : v' = 1
  ·
    subst e1
    refine g_tableIn (off := 32) 47 C dX0_where_15 (by decide +kernel) (by decide +kernel) (by decide +kernel) (by decide) ?_
    refine g_aload_n 0 C rfl dX0_where_47 rfl ?_
    refine g_iload_n 1 C rfl dX0_where_48 rfl ?_
    refine g_iconst 0 C dX0_where_49 (by decide) ?_
    refine g_bipush 10 C dX0_where_50 (by decide) ?_
    refine g_callV0 (C0 := RX0) (T := TX0) (N := 17) (ci := 0) (na := 3) (As := [.int (nI (t')), .int (0), .int (10)]) (c_sumOfTube l D cI cJ h σ np nt no ni hI0 t' 0 10 (by omega) (by decide)) C gX0_where_X0_sumOfTube rfl (by decide +kernel) rfl ⟨Nat.le_of_ble_eq_true rfl, Nat.le_of_ble_eq_true rfl⟩ rfl rfl rfl (Nat.le_of_ble_eq_true rfl) ⟨Nat.zero_le _, Nat.zero_le _⟩ rfl dX0_where_52 ?_
    obtain rfl : K = 0 := hK.trans (by simp [th_where, c_5_1, c_11_2, kt', kv'])
    exact g_iret C hr rfl dX0_where_55 (Nat.zero_le _) (Nat.zero_le _) rfl (by rw [kt', kv']; rfl) rfl
  by_cases e2 : v' = 2
  ·
    subst e2
    refine g_tableIn (off := 41) 56 C dX0_where_15 (by decide +kernel) (by decide +kernel) (by decide +kernel) (by decide) ?_
    refine g_aload_n 0 C rfl dX0_where_56 rfl ?_
    refine g_iload_n 1 C rfl dX0_where_57 rfl ?_
    refine g_bipush 10 C dX0_where_58 (by decide) ?_
    refine g_bipush 106 C dX0_where_60 (by decide) ?_
    refine g_callV0 (C0 := RX0) (T := TX0) (N := 17) (ci := 0) (na := 3) (As := [.int (nI (t')), .int (10), .int (106)]) (c_sumOfTube l D cI cJ h σ np nt no ni hI0 t' 10 96 (by omega) (by decide)) C gX0_where_X0_sumOfTube rfl (by decide +kernel) rfl ⟨Nat.le_of_ble_eq_true rfl, Nat.le_of_ble_eq_true rfl⟩ rfl rfl rfl (Nat.le_of_ble_eq_true rfl) ⟨Nat.zero_le _, Nat.zero_le _⟩ rfl dX0_where_62 ?_
    obtain rfl : K = 0 := hK.trans (by simp [th_where, c_5_1, c_11_2, kt', kv'])
    exact g_iret C hr rfl dX0_where_65 (Nat.zero_le _) (Nat.zero_le _) rfl (by rw [kt', kv']; rfl) rfl
  refine g_tableOut 66 C dX0_where_15 (Or.inr (by rw [nI_toInt (by omega)]; omega)) (by decide) ?_
  refine g_aload_n 0 C rfl dX0_where_66 rfl ?_
  refine g_iload_n 1 C rfl dX0_where_67 rfl ?_
  refine g_bipush 106 C dX0_where_68 (by decide) ?_
  refine g_bipush 107 C dX0_where_70 (by decide) ?_
  refine g_callV0 (C0 := RX0) (T := TX0) (N := 17) (ci := 0) (na := 3) (As := [.int (nI (t')), .int (106), .int (107)]) (c_sumOfTube l D cI cJ h σ np nt no ni hI0 t' 106 1 (by omega) (by decide)) C gX0_where_X0_sumOfTube rfl (by decide +kernel) rfl ⟨Nat.le_of_ble_eq_true rfl, Nat.le_of_ble_eq_true rfl⟩ rfl rfl rfl (Nat.le_of_ble_eq_true rfl) ⟨Nat.zero_le _, Nat.zero_le _⟩ rfl dX0_where_72 ?_
  obtain rfl : K = 0 := hK.trans (by simp [th_where, c_5_1, c_11_2, kt', kv'])
  exact g_iret C hr rfl dX0_where_75 (Nat.zero_le _) (Nat.zero_le _) rfl (by rw [kt', kv', r_where, if_neg e0, if_neg e1, if_neg e2]) rfl
set_option maxRecDepth 100000 in
set_option maxHeartbeats 4000000 in
theorem c_recipe (l : Launch) (D : va_G) (cI cJ : ClassId) (hst : l.stackTraces = false) (h : Nat → Nat) (σ : gS) (np nt no ni : Nat) (hI : iA σ np nt no ni) (r g b : Int32) (K : Nat) (hK : K = th_recipe r g b) : MC l yX0_recipe wsX0_recipe 8 134 D (tyIJ cI cJ) [.ref (h 0), .int (r), .int (g), .int (b)] (wA cI h σ) (wA cI h σ) (exT K) (some (.int (rA σ r g b nt nt).1)) (nT K) := by
  have hI0 := hI
  obtain ⟨⟨hnp, hnp6⟩, ⟨hnt, hnt12⟩, ⟨hno, hno10⟩, ⟨hni, hni8⟩, hPT, hLC, hLH⟩ := hI
  refine MC.ofG (cc := cX0_recipe) (maxL := 10) (ret := (some .int)) [(0, .ref (h 0)), (1, .int (r)), (2, .int (g)), (3, .int (b))] (by decide) rfl (Nat.le_of_ble_eq_true rfl) rfl ?_
  intro p e s m args below meth c C hr hout
  have hin : ∀ w ∈ wsX00, w ∈ wsX0_recipe := fun w h => by first | exact List.mem_cons_of_mem _ (List.mem_append_right _ h) | exact List.mem_cons_of_mem _ (List.mem_append_left _ (List.mem_append_right _ h)) | exact List.mem_cons_of_mem _ (List.mem_append_left _ (List.mem_append_left _ (List.mem_append_right _ h))) | exact List.mem_cons_of_mem _ (List.mem_append_left _ (List.mem_append_left _ (List.mem_append_left _ (List.mem_append_right _ h)))) | exact List.mem_cons_of_mem _ (List.mem_append_left _ (List.mem_append_left _ (List.mem_append_left _ (List.mem_append_left _ (List.mem_append_right _ h)))))
  refine g_iload_n 1 C rfl dX0_recipe_0 rfl ?_
  refine g_iload_n 2 C rfl dX0_recipe_1 rfl ?_
  refine g_iload_n 3 C rfl dX0_recipe_2 rfl ?_
  by_cases c_3_1 : out (r) 0 255 ∨ out (g) 0 255 ∨ out (b) 0 255
  ·
    obtain rfl : K = 2 := hK.trans (by simp only [th_recipe, c_3_1, if_true, if_false])
    exact g_callSX (na := 3) (av := [.int (r), .int (g), .int (b)]) (c_checkColour l D cI cJ hst _ (r) (g) (b) 2 (if_pos c_3_1).symm) C gX0_recipe_X0_checkColour rfl (by decide +kernel) rfl ⟨by decide, by decide⟩ rfl (Nat.le_of_ble_eq_true rfl) ⟨by decide, by decide⟩ hout (by decide) (by decide) rfl dX0_recipe_3
  refine g_callS0 (na := 3) (av := [.int (r), .int (g), .int (b)]) (c_checkColour l D cI cJ hst _ (r) (g) (b) 0 (if_neg c_3_1).symm) C gX0_recipe_X0_checkColour rfl (by decide +kernel) rfl ⟨Nat.le_of_ble_eq_true rfl, Nat.le_of_ble_eq_true rfl⟩ rfl (Nat.le_of_ble_eq_true rfl) ⟨Nat.zero_le _, Nat.zero_le _⟩ rfl dX0_recipe_3 ?_
  refine g_iconst (-1) C dX0_recipe_6 (by decide) ?_
  refine g_istore [(4, .int ((-1))), (0, .ref (h 0)), (1, .int (r)), (2, .int (g)), (3, .int (b))] C dX0_recipe_7 (by decide) rfl ?_
  refine g_iconst 0 C dX0_recipe_9 (by decide) ?_
  refine g_istore [(5, .int (0)), (4, .int ((-1))), (0, .ref (h 0)), (1, .int (r)), (2, .int (g)), (3, .int (b))] C dX0_recipe_10 (by decide) rfl ?_
  refine g_iconst 0 C dX0_recipe_12 (by decide) ?_
  refine g_istore [(6, .int (0)), (5, .int (0)), (4, .int ((-1))), (0, .ref (h 0)), (1, .int (r)), (2, .int (g)), (3, .int (b))] C dX0_recipe_13 (by decide) rfl ?_
  have loop_15 : ∀ (fu : Nat) (i : Nat), i ≤ nt → nt + 1 ≤ i + fu → G p l e ({ frames := 8, cells := (nT K), slots := 6 * (nT K), locals := 134 } : Room) s m args below meth c D (va_A (wA cI h σ) s.heap.size) 10 0 0 (gQ below D (wA cI h σ) (wA cI h σ) (exT K) (some (.int (rA σ r g b nt nt).1)) (nT K) args s) (wA cI h σ) [(0, .ref (h 0)), (1, .int (r)), (2, .int (g)), (3, .int (b)), (4, .int ((rA σ r g b nt i).1)), (5, .int ((rA σ r g b nt i).2)), (6, .int (nI (i)))] 15 [] := by
    intro fu
    induction fu with
    | zero => intro i hi hf; exact absurd True.intro (by omega)
    | succ fu ih_15 =>
      intro i hi hf
      refine g_iload 6 C rfl dX0_recipe_15 ?_
      refine g_aload_n 0 C rfl dX0_recipe_17 rfl ?_
      refine g_get (C0 := RX0) (T := TX0) (N := 17) 0 0 1 (.int (σ.1 1)) C hin rfl rfl (by decide) (by decide +kernel) rfl dX0_recipe_18 ?_
      refine g_is (nI nt) hnt ?_
      refine g_icmp_ge 173 C dX0_recipe_21 (by decide) (fun c_21_2 => ?_) (fun c_21_2 => ?_)
      ·
        have d_21_2 : nt ≤ i := (nI_leI (a := nt) (b := i) (by omega) (by omega)).mp c_21_2
        refine g_iload 4 C rfl dX0_recipe_173 ?_
        obtain rfl : K = 0 := hK.trans (by simp only [th_recipe, c_3_1, if_true, if_false])
        exact g_iret C hr rfl dX0_recipe_175 (Nat.zero_le _) (Nat.zero_le _) rfl (by rw [show nt = i by omega]) rfl
      ·
        have d_21_2 : ¬ nt ≤ i := fun zz => c_21_2 ((nI_leI (a := nt) (b := i) (by omega) (by omega)).mpr zz)
        refine g_iload 6 C rfl dX0_recipe_24 ?_
        refine g_istore [(7, .int (nI (i))), (0, .ref (h 0)), (1, .int (r)), (2, .int (g)), (3, .int (b)), (4, .int ((rA σ r g b nt i).1)), (5, .int ((rA σ r g b nt i).2)), (6, .int (nI (i)))] C dX0_recipe_26 (by decide) rfl ?_
        have loop_28 : ∀ (fu : Nat) (k : Nat), i + k ≤ nt → nt + 1 ≤ i + k + fu → G p l e ({ frames := 8, cells := (nT K), slots := 6 * (nT K), locals := 134 } : Room) s m args below meth c D (va_A (wA cI h σ) s.heap.size) 10 0 0 (gQ below D (wA cI h σ) (wA cI h σ) (exT K) (some (.int (rA σ r g b nt nt).1)) (nT K) args s) (wA cI h σ) [(0, .ref (h 0)), (1, .int (r)), (2, .int (g)), (3, .int (b)), (4, .int ((rB σ r g b i (rA σ r g b nt i) k).1)), (5, .int ((rB σ r g b i (rA σ r g b nt i) k).2)), (6, .int (nI (i))), (7, .int (nI (i + k)))] 28 [] := by
          intro fu
          induction fu with
          | zero => intro k hk hf2; exact absurd True.intro (by omega)
          | succ fu ih_28 =>
            intro k hk hf2
            refine g_iload 7 C rfl dX0_recipe_28 ?_
            refine g_aload_n 0 C rfl dX0_recipe_30 rfl ?_
            refine g_get (C0 := RX0) (T := TX0) (N := 17) 0 0 1 (.int (σ.1 1)) C hin rfl rfl (by decide) (by decide +kernel) rfl dX0_recipe_31 ?_
            refine g_is (nI nt) hnt ?_
            refine g_icmp_ge 167 C dX0_recipe_34 (by decide) (fun c_34_3 => ?_) (fun c_34_3 => ?_)
            ·
              have d_34_3 : nt ≤ (i + k) := (nI_leI (a := nt) (b := (i + k)) (by omega) (by omega)).mp c_34_3
              have ea : rA σ r g b nt (i + 1) = rB σ r g b i (rA σ r g b nt i) k := by rw [rA, show nt - i = k by omega]
              refine g_iincN 6 i 1 [(6, .int (nI (i + 1))), (0, .ref (h 0)), (1, .int (r)), (2, .int (g)), (3, .int (b)), (4, .int ((rB σ r g b i (rA σ r g b nt i) k).1)), (5, .int ((rB σ r g b i (rA σ r g b nt i) k).2)), (7, .int (nI (i + k)))] C dX0_recipe_167 rfl (by decide) (by decide) rfl ?_
              refine g_goto 15 C dX0_recipe_170 (by decide) ?_
              refine g_lv [1, 2, 3, 4, 5, 6, 0] [(0, .ref (h 0)), (1, .int (r)), (2, .int (g)), (3, .int (b)), (4, .int ((rB σ r g b i (rA σ r g b nt i) k).1)), (5, .int ((rB σ r g b i (rA σ r g b nt i) k).2)), (6, .int (nI (i + 1)))] rfl ?_
              have hx := ih_15 (i + 1) (by omega) (by omega)
              rw [ea] at hx
              exact hx
            ·
              have d_34_3 : ¬ nt ≤ (i + k) := fun zz => c_34_3 ((nI_leI (a := nt) (b := (i + k)) (by omega) (by omega)).mpr zz)
              refine g_aload_n 0 C rfl dX0_recipe_37 rfl ?_
              refine g_get (C0 := RX0) (T := TX0) (N := 17) 0 0 7 (.ref (h 3)) C hin rfl rfl (by decide) (by decide +kernel) rfl dX0_recipe_38 ?_
              refine g_iload 6 C rfl dX0_recipe_41 ?_
              refine g_ialdN (cA := cI) (n := 12) (a := h 3) (f := σ.2 2) i 3 0 C rfl rfl (by omega) (by decide) dX0_recipe_43 ?_
              refine g_if_eq 161 C dX0_recipe_44 (by decide) (fun c_44_4 => ?_) (fun c_44_4 => ?_)
              ·
                have eb : rB σ r g b i (rA σ r g b nt i) (k + 1) = rB σ r g b i (rA σ r g b nt i) k := if_pos (Or.inl c_44_4)
                refine g_iincN 7 (i + k) 1 [(7, .int (nI ((i + k) + 1))), (0, .ref (h 0)), (1, .int (r)), (2, .int (g)), (3, .int (b)), (4, .int ((rB σ r g b i (rA σ r g b nt i) k).1)), (5, .int ((rB σ r g b i (rA σ r g b nt i) k).2)), (6, .int (nI (i)))] C dX0_recipe_161 rfl (by decide) (by decide) rfl ?_
                refine g_goto 28 C dX0_recipe_164 (by decide) ?_
                refine g_lv [1, 2, 3, 4, 5, 6, 7, 0] [(0, .ref (h 0)), (1, .int (r)), (2, .int (g)), (3, .int (b)), (4, .int ((rB σ r g b i (rA σ r g b nt i) k).1)), (5, .int ((rB σ r g b i (rA σ r g b nt i) k).2)), (6, .int (nI (i))), (7, .int (nI ((i + k) + 1)))] rfl ?_
                have hx := ih_28 (k + 1) (by omega) (by omega)
                rw [eb] at hx
                exact hx
              ·
                have za := c_44_4
                refine g_aload_n 0 C rfl dX0_recipe_47 rfl ?_
                refine g_get (C0 := RX0) (T := TX0) (N := 17) 0 0 7 (.ref (h 3)) C hin rfl rfl (by decide) (by decide +kernel) rfl dX0_recipe_48 ?_
                refine g_iload 7 C rfl dX0_recipe_51 ?_
                refine g_ialdN (cA := cI) (n := 12) (a := h 3) (f := σ.2 2) (i + k) 3 0 C rfl rfl (by omega) (by decide) dX0_recipe_53 ?_
                refine g_if_ne 60 C dX0_recipe_54 (by decide) (fun c_54_5 => ?_) (fun c_54_5 => ?_)
                ·
                  have zb := c_54_5
                  refine g_iconst 0 C dX0_recipe_60 (by decide) ?_
                  refine g_istore [(8, .int (0)), (0, .ref (h 0)), (1, .int (r)), (2, .int (g)), (3, .int (b)), (4, .int ((rB σ r g b i (rA σ r g b nt i) k).1)), (5, .int ((rB σ r g b i (rA σ r g b nt i) k).2)), (6, .int (nI (i))), (7, .int (nI (i + k)))] C dX0_recipe_61 (by decide) rfl ?_
                  have loop_63 : ∀ (fu : Nat) (q : Nat), q ≤ 5 → 6 ≤ q + fu → G p l e ({ frames := 8, cells := (nT K), slots := 6 * (nT K), locals := 134 } : Room) s m args below meth c D (va_A (wA cI h σ) s.heap.size) 10 0 0 (gQ below D (wA cI h σ) (wA cI h σ) (exT K) (some (.int (rA σ r g b nt nt).1)) (nT K) args s) (wA cI h σ) [(0, .ref (h 0)), (1, .int (r)), (2, .int (g)), (3, .int (b)), (4, .int ((rP σ r g b i (i + k) (rB σ r g b i (rA σ r g b nt i) k) q).1)), (5, .int ((rP σ r g b i (i + k) (rB σ r g b i (rA σ r g b nt i) k) q).2)), (6, .int (nI (i))), (7, .int (nI (i + k))), (8, .int (nI (q)))] 63 [] := by
                    intro fu
                    induction fu with
                    | zero => intro q hq hf3; exact absurd True.intro (by omega)
                    | succ fu ih_63 =>
                      intro q hq hf3
                      refine g_iload 8 C rfl dX0_recipe_63 ?_
                      refine g_iconst 4 C dX0_recipe_65 (by decide) ?_
                      refine g_icmp_gt 161 C dX0_recipe_66 (by decide) (fun c_66_6 => ?_) (fun c_66_6 => ?_)
                      ·
                        have d_66_6 : 4 < q := (nI_ltI (a := 4) (b := q) (by omega) (by omega)).mp c_66_6
                        have eb : rB σ r g b i (rA σ r g b nt i) (k + 1) = rP σ r g b i (i + k) (rB σ r g b i (rA σ r g b nt i) k) q := (if_neg (fun z => z.elim za zb)).trans (by rw [show q = 5 by omega])
                        refine g_iincN 7 (i + k) 1 [(7, .int (nI ((i + k) + 1))), (0, .ref (h 0)), (1, .int (r)), (2, .int (g)), (3, .int (b)), (4, .int ((rP σ r g b i (i + k) (rB σ r g b i (rA σ r g b nt i) k) q).1)), (5, .int ((rP σ r g b i (i + k) (rB σ r g b i (rA σ r g b nt i) k) q).2)), (6, .int (nI (i))), (8, .int (nI (q)))] C dX0_recipe_161 rfl (by decide) (by decide) rfl ?_
                        refine g_goto 28 C dX0_recipe_164 (by decide) ?_
                        refine g_lv [1, 2, 3, 4, 5, 6, 7, 0] [(0, .ref (h 0)), (1, .int (r)), (2, .int (g)), (3, .int (b)), (4, .int ((rP σ r g b i (i + k) (rB σ r g b i (rA σ r g b nt i) k) q).1)), (5, .int ((rP σ r g b i (i + k) (rB σ r g b i (rA σ r g b nt i) k) q).2)), (6, .int (nI (i))), (7, .int (nI ((i + k) + 1)))] rfl ?_
                        have hx := ih_28 (k + 1) (by omega) (by omega)
                        rw [eb] at hx
                        exact hx
                      ·
                        have d_66_6 : ¬ 4 < q := fun zz => c_66_6 ((nI_ltI (a := 4) (b := q) (by omega) (by omega)).mpr zz)
                        refine g_aload_n 0 C rfl dX0_recipe_69 rfl ?_
                        refine g_iload 6 C rfl dX0_recipe_70 ?_
                        refine g_iload 7 C rfl dX0_recipe_72 ?_
                        refine g_iload 8 C rfl dX0_recipe_74 ?_
                        refine g_iconst 0 C dX0_recipe_76 (by decide) ?_
                        refine g_callV0 (C0 := RX0) (T := TX0) (N := 17) (ci := 0) (na := 4) (As := [.int (nI (i)), .int (nI (i + k)), .int (nI (q)), .int (0)]) (c_mixed l D cI cJ h σ np nt no ni hI0 i (i + k) (nI (q)) 0 (by omega) (by omega) (by decide)) C gX0_recipe_X0_mixed rfl (by decide +kernel) rfl ⟨Nat.le_of_ble_eq_true rfl, Nat.le_of_ble_eq_true rfl⟩ rfl rfl rfl (Nat.le_of_ble_eq_true rfl) ⟨Nat.zero_le _, Nat.zero_le _⟩ rfl dX0_recipe_77 ?_
                        refine g_iload_n 1 C rfl dX0_recipe_80 rfl ?_
                        refine g_isub C dX0_recipe_81 ?_
                        refine g_callS0 (na := 1) (av := [.int ((mixd σ i (i + k) (nI (q)) 0) - r)]) (c_square l D cI cJ _ (((mixd σ i (i + k) (nI (q)) 0) - r))) C gX0_recipe_X0_square rfl (by decide +kernel) rfl ⟨Nat.le_of_ble_eq_true rfl, Nat.le_of_ble_eq_true rfl⟩ rfl (Nat.le_of_ble_eq_true rfl) ⟨Nat.zero_le _, Nat.zero_le _⟩ rfl dX0_recipe_82 ?_
                        refine g_aload_n 0 C rfl dX0_recipe_85 rfl ?_
                        refine g_iload 6 C rfl dX0_recipe_86 ?_
                        refine g_iload 7 C rfl dX0_recipe_88 ?_
                        refine g_iload 8 C rfl dX0_recipe_90 ?_
                        refine g_iconst 1 C dX0_recipe_92 (by decide) ?_
                        refine g_callV0 (C0 := RX0) (T := TX0) (N := 17) (ci := 0) (na := 4) (As := [.int (nI (i)), .int (nI (i + k)), .int (nI (q)), .int (1)]) (c_mixed l D cI cJ h σ np nt no ni hI0 i (i + k) (nI (q)) 1 (by omega) (by omega) (by decide)) C gX0_recipe_X0_mixed rfl (by decide +kernel) rfl ⟨Nat.le_of_ble_eq_true rfl, Nat.le_of_ble_eq_true rfl⟩ rfl rfl rfl (Nat.le_of_ble_eq_true rfl) ⟨Nat.zero_le _, Nat.zero_le _⟩ rfl dX0_recipe_93 ?_
                        refine g_iload_n 2 C rfl dX0_recipe_96 rfl ?_
                        refine g_isub C dX0_recipe_97 ?_
                        refine g_callS0 (na := 1) (av := [.int ((mixd σ i (i + k) (nI (q)) 1) - g)]) (c_square l D cI cJ _ (((mixd σ i (i + k) (nI (q)) 1) - g))) C gX0_recipe_X0_square rfl (by decide +kernel) rfl ⟨Nat.le_of_ble_eq_true rfl, Nat.le_of_ble_eq_true rfl⟩ rfl (Nat.le_of_ble_eq_true rfl) ⟨Nat.zero_le _, Nat.zero_le _⟩ rfl dX0_recipe_98 ?_
                        refine g_iadd C dX0_recipe_101 ?_
                        refine g_aload_n 0 C rfl dX0_recipe_102 rfl ?_
                        refine g_iload 6 C rfl dX0_recipe_103 ?_
                        refine g_iload 7 C rfl dX0_recipe_105 ?_
                        refine g_iload 8 C rfl dX0_recipe_107 ?_
                        refine g_iconst 2 C dX0_recipe_109 (by decide) ?_
                        refine g_callV0 (C0 := RX0) (T := TX0) (N := 17) (ci := 0) (na := 4) (As := [.int (nI (i)), .int (nI (i + k)), .int (nI (q)), .int (2)]) (c_mixed l D cI cJ h σ np nt no ni hI0 i (i + k) (nI (q)) 2 (by omega) (by omega) (by decide)) C gX0_recipe_X0_mixed rfl (by decide +kernel) rfl ⟨Nat.le_of_ble_eq_true rfl, Nat.le_of_ble_eq_true rfl⟩ rfl rfl rfl (Nat.le_of_ble_eq_true rfl) ⟨Nat.zero_le _, Nat.zero_le _⟩ rfl dX0_recipe_110 ?_
                        refine g_iload_n 3 C rfl dX0_recipe_113 rfl ?_
                        refine g_isub C dX0_recipe_114 ?_
                        refine g_callS0 (na := 1) (av := [.int ((mixd σ i (i + k) (nI (q)) 2) - b)]) (c_square l D cI cJ _ (((mixd σ i (i + k) (nI (q)) 2) - b))) C gX0_recipe_X0_square rfl (by decide +kernel) rfl ⟨Nat.le_of_ble_eq_true rfl, Nat.le_of_ble_eq_true rfl⟩ rfl (Nat.le_of_ble_eq_true rfl) ⟨Nat.zero_le _, Nat.zero_le _⟩ rfl dX0_recipe_115 ?_
                        refine g_iadd C dX0_recipe_118 ?_
                        refine g_is ((rdist σ i (i + k) q r g b)) rfl ?_
                        refine g_istore [(9, .int (rdist σ i (i + k) q r g b)), (0, .ref (h 0)), (1, .int (r)), (2, .int (g)), (3, .int (b)), (4, .int ((rP σ r g b i (i + k) (rB σ r g b i (rA σ r g b nt i) k) q).1)), (5, .int ((rP σ r g b i (i + k) (rB σ r g b i (rA σ r g b nt i) k) q).2)), (6, .int (nI (i))), (7, .int (nI (i + k))), (8, .int (nI (q)))] C dX0_recipe_119 (by decide) rfl ?_
                        refine g_iload 5 C rfl dX0_recipe_121 ?_
                        refine g_iconst (-1) C dX0_recipe_123 (by decide) ?_
                        refine g_icmp_eq 134 C dX0_recipe_124 (by decide) (fun c_124_7 => ?_) (fun c_124_7 => ?_)
                        ·
                          have ep : rP σ r g b i (i + k) (rB σ r g b i (rA σ r g b nt i) k) (q + 1) = (nI (1000 * i + 10 * (i + k) + q), rdist σ i (i + k) q r g b) := if_pos (Or.inl c_124_7)
                          refine g_sipush 1000 C dX0_recipe_134 (by decide) ?_
                          refine g_iload 7 C rfl dX0_recipe_137 ?_
                          refine g_imulN 1000 i C dX0_recipe_139 ?_
                          refine g_bipush 10 C dX0_recipe_140 (by decide) ?_
                          refine g_iload 8 C rfl dX0_recipe_142 ?_
                          refine g_imulN 10 (i + k) C dX0_recipe_144 ?_
                          refine g_iaddN (1000 * i) (10 * (i + k)) C dX0_recipe_145 ?_
                          refine g_iload 9 C rfl dX0_recipe_146 ?_
                          refine g_iaddN ((1000 * i) + (10 * (i + k))) q C dX0_recipe_148 ?_
                          refine g_istore [(4, .int (nI (((1000 * i) + (10 * (i + k))) + q))), (9, .int (rdist σ i (i + k) q r g b)), (0, .ref (h 0)), (1, .int (r)), (2, .int (g)), (3, .int (b)), (5, .int ((rP σ r g b i (i + k) (rB σ r g b i (rA σ r g b nt i) k) q).2)), (6, .int (nI (i))), (7, .int (nI (i + k))), (8, .int (nI (q)))] C dX0_recipe_149 (by decide) rfl ?_
                          refine g_iload 1 C rfl dX0_recipe_151 ?_
                          refine g_istore [(5, .int (rdist σ i (i + k) q r g b)), (4, .int (nI (((1000 * i) + (10 * (i + k))) + q))), (9, .int (rdist σ i (i + k) q r g b)), (0, .ref (h 0)), (1, .int (r)), (2, .int (g)), (3, .int (b)), (6, .int (nI (i))), (7, .int (nI (i + k))), (8, .int (nI (q)))] C dX0_recipe_153 (by decide) rfl ?_
                          refine g_iincN 9 q 1 [(8, .int (nI (q + 1))), (5, .int (rdist σ i (i + k) q r g b)), (4, .int (nI (((1000 * i) + (10 * (i + k))) + q))), (9, .int (rdist σ i (i + k) q r g b)), (0, .ref (h 0)), (1, .int (r)), (2, .int (g)), (3, .int (b)), (6, .int (nI (i))), (7, .int (nI (i + k)))] C dX0_recipe_155 rfl (by decide) (by decide) rfl ?_
                          refine g_goto 63 C dX0_recipe_158 (by decide) ?_
                          refine g_lv [4, 5, 6, 7, 2, 1, 8, 9, 0] [(0, .ref (h 0)), (1, .int (r)), (2, .int (g)), (3, .int (b)), (4, .int (nI (((1000 * i) + (10 * (i + k))) + q))), (5, .int (rdist σ i (i + k) q r g b)), (6, .int (nI (i))), (7, .int (nI (i + k))), (8, .int (nI (q + 1)))] rfl ?_
                          have hx := ih_63 (q + 1) (by omega) (by omega)
                          rw [ep] at hx
                          exact hx
                        ·
                          have zc := c_124_7
                          refine g_iload 0 C rfl dX0_recipe_127 ?_
                          refine g_iload 6 C rfl dX0_recipe_129 ?_
                          refine g_icmp_ge 155 C dX0_recipe_131 (by decide) (fun c_131_8 => ?_) (fun c_131_8 => ?_)
                          ·
                            have ep : rP σ r g b i (i + k) (rB σ r g b i (rA σ r g b nt i) k) (q + 1) = rP σ r g b i (i + k) (rB σ r g b i (rA σ r g b nt i) k) q := if_neg (fun z => z.elim zc (fun y => y c_131_8))
                            refine g_iincN 9 q 1 [(8, .int (nI (q + 1))), (9, .int (rdist σ i (i + k) q r g b)), (0, .ref (h 0)), (1, .int (r)), (2, .int (g)), (3, .int (b)), (4, .int ((rP σ r g b i (i + k) (rB σ r g b i (rA σ r g b nt i) k) q).1)), (5, .int ((rP σ r g b i (i + k) (rB σ r g b i (rA σ r g b nt i) k) q).2)), (6, .int (nI (i))), (7, .int (nI (i + k)))] C dX0_recipe_155 rfl (by decide) (by decide) rfl ?_
                            refine g_goto 63 C dX0_recipe_158 (by decide) ?_
                            refine g_lv [2, 3, 4, 5, 6, 7, 8, 9, 0] [(0, .ref (h 0)), (1, .int (r)), (2, .int (g)), (3, .int (b)), (4, .int ((rP σ r g b i (i + k) (rB σ r g b i (rA σ r g b nt i) k) q).1)), (5, .int ((rP σ r g b i (i + k) (rB σ r g b i (rA σ r g b nt i) k) q).2)), (6, .int (nI (i))), (7, .int (nI (i + k))), (8, .int (nI (q + 1)))] rfl ?_
                            have hx := ih_63 (q + 1) (by omega) (by omega)
                            rw [ep] at hx
                            exact hx
                          ·
                            have ep : rP σ r g b i (i + k) (rB σ r g b i (rA σ r g b nt i) k) (q + 1) = (nI (1000 * i + 10 * (i + k) + q), rdist σ i (i + k) q r g b) := if_pos (Or.inr c_131_8)
                            refine g_sipush 1000 C dX0_recipe_134 (by decide) ?_
                            refine g_iload 7 C rfl dX0_recipe_137 ?_
                            refine g_imulN 1000 i C dX0_recipe_139 ?_
                            refine g_bipush 10 C dX0_recipe_140 (by decide) ?_
                            refine g_iload 8 C rfl dX0_recipe_142 ?_
                            refine g_imulN 10 (i + k) C dX0_recipe_144 ?_
                            refine g_iaddN (1000 * i) (10 * (i + k)) C dX0_recipe_145 ?_
                            refine g_iload 9 C rfl dX0_recipe_146 ?_
                            refine g_iaddN ((1000 * i) + (10 * (i + k))) q C dX0_recipe_148 ?_
                            refine g_istore [(4, .int (nI (((1000 * i) + (10 * (i + k))) + q))), (9, .int (rdist σ i (i + k) q r g b)), (0, .ref (h 0)), (1, .int (r)), (2, .int (g)), (3, .int (b)), (5, .int ((rP σ r g b i (i + k) (rB σ r g b i (rA σ r g b nt i) k) q).2)), (6, .int (nI (i))), (7, .int (nI (i + k))), (8, .int (nI (q)))] C dX0_recipe_149 (by decide) rfl ?_
                            refine g_iload 1 C rfl dX0_recipe_151 ?_
                            refine g_istore [(5, .int (rdist σ i (i + k) q r g b)), (4, .int (nI (((1000 * i) + (10 * (i + k))) + q))), (9, .int (rdist σ i (i + k) q r g b)), (0, .ref (h 0)), (1, .int (r)), (2, .int (g)), (3, .int (b)), (6, .int (nI (i))), (7, .int (nI (i + k))), (8, .int (nI (q)))] C dX0_recipe_153 (by decide) rfl ?_
                            refine g_iincN 9 q 1 [(8, .int (nI (q + 1))), (5, .int (rdist σ i (i + k) q r g b)), (4, .int (nI (((1000 * i) + (10 * (i + k))) + q))), (9, .int (rdist σ i (i + k) q r g b)), (0, .ref (h 0)), (1, .int (r)), (2, .int (g)), (3, .int (b)), (6, .int (nI (i))), (7, .int (nI (i + k)))] C dX0_recipe_155 rfl (by decide) (by decide) rfl ?_
                            refine g_goto 63 C dX0_recipe_158 (by decide) ?_
                            refine g_lv [4, 5, 6, 7, 2, 1, 8, 9, 0] [(0, .ref (h 0)), (1, .int (r)), (2, .int (g)), (3, .int (b)), (4, .int (nI (((1000 * i) + (10 * (i + k))) + q))), (5, .int (rdist σ i (i + k) q r g b)), (6, .int (nI (i))), (7, .int (nI (i + k))), (8, .int (nI (q + 1)))] rfl ?_
                            have hx := ih_63 (q + 1) (by omega) (by omega)
                            rw [ep] at hx
                            exact hx
                  refine g_lv [1, 2, 3, 4, 5, 6, 7, 8, 0] [(0, .ref (h 0)), (1, .int (r)), (2, .int (g)), (3, .int (b)), (4, .int ((rB σ r g b i (rA σ r g b nt i) k).1)), (5, .int ((rB σ r g b i (rA σ r g b nt i) k).2)), (6, .int (nI (i))), (7, .int (nI (i + k))), (8, .int (0))] rfl ?_
                  exact loop_63 6 0 (by omega) (by omega)
                ·
                  have eb : rB σ r g b i (rA σ r g b nt i) (k + 1) = rB σ r g b i (rA σ r g b nt i) k := if_pos (Or.inr c_54_5)
                  refine g_goto 161 C dX0_recipe_57 (by decide) ?_
                  refine g_iincN 7 (i + k) 1 [(7, .int (nI ((i + k) + 1))), (0, .ref (h 0)), (1, .int (r)), (2, .int (g)), (3, .int (b)), (4, .int ((rB σ r g b i (rA σ r g b nt i) k).1)), (5, .int ((rB σ r g b i (rA σ r g b nt i) k).2)), (6, .int (nI (i)))] C dX0_recipe_161 rfl (by decide) (by decide) rfl ?_
                  refine g_goto 28 C dX0_recipe_164 (by decide) ?_
                  refine g_lv [1, 2, 3, 4, 5, 6, 7, 0] [(0, .ref (h 0)), (1, .int (r)), (2, .int (g)), (3, .int (b)), (4, .int ((rB σ r g b i (rA σ r g b nt i) k).1)), (5, .int ((rB σ r g b i (rA σ r g b nt i) k).2)), (6, .int (nI (i))), (7, .int (nI ((i + k) + 1)))] rfl ?_
                  have hx := ih_28 (k + 1) (by omega) (by omega)
                  rw [eb] at hx
                  exact hx
        refine g_lv [1, 2, 3, 4, 5, 6, 7, 0] [(0, .ref (h 0)), (1, .int (r)), (2, .int (g)), (3, .int (b)), (4, .int ((rA σ r g b nt i).1)), (5, .int ((rA σ r g b nt i).2)), (6, .int (nI (i))), (7, .int (nI (i)))] rfl ?_
        exact loop_28 (nt + 1) 0 (by omega) (by omega)
  refine g_lv [3, 4, 5, 6, 2, 1, 0] [(0, .ref (h 0)), (1, .int (r)), (2, .int (g)), (3, .int (b)), (4, .int ((-1))), (5, .int (0)), (6, .int (0))] rfl ?_
  exact loop_15 (nt + 1) 0 (by omega) (by omega)
end
section
/-! Calls caught. -/
section GW
variable {p : Program} {l : Launch} {e : Env} {R : Room} {s : State} {m : MethodId} {args : Array Value} {below : List Frame} {meth : Method} {c : Code}
variable {cc : ByteArray} {nL : Nat} {own : String} {Ts : List Cond} {D : va_G} {TY : List (ClassId × FieldType)} {A : Nat → Prop}
variable {k j : Nat} {Q : State → Prop} {w : va_W} {lv : List (Nat × Value)} {pc : Nat} {st rest : List Value}
variable {y : MethodName} {bytes : ByteArray} {maxL fr lo n ix na : Nat} {ret : Option FieldType} {ws ws' : List Cond} {av As : List Value} {wc w1 wl wr : va_W} {rv : Option Value} {E : String}
/-- a call by an object that throws, caught here -/
theorem g_callVC {C0 : String} {fs : List Value} {T : u_T} {N b ci : Nat} (K : va_W → va_W) (hK : wX K wl wr) (hM : MC l y ws fr lo D TY (.ref b :: As) wc w1 (some E) rv n) (C : gC p s m args meth c cc nL own Ts D TY A) (hG : GoodIn Ts (wsV own ix C0 y ws)) (hw : ws = Cond.code y bytes maxL ret :: ws')
    (hd : y.cls = C0 ∧ y.cls ≠ "java/lang/invoke/MethodHandle" ∧ y.cls ≠ "java/lang/invoke/VarHandle" ∧ (parseMethodDescriptor y.desc).map (fun d => d.parameters.length) = some na) (hna : As.length = na) (hR : fr + 1 ≤ R.frames ∧ 8 + (maxL + 11) + lo ≤ R.locals)
    (he : wc[0]? = some (b, .inr (ci, fs))) (hc : vwCl[ci]? = some (C0, T, N))
    (hst : st = As.reverse ++ .ref b :: rest) (hW : (rest.map fun v => v.category).sum ≤ 8) (hf : k + n ≤ R.cells ∧ j + 6 * n ≤ R.slots) (hdg : decode cc pc = .ok (.invokevirtual ix, 3))
    {hh : List (Nat × Nat × Nat × Nat)} (htab : c.exceptionTable.toList = tableOf hh) (pre : List ExceptionTableEntry) (x : ExceptionTableEntry) (suf : List ExceptionTableEntry) (hsplit : tableOf hh = pre ++ x :: suf)
    (hpass : ∀ z ∈ pre, z.catchType ≠ 0 ∧ ∃ nm : String, Cond.classLink own z.catchType nm ∈ Ts ∧ va_Nc E nm s) (hx : covers x pc = true) (h0 : x.catchType ≠ 0) (hlink : Cond.classLink own x.catchType E ∈ Ts) (hE : Cond.castable E E ∈ xeB)
    (KK : ∀ q : Nat, G p l e R s m args below meth c D A nL (k + n) (j + 6 * n) Q (K wc) lv x.handlerPc [.ref q]) : G p l e R s m args below meth c D A nL k j Q (K wc) lv pc st := by
  subst hst; subst hna
  intro H locs ls hP hD hS hl
  have hA := C.2.2.2.2.2.2.1
  have hr : vx_Run p l e R s m args below meth c H locs k j n (6 * n) (F0 m pc ls (As.reverse ++ .ref b :: rest)) rest (mQ D wc w1 (some E) rv H.size (Value.ref b :: As).toArray) (mX D wc (some E) H.size) (va_A wc H.size) := vx_runV (As := As) (rest := rest) ⟨C.1, C.2.1, C.2.2.1, C.2.2.2.1, C.2.2.2.2.1⟩ (hM H.size) (cwV As.length C.2.2.2.2.1 hG hw rfl rfl hd hR) ⟨mP_blind, va_recv C.2.2.2.2.2.1 (wX_P hK hP) hc he, mP_of hK C hP hD hS⟩ rfl rfl hl.1 rfl (lv_room hW) hdg hf
  intro T2 hT X
  rcases hr T2 hT X with ⟨v, st₀, t, T', L, h0', X', hL, e1, e2, ⟨⟨hv, hE', hP1⟩, hz, hk⟩, stp⟩ | ⟨q, st₀, t, T', L, E', ce, h0', X', hL, e1, e2, ⟨⟨hE', hP1⟩, hz, hk⟩, hce, hcv, hcl, stp⟩
  · cases hE'
  · cases hE'
    rw [h0'] at hz hk
    rw [← e1] at hz hk hP1 hce
    have hF := wX_free hK hD hS hA
    have hPn := wX_join hK hP hD hk hP1
    have hSn : va_S A s.heap T'.heap (locs ++ L) := ⟨Nat.le_trans hS.1 hz, fun q h1 h2 => by rw [hk q (Nat.lt_of_lt_of_le h1 hS.1) (fun z => h2 (hF q z))]; exact hS.2.1 q h1 h2, fun q hq => by
        rcases List.mem_append.mp hq with h | h
        · exact hS.2.2 q h
        · exact hF _ (hL q h)⟩
    have hB : (Cond.castable E E).before args s = true := va_Nw.use (xeB_tab _ hE) (C.2.2.2.2.2.2.2.2.2.2.2.1 _ hE)
    obtain ⟨t2, a1, b1⟩ := vx_catch (pc := pc) (ls := ls) (rest := rest) C.2.2.2.1 pre x suf (htab.trans hsplit) (fun z hz => Or.inr ⟨(hpass z hz).1, by obtain ⟨nm, h1, h2⟩ := (hpass z hz).2; exact ⟨nm, C.2.2.2.2.1 _ h1, h2⟩⟩) hx h0 (C.2.2.2.2.1 _ hlink) hB hce hcv hcl (KK q T'.heap (locs ++ L) ls hPn hD hSn hl) T' rfl X'
    exact ⟨t2, stp.trans a1, b1⟩
end GW
/-- a body with a table of its own -/
theorem MC.ofGH {l : Launch} {y : MethodName} {ws ws' : List Cond} {fr lo : Nat} {D : va_G} {TY : List (ClassId × FieldType)} {av : List Value} {w w' : va_W} {ex : Option String} {rv : Option Value} {n : Nat} {cc : ByteArray} {maxL : Nat} {ret : Option FieldType} {hh : List (Nat × Nat × Nat × Nat)} (lv0 : List (Nat × Value)) (hy : plainName y.cls = true) (hw : ws = Cond.codeWith y cc maxL ret hh :: ws') (hlen : (lg_sl av).length ≤ maxL) (hlv : lv_args 0 av = lv0)
    (body : ∀ (p : Program) (e : Env) (s : State) (m : MethodId) (args : Array Value) (below : List Frame) (meth : Method) (c : Code), gC p s m args meth c cc maxL y.cls ws D TY (va_A w s.heap.size) → meth.sig.returnType = ret → c.exceptionTable.toList = tableOf hh →
      G p l e { frames := fr, cells := n, slots := 6 * n, locals := lo } s m args below meth c D (va_A w s.heap.size) maxL 0 0 (gQ below D w w' ex rv n args s) w lv0 0 []) : MC l y ws fr lo D TY av w w' ex rv n := by
  intro sz
  refine vx_ofWH (cc := cc) (maxL := maxL) (ret := ret) (hh := hh) hy hw ?_
  intro p e s m args below meth c s₁ B hml hv
  have hwd : (Cond.codeWith y cc maxL ret hh).before args s = true := atoms_spec (ws := ws) B.pre _ (by rw [hw]; exact List.mem_cons_self)
  obtain ⟨rfl, rfl, hP, hK, hD0, hX⟩ := hv
  have hl := lv_entry av (n := maxL) hlen
  rw [lg_entry_eq]
  rw [hlv] at hl
  exact body p e s m _ below meth c ⟨B.exec, B.bytes, hml, findClass_of_methodNamed B.named, atoms_spec (ws := ws) B.pre, hK, fun q h => Or.inr h, B.notSynchronized, hX⟩ B.returns (vx_table (x := y) B hwd) s.heap [] _ hP hD0.self va_S.rf hl
end
section
/-! The law's arrays, the world of book and law, rows for both. -/
/-- c t p l u r d f -/
def wL (cI : ClassId) (g : Nat → Nat) (τ : gS) : va_W := [(g 0, .inl (cI, 12, .inl (τ.2 0))), (g 1, .inl (cI, 18, .inl (τ.2 1))), (g 2, .inl (cI, 24, .inl (τ.2 2))), (g 3, .inl (cI, 12, .inl (τ.2 3))), (g 4, .inl (cI, 12, .inl (τ.2 4))), (g 5, .inl (cI, 28, .inl (τ.2 5))), (g 6, .inl (cI, 8, .inl (τ.2 6))), (g 7, .inl (cI, 6, .inl (τ.2 7)))]
def wB (cI : ClassId) (h g : Nat → Nat) (σ τ : gS) : va_W := wA cI h σ ++ wL cI g τ
/-- the lowest part of a number, as the law takes it -/
def lowN (v : Int32) (n : Nat) : Nat := v.toBitVec.toNat % 2 ^ 31 % n
theorem lowN_lt (v : Int32) {n : Nat} (h : 0 < n) : lowN v n < n := Nat.mod_lt _ h
/-- what the law reads out of a layer -/
def grL (τ : gS) (k t : Nat) : Int32 := ((if t < 3 then τ.2 3 k else τ.2 4 k) >>> (nI (10 * (t % 3)) &&& 31)) &&& 1023
section GLR
variable {p : Program} {l : Launch} {e : Env} {R : Room} {s : State} {m : MethodId} {args : Array Value} {below : List Frame} {meth : Method} {c : Code}
variable {cc : ByteArray} {nL : Nat} {own : String} {Ts : List Cond} {D : va_G} {TY : List (ClassId × FieldType)} {A : Nat → Prop}
variable {k j : Nat} {Q : State → Prop} {w : va_W} {lv : List (Nat × Value)} {pc : Nat} {st rest : List Value}
theorem g_irem {x y : Int32} (C : gC p s m args meth c cc nL own Ts D TY A) (hne : ¬ y = 0) (hd : decode cc pc = .ok (.irem, 1)) (K : G p l e R s m args below meth c D A nL k j Q w lv (pc + 1) (.int (x - x / y * y) :: st)) : G p l e R s m args below meth c D A nL k j Q w lv pc (.int y :: .int x :: st) :=
  fun H locs ls hP hD hS hl => lv_irem C.1 C.2.1 hd hne (K H locs ls hP hD hS hl)
theorem g_iremN (a b : Nat) (C : gC p s m args meth c cc nL own Ts D TY A) (ha : a < 2 ^ 31) (h0 : 0 < b) (hb : b < 2 ^ 31) (hd : decode cc pc = .ok (.irem, 1)) (K : G p l e R s m args below meth c D A nL k j Q w lv (pc + 1) (.int (nI (a % b)) :: st)) : G p l e R s m args below meth c D A nL k j Q w lv pc (.int (nI b) :: .int (nI a) :: st) :=
  g_irem C (nI_ne0 h0 hb) hd (by rw [pk_rem ha h0 hb]; exact K)
theorem g_ishr {x y : Int32} (C : gC p s m args meth c cc nL own Ts D TY A) (hd : decode cc pc = .ok (.ishr, 1)) (K : G p l e R s m args below meth c D A nL k j Q w lv (pc + 1) (.int (x >>> (y &&& 31)) :: st)) : G p l e R s m args below meth c D A nL k j Q w lv pc (.int y :: .int x :: st) :=
  fun H locs ls hP hD hS hl => lv_ishr C.1 C.2.1 hd (K H locs ls hP hD hS hl)
end GLR
section GLC
variable {p : Program} {l : Launch} {e : Env} {R : Room} {s : State} {m : MethodId} {args : Array Value} {below : List Frame} {meth : Method} {c : Code}
variable {cc : ByteArray} {nL : Nat} {own : String} {Ts : List Cond} {D : va_G} {TY : List (ClassId × FieldType)} {A : Nat → Prop}
variable {k j : Nat} {Q : State → Prop} {w : va_W} {lv : List (Nat × Value)} {pc : Nat} {st rest : List Value}
variable {y : MethodName} {bytes : ByteArray} {maxL fr lo n ix na : Nat} {ret : Option FieldType} {ws ws' : List Cond} {av As : List Value} {w1 : va_W} {rv : Option Value} {E : String}
variable {cI : ClassId} {h g : Nat → Nat} {σ σ' τ τ' : gS}
/-- the law calls its own, over its arrays -/
theorem g_bL (hM : MC l y ws fr lo D TY av (wL cI g τ) (wL cI g τ') none rv n) (C : gC p s m args meth c cc nL own Ts D TY A) (hG : GoodIn Ts (va_wsS own ix y ws)) (hw : ws = Cond.code y bytes maxL ret :: ws')
    (hd : y.cls ≠ "java/lang/invoke/MethodHandle" ∧ y.cls ≠ "java/lang/invoke/VarHandle" ∧ (parseMethodDescriptor y.desc).map (fun d => d.parameters.length) = some na) (hna : av.length = na) (hR : fr + 1 ≤ R.frames ∧ 8 + (maxL + 11) + lo ≤ R.locals)
    (hst : st = av.reverse ++ rest) (hW : (rest.map fun v => v.category).sum ≤ 8) (hf : k + n ≤ R.cells ∧ j + 6 * n ≤ R.slots) (hdg : decode cc pc = .ok (.invokestatic ix, 3))
    (KK : G p l e R s m args below meth c D A nL (k + n) (j + 6 * n) Q (wB cI h g σ τ') lv (pc + 3) (rv.toList ++ rest)) : G p l e R s m args below meth c D A nL k j Q (wB cI h g σ τ) lv pc st :=
  g_callS (fun w => wA cI h σ ++ w) (wX_suf _) hM C hG hw hd hna hR hst hW hf rfl hdg KK
/-- the law calls its own, over both -/
theorem g_bB (hM : MC l y ws fr lo D TY av (wB cI h g σ τ) (wB cI h g σ' τ') none rv n) (C : gC p s m args meth c cc nL own Ts D TY A) (hG : GoodIn Ts (va_wsS own ix y ws)) (hw : ws = Cond.code y bytes maxL ret :: ws')
    (hd : y.cls ≠ "java/lang/invoke/MethodHandle" ∧ y.cls ≠ "java/lang/invoke/VarHandle" ∧ (parseMethodDescriptor y.desc).map (fun d => d.parameters.length) = some na) (hna : av.length = na) (hR : fr + 1 ≤ R.frames ∧ 8 + (maxL + 11) + lo ≤ R.locals)
    (hst : st = av.reverse ++ rest) (hW : (rest.map fun v => v.category).sum ≤ 8) (hf : k + n ≤ R.cells ∧ j + 6 * n ≤ R.slots) (hdg : decode cc pc = .ok (.invokestatic ix, 3))
    (KK : G p l e R s m args below meth c D A nL (k + n) (j + 6 * n) Q (wB cI h g σ' τ') lv (pc + 3) (rv.toList ++ rest)) : G p l e R s m args below meth c D A nL k j Q (wB cI h g σ τ) lv pc st :=
  g_callS (fun w => w) wX_id hM C hG hw hd hna hR hst hW hf rfl hdg KK
/-- the law calls a method that needs no world -/
theorem g_bS (hM : MC l y ws fr lo D TY av w w none rv 0) (C : gC p s m args meth c cc nL own Ts D TY A) (hG : GoodIn Ts (va_wsS own ix y ws)) (hw : ws = Cond.code y bytes maxL ret :: ws')
    (hd : y.cls ≠ "java/lang/invoke/MethodHandle" ∧ y.cls ≠ "java/lang/invoke/VarHandle" ∧ (parseMethodDescriptor y.desc).map (fun d => d.parameters.length) = some na) (hna : av.length = na) (hR : fr + 1 ≤ R.frames ∧ 8 + (maxL + 11) + lo ≤ R.locals)
    (hst : st = av.reverse ++ rest) (hW : (rest.map fun v => v.category).sum ≤ 8) (hf : k ≤ R.cells ∧ j ≤ R.slots) (hdg : decode cc pc = .ok (.invokestatic ix, 3))
    (KK : G p l e R s m args below meth c D A nL k j Q w lv (pc + 3) (rv.toList ++ rest)) : G p l e R s m args below meth c D A nL k j Q w lv pc st :=
  g_callS (fun w => w) wX_id hM C hG hw hd hna hR hst hW hf rfl hdg KK
/-- the law calls the book -/
theorem g_bV (hM : MC l y ws fr lo D TY (.ref (h 0) :: As) (wA cI h σ) (wA cI h σ') none rv n) (C : gC p s m args meth c cc nL own Ts D TY A) (hG : GoodIn Ts (wsV own ix RX0 y ws)) (hw : ws = Cond.code y bytes maxL ret :: ws')
    (hd : y.cls = RX0 ∧ y.cls ≠ "java/lang/invoke/MethodHandle" ∧ y.cls ≠ "java/lang/invoke/VarHandle" ∧ (parseMethodDescriptor y.desc).map (fun d => d.parameters.length) = some na) (hna : As.length = na) (hR : fr + 1 ≤ R.frames ∧ 8 + (maxL + 11) + lo ≤ R.locals)
    (hst : st = As.reverse ++ .ref (h 0) :: rest) (hW : (rest.map fun v => v.category).sum ≤ 8) (hf : k + n ≤ R.cells ∧ j + 6 * n ≤ R.slots) (hdg : decode cc pc = .ok (.invokevirtual ix, 3))
    (KK : G p l e R s m args below meth c D A nL (k + n) (j + 6 * n) Q (wB cI h g σ' τ) lv (pc + 3) (rv.toList ++ rest)) : G p l e R s m args below meth c D A nL k j Q (wB cI h g σ τ) lv pc st :=
  g_callV (C0 := RX0) (T := TX0) (N := 17) (ci := 0) (fun w => w ++ wL cI g τ) (wX_pre _) hM C hG hw hd hna hR rfl rfl hst hW hf rfl hdg KK
/-- the law's call of the book that catches -/
theorem g_bA {hh : List (Nat × Nat × Nat × Nat)} (hM : MC l y ws fr lo D TY av (wA cI h σ) (wA cI h σ') none rv n) (C : gC p s m args meth c cc nL own Ts D TY A) (hG : GoodIn Ts (va_wsS own ix y ws)) (hw : ws = Cond.codeWith y bytes maxL ret hh :: ws')
    (hd : y.cls ≠ "java/lang/invoke/MethodHandle" ∧ y.cls ≠ "java/lang/invoke/VarHandle" ∧ (parseMethodDescriptor y.desc).map (fun d => d.parameters.length) = some na) (hna : av.length = na) (hR : fr + 1 ≤ R.frames ∧ 8 + (maxL + 11) + lo ≤ R.locals)
    (hst : st = av.reverse ++ rest) (hW : (rest.map fun v => v.category).sum ≤ 8) (hf : k + n ≤ R.cells ∧ j + 6 * n ≤ R.slots) (hdg : decode cc pc = .ok (.invokestatic ix, 3))
    (KK : G p l e R s m args below meth c D A nL (k + n) (j + 6 * n) Q (wB cI h g σ' τ) lv (pc + 3) (rv.toList ++ rest)) : G p l e R s m args below meth c D A nL k j Q (wB cI h g σ τ) lv pc st := by
  subst hst; subst hna
  intro H locs ls hP hD hS hl
  have hK : wX (fun w => w ++ wL cI g τ) [] (wL cI g τ) := wX_pre _
  exact g_ret_of (wc := wA cI h σ) (w1 := wA cI h σ') hK rfl C.2.2.2.2.2.2.1 hP hD hS hl (vx_runSX (As := av) (rest := rest) ⟨C.1, C.2.1, C.2.2.1, C.2.2.2.1, C.2.2.2.2.1⟩ (hM H.size) (vx_cwSW av.length C.2.2.2.2.1 hG hw rfl rfl hd hR) ⟨mP_blind, mP_of hK C hP hD hS⟩ rfl rfl hl.1 rfl (lv_room hW) hdg hf) KK
/-- inside that call: what the book throws is caught here -/
theorem g_callVOC {xs : List ExceptionTableEntry} (hM : MC l y ws fr lo D TY (.ref (h 0) :: As) (wA cI h σ) w1 (some E) rv n) (C : gC p s m args meth c cc nL own Ts D TY A) (hG : GoodIn Ts (wsV own ix RX0 y ws)) (hw : ws = Cond.code y bytes maxL ret :: ws')
    (hd : y.cls = RX0 ∧ y.cls ≠ "java/lang/invoke/MethodHandle" ∧ y.cls ≠ "java/lang/invoke/VarHandle" ∧ (parseMethodDescriptor y.desc).map (fun d => d.parameters.length) = some na) (hna : As.length = na) (hR : fr + 1 ≤ R.frames ∧ 8 + (maxL + 11) + lo ≤ R.locals)
    (hst : st = As.reverse ++ .ref (h 0) :: rest) (hW : (rest.map fun v => v.category).sum ≤ 8) (hf : k + n ≤ R.cells ∧ j + 6 * n ≤ R.slots) (hdg : decode cc pc = .ok (.invokevirtual ix, 3))
    {hh : List (Nat × Nat × Nat × Nat)} (htab : c.exceptionTable.toList = tableOf hh) (x : ExceptionTableEntry) (hsplit : tableOf hh = x :: xs)
    (hx : covers x pc = true) (h0 : x.catchType ≠ 0) (hlink : Cond.classLink own x.catchType E ∈ Ts) (hE : Cond.castable E E ∈ xeB)
    (KK : ∀ q : Nat, G p l e R s m args below meth c D A nL (k + n) (j + 6 * n) Q (wA cI h σ) lv x.handlerPc [.ref q]) : G p l e R s m args below meth c D A nL k j Q (wA cI h σ) lv pc st :=
  g_callVC (C0 := RX0) (T := TX0) (N := 17) (ci := 0) (fun w => w) wX_id hM C hG hw hd hna hR rfl rfl hst hW hf hdg htab [] x xs hsplit (fun z hz => absurd hz List.not_mem_nil) hx h0 hlink hE KK
end GLC
end
section
/-! The relation of the book's state and the law's arrays. -/
def relV (σ τ : gS) : Prop :=
  (∀ t, t < 6 → τ.2 1 (3 * t) = σ.2 1 t) ∧
  (∀ q k t, q < 4 → k < 3 → t < 6 → grL τ (3 * q + k) t = σ.2 3 ((10 + q * 12 + k) * 12 + t)) ∧
  (∀ q, q < 4 → τ.2 5 (7 * q) = σ.2 4 q) ∧ (∀ q, q < 4 → τ.2 5 (7 * q + 1) = σ.2 5 q) ∧ (∀ q, q < 4 → τ.2 5 (7 * q + 2) = σ.2 6 q)
/-- layers, cracks and prices stay small -/
def smlV (σ : gS) (T : Nat) : Prop :=
  (∀ q, q < 4 → ∃ j, j ≤ 3 ∧ σ.2 4 q = nI j) ∧ (∀ q, q < 4 → ∃ j, j ≤ T ∧ σ.2 5 q = nI j) ∧ (∀ q, q < 4 → ∃ j, j ≤ 9000 ∧ σ.2 6 q = nI j)
/-- what a pot has, as the law sums it up -/
def potL (τ : gS) (x : Nat) : Nat → Int32 := isum (fun t => τ.2 2 (6 * x + t))
def potN (τ : gS) (x : Nat) : Nat → Nat
  | 0 => 0
  | n + 1 => potN τ x n + cl (τ.2 2 (6 * x + n))
def flQ (τ : gS) (x g n : Nat) : Nat := potN τ x n * g / potN τ x 6
def flN (τ : gS) (x g : Nat) : Nat → Int32 := fun n => nI (flQ τ x g (n + 1) - flQ τ x g n)
def potOK (τ : gS) (x : Nat) : Prop := ∀ t, t < 6 → ∃ j, j ≤ 1000 ∧ τ.2 2 (6 * x + t) = nI j
theorem potN_le {τ : gS} {x : Nat} (h : potOK τ x) : ∀ n, n ≤ 6 → potN τ x n ≤ 1000 * n
  | 0, _ => Nat.le_refl 0
  | n + 1, hn => by
    obtain ⟨j, hj, ej⟩ := h n hn
    have := potN_le h n (by omega)
    rw [potN, ej, cl_nI (by omega)]; omega
theorem potN_up {τ : gS} {x : Nat} : ∀ n m, n ≤ m → potN τ x n ≤ potN τ x m
  | n, 0, h => by rw [Nat.le_zero.mp h]; exact Nat.le_refl _
  | n, m + 1, h => by
    by_cases e : n = m + 1
    · rw [e]; exact Nat.le_refl _
    · exact Nat.le_trans (potN_up n m (by omega)) (Nat.le_add_right _ _)
theorem potL_N {τ : gS} {x : Nat} (h : potOK τ x) : ∀ n, n ≤ 6 → potL τ x n = nI (potN τ x n)
  | 0, _ => rfl
  | n + 1, hn => by
    obtain ⟨j, hj, ej⟩ := h n hn
    show potL τ x n + τ.2 2 (6 * x + n) = nI (potN τ x n + cl (τ.2 2 (6 * x + n)))
    rw [potL_N h n (by omega), ej, cl_nI (by omega), nI_add]
theorem flQ_up {τ : gS} {x g n : Nat} : flQ τ x g n ≤ flQ τ x g (n + 1) :=
  Nat.div_le_div_right (Nat.mul_le_mul_right _ (potN_up n (n + 1) (Nat.le_succ n)))
theorem flQ_le {τ : gS} {x g n : Nat} (hn : n ≤ 6) (h0 : 0 < potN τ x 6) : flQ τ x g n ≤ g := by
  refine Nat.div_le_of_le_mul ?_
  exact Nat.mul_le_mul_right _ (potN_up n 6 hn)
theorem flQ_in {τ : gS} {x g n k : Nat} (h0 : 0 < potN τ x 6) (h : (k + 1) * potN τ x 6 ≤ potN τ x n * g) : k + 1 ≤ flQ τ x g n :=
  (Nat.le_div_iff_mul_le h0).mpr h
theorem flQ_out {τ : gS} {x g n k : Nat} (h0 : 0 < potN τ x 6) (h : ¬ (k + 1) * potN τ x 6 ≤ potN τ x n * g) : flQ τ x g n ≤ k :=
  Nat.le_of_lt_succ ((Nat.div_lt_iff_lt_mul h0).mpr (Nat.lt_of_not_le h))
theorem i32_dec (x : Int32) : x + Int32.ofInt (-1) = x - 1 := by
  rw [Int32.sub_eq_add_neg]; rfl
theorem mul_lt31 {a b A B : Nat} (ha : a ≤ A) (hb : b ≤ B) (h : A * B < 2 ^ 31) : a * b < 2 ^ 31 := Nat.lt_of_le_of_lt (Nat.mul_le_mul ha hb) h
end
section
theorem dL_cell_0 : decode cL_cell 0 = .ok (.iload_n 1, 1) := by decide +kernel
theorem dL_cell_1 : decode cL_cell 1 = .ok (.aload_n 0, 1) := by decide +kernel
theorem dL_cell_2 : decode cL_cell 2 = .ok (.arraylength, 1) := by decide +kernel
theorem dL_cell_3 : decode cL_cell 3 = .ok (.if_icmp .ge 9, 3) := by decide +kernel
theorem dL_cell_6 : decode cL_cell 6 = .ok (.aload_n 0, 1) := by decide +kernel
theorem dL_cell_7 : decode cL_cell 7 = .ok (.iload_n 1, 1) := by decide +kernel
theorem dL_cell_8 : decode cL_cell 8 = .ok (.iaload, 1) := by decide +kernel
theorem dL_cell_9 : decode cL_cell 9 = .ok (.goto 13, 3) := by decide +kernel
theorem dL_cell_12 : decode cL_cell 12 = .ok (.ldc 7, 2) := by decide +kernel
theorem dL_cell_14 : decode cL_cell 14 = .ok (.iload_n 1, 1) := by decide +kernel
theorem dL_cell_15 : decode cL_cell 15 = .ok (.bipush 103, 2) := by decide +kernel
theorem dL_cell_17 : decode cL_cell 17 = .ok (.iadd, 1) := by decide +kernel
theorem dL_cell_18 : decode cL_cell 18 = .ok (.imul, 1) := by decide +kernel
theorem dL_cell_19 : decode cL_cell 19 = .ok (.ldc 8, 2) := by decide +kernel
theorem dL_cell_21 : decode cL_cell 21 = .ok (.iadd, 1) := by decide +kernel
theorem dL_cell_22 : decode cL_cell 22 = .ok (.ireturn, 1) := by decide +kernel
theorem dL_low_0 : decode cL_low 0 = .ok (.iload_n 0, 1) := by decide +kernel
theorem dL_low_1 : decode cL_low 1 = .ok (.ldc 9, 2) := by decide +kernel
theorem dL_low_3 : decode cL_low 3 = .ok (.iand, 1) := by decide +kernel
theorem dL_low_4 : decode cL_low 4 = .ok (.iload_n 1, 1) := by decide +kernel
theorem dL_low_5 : decode cL_low 5 = .ok (.irem, 1) := by decide +kernel
theorem dL_low_6 : decode cL_low 6 = .ok (.ireturn, 1) := by decide +kernel
theorem dL_at_0 : decode cL_at 0 = .ok (.iconst 3, 1) := by decide +kernel
theorem dL_at_1 : decode cL_at 1 = .ok (.iload_n 0, 1) := by decide +kernel
theorem dL_at_2 : decode cL_at 2 = .ok (.imul, 1) := by decide +kernel
theorem dL_at_3 : decode cL_at 3 = .ok (.iload_n 1, 1) := by decide +kernel
theorem dL_at_4 : decode cL_at 4 = .ok (.iadd, 1) := by decide +kernel
theorem dL_at_5 : decode cL_at 5 = .ok (.ireturn, 1) := by decide +kernel
theorem dL_grams_0 : decode cL_grams 0 = .ok (.iload_n 1, 1) := by decide +kernel
theorem dL_grams_1 : decode cL_grams 1 = .ok (.iconst 3, 1) := by decide +kernel
theorem dL_grams_2 : decode cL_grams 2 = .ok (.if_icmp .ge 9, 3) := by decide +kernel
theorem dL_grams_5 : decode cL_grams 5 = .ok (.aload_n 2, 1) := by decide +kernel
theorem dL_grams_6 : decode cL_grams 6 = .ok (.iload_n 0, 1) := by decide +kernel
theorem dL_grams_7 : decode cL_grams 7 = .ok (.iaload, 1) := by decide +kernel
theorem dL_grams_8 : decode cL_grams 8 = .ok (.goto 6, 3) := by decide +kernel
theorem dL_grams_11 : decode cL_grams 11 = .ok (.aload_n 3, 1) := by decide +kernel
theorem dL_grams_12 : decode cL_grams 12 = .ok (.iload_n 0, 1) := by decide +kernel
theorem dL_grams_13 : decode cL_grams 13 = .ok (.iaload, 1) := by decide +kernel
theorem dL_grams_14 : decode cL_grams 14 = .ok (.istore 4, 2) := by decide +kernel
theorem dL_grams_16 : decode cL_grams 16 = .ok (.iload 4, 2) := by decide +kernel
theorem dL_grams_18 : decode cL_grams 18 = .ok (.bipush 10, 2) := by decide +kernel
theorem dL_grams_20 : decode cL_grams 20 = .ok (.iload_n 1, 1) := by decide +kernel
theorem dL_grams_21 : decode cL_grams 21 = .ok (.iconst 3, 1) := by decide +kernel
theorem dL_grams_22 : decode cL_grams 22 = .ok (.irem, 1) := by decide +kernel
theorem dL_grams_23 : decode cL_grams 23 = .ok (.imul, 1) := by decide +kernel
theorem dL_grams_24 : decode cL_grams 24 = .ok (.ishr, 1) := by decide +kernel
theorem dL_grams_25 : decode cL_grams 25 = .ok (.sipush 1023, 3) := by decide +kernel
theorem dL_grams_28 : decode cL_grams 28 = .ok (.iand, 1) := by decide +kernel
theorem dL_grams_29 : decode cL_grams 29 = .ok (.ireturn, 1) := by decide +kernel
theorem dL_total_0 : decode cL_total 0 = .ok (.iconst 0, 1) := by decide +kernel
theorem dL_total_1 : decode cL_total 1 = .ok (.istore_n 2, 1) := by decide +kernel
theorem dL_total_2 : decode cL_total 2 = .ok (.iconst 0, 1) := by decide +kernel
theorem dL_total_3 : decode cL_total 3 = .ok (.istore_n 3, 1) := by decide +kernel
theorem dL_total_4 : decode cL_total 4 = .ok (.iload_n 3, 1) := by decide +kernel
theorem dL_total_5 : decode cL_total 5 = .ok (.bipush 6, 2) := by decide +kernel
theorem dL_total_7 : decode cL_total 7 = .ok (.if_icmp .ge 20, 3) := by decide +kernel
theorem dL_total_10 : decode cL_total 10 = .ok (.iload_n 2, 1) := by decide +kernel
theorem dL_total_11 : decode cL_total 11 = .ok (.aload_n 1, 1) := by decide +kernel
theorem dL_total_12 : decode cL_total 12 = .ok (.bipush 6, 2) := by decide +kernel
theorem dL_total_14 : decode cL_total 14 = .ok (.iload_n 0, 1) := by decide +kernel
theorem dL_total_15 : decode cL_total 15 = .ok (.imul, 1) := by decide +kernel
theorem dL_total_16 : decode cL_total 16 = .ok (.iload_n 3, 1) := by decide +kernel
theorem dL_total_17 : decode cL_total 17 = .ok (.iadd, 1) := by decide +kernel
theorem dL_total_18 : decode cL_total 18 = .ok (.iaload, 1) := by decide +kernel
theorem dL_total_19 : decode cL_total 19 = .ok (.iadd, 1) := by decide +kernel
theorem dL_total_20 : decode cL_total 20 = .ok (.istore_n 2, 1) := by decide +kernel
theorem dL_total_21 : decode cL_total 21 = .ok (.iinc 3 1, 3) := by decide +kernel
theorem dL_total_24 : decode cL_total 24 = .ok (.goto (-20), 3) := by decide +kernel
theorem dL_total_27 : decode cL_total 27 = .ok (.iload_n 2, 1) := by decide +kernel
theorem dL_total_28 : decode cL_total 28 = .ok (.ireturn, 1) := by decide +kernel
theorem dL_flows_0 : decode cL_flows 0 = .ok (.iload_n 0, 1) := by decide +kernel
theorem dL_flows_1 : decode cL_flows 1 = .ok (.aload_n 2, 1) := by decide +kernel
theorem dL_flows_2 : decode cL_flows 2 = .ok (.invokestatic 34, 3) := by decide +kernel
theorem dL_flows_5 : decode cL_flows 5 = .ok (.istore 4, 2) := by decide +kernel
theorem dL_flows_7 : decode cL_flows 7 = .ok (.iconst 0, 1) := by decide +kernel
theorem dL_flows_8 : decode cL_flows 8 = .ok (.istore 5, 2) := by decide +kernel
theorem dL_flows_10 : decode cL_flows 10 = .ok (.iconst 0, 1) := by decide +kernel
theorem dL_flows_11 : decode cL_flows 11 = .ok (.istore 6, 2) := by decide +kernel
theorem dL_flows_13 : decode cL_flows 13 = .ok (.iconst 0, 1) := by decide +kernel
theorem dL_flows_14 : decode cL_flows 14 = .ok (.istore 7, 2) := by decide +kernel
theorem dL_flows_16 : decode cL_flows 16 = .ok (.iload 7, 2) := by decide +kernel
theorem dL_flows_18 : decode cL_flows 18 = .ok (.bipush 6, 2) := by decide +kernel
theorem dL_flows_20 : decode cL_flows 20 = .ok (.if_icmp .ge 66, 3) := by decide +kernel
theorem dL_flows_23 : decode cL_flows 23 = .ok (.iload 5, 2) := by decide +kernel
theorem dL_flows_25 : decode cL_flows 25 = .ok (.aload_n 2, 1) := by decide +kernel
theorem dL_flows_26 : decode cL_flows 26 = .ok (.bipush 6, 2) := by decide +kernel
theorem dL_flows_28 : decode cL_flows 28 = .ok (.iload_n 0, 1) := by decide +kernel
theorem dL_flows_29 : decode cL_flows 29 = .ok (.imul, 1) := by decide +kernel
theorem dL_flows_30 : decode cL_flows 30 = .ok (.iload 7, 2) := by decide +kernel
theorem dL_flows_32 : decode cL_flows 32 = .ok (.iadd, 1) := by decide +kernel
theorem dL_flows_33 : decode cL_flows 33 = .ok (.iaload, 1) := by decide +kernel
theorem dL_flows_34 : decode cL_flows 34 = .ok (.iadd, 1) := by decide +kernel
theorem dL_flows_35 : decode cL_flows 35 = .ok (.istore 5, 2) := by decide +kernel
theorem dL_flows_37 : decode cL_flows 37 = .ok (.iload 6, 2) := by decide +kernel
theorem dL_flows_39 : decode cL_flows 39 = .ok (.istore 8, 2) := by decide +kernel
theorem dL_flows_41 : decode cL_flows 41 = .ok (.iload 8, 2) := by decide +kernel
theorem dL_flows_43 : decode cL_flows 43 = .ok (.iload_n 1, 1) := by decide +kernel
theorem dL_flows_44 : decode cL_flows 44 = .ok (.if_icmp .ge 23, 3) := by decide +kernel
theorem dL_flows_47 : decode cL_flows 47 = .ok (.iload 8, 2) := by decide +kernel
theorem dL_flows_49 : decode cL_flows 49 = .ok (.iconst 1, 1) := by decide +kernel
theorem dL_flows_50 : decode cL_flows 50 = .ok (.iadd, 1) := by decide +kernel
theorem dL_flows_51 : decode cL_flows 51 = .ok (.iload 4, 2) := by decide +kernel
theorem dL_flows_53 : decode cL_flows 53 = .ok (.imul, 1) := by decide +kernel
theorem dL_flows_54 : decode cL_flows 54 = .ok (.iload 5, 2) := by decide +kernel
theorem dL_flows_56 : decode cL_flows 56 = .ok (.iload_n 1, 1) := by decide +kernel
theorem dL_flows_57 : decode cL_flows 57 = .ok (.imul, 1) := by decide +kernel
theorem dL_flows_58 : decode cL_flows 58 = .ok (.if_icmp .gt 9, 3) := by decide +kernel
theorem dL_flows_61 : decode cL_flows 61 = .ok (.iinc 8 1, 3) := by decide +kernel
theorem dL_flows_64 : decode cL_flows 64 = .ok (.goto (-23), 3) := by decide +kernel
theorem dL_flows_67 : decode cL_flows 67 = .ok (.aload_n 3, 1) := by decide +kernel
theorem dL_flows_68 : decode cL_flows 68 = .ok (.iload 7, 2) := by decide +kernel
theorem dL_flows_70 : decode cL_flows 70 = .ok (.iload 8, 2) := by decide +kernel
theorem dL_flows_72 : decode cL_flows 72 = .ok (.iload 6, 2) := by decide +kernel
theorem dL_flows_74 : decode cL_flows 74 = .ok (.isub, 1) := by decide +kernel
theorem dL_flows_75 : decode cL_flows 75 = .ok (.iastore, 1) := by decide +kernel
theorem dL_flows_76 : decode cL_flows 76 = .ok (.iload 8, 2) := by decide +kernel
theorem dL_flows_78 : decode cL_flows 78 = .ok (.istore 6, 2) := by decide +kernel
theorem dL_flows_80 : decode cL_flows 80 = .ok (.iinc 7 1, 3) := by decide +kernel
theorem dL_flows_83 : decode cL_flows 83 = .ok (.goto (-67), 3) := by decide +kernel
theorem dL_flows_86 : decode cL_flows 86 = .ok (.iconst 0, 1) := by decide +kernel
theorem dL_flows_87 : decode cL_flows 87 = .ok (.istore 7, 2) := by decide +kernel
theorem dL_flows_89 : decode cL_flows 89 = .ok (.iload 7, 2) := by decide +kernel
theorem dL_flows_91 : decode cL_flows 91 = .ok (.bipush 6, 2) := by decide +kernel
theorem dL_flows_93 : decode cL_flows 93 = .ok (.if_icmp .ge 25, 3) := by decide +kernel
theorem dL_flows_96 : decode cL_flows 96 = .ok (.aload_n 2, 1) := by decide +kernel
theorem dL_flows_97 : decode cL_flows 97 = .ok (.bipush 6, 2) := by decide +kernel
theorem dL_flows_99 : decode cL_flows 99 = .ok (.iload_n 0, 1) := by decide +kernel
theorem dL_flows_100 : decode cL_flows 100 = .ok (.imul, 1) := by decide +kernel
theorem dL_flows_101 : decode cL_flows 101 = .ok (.iload 7, 2) := by decide +kernel
theorem dL_flows_103 : decode cL_flows 103 = .ok (.iadd, 1) := by decide +kernel
theorem dL_flows_104 : decode cL_flows 104 = .ok (.dup2, 1) := by decide +kernel
theorem dL_flows_105 : decode cL_flows 105 = .ok (.iaload, 1) := by decide +kernel
theorem dL_flows_106 : decode cL_flows 106 = .ok (.aload_n 3, 1) := by decide +kernel
theorem dL_flows_107 : decode cL_flows 107 = .ok (.iload 7, 2) := by decide +kernel
theorem dL_flows_109 : decode cL_flows 109 = .ok (.iaload, 1) := by decide +kernel
theorem dL_flows_110 : decode cL_flows 110 = .ok (.isub, 1) := by decide +kernel
theorem dL_flows_111 : decode cL_flows 111 = .ok (.iastore, 1) := by decide +kernel
theorem dL_flows_112 : decode cL_flows 112 = .ok (.iinc 7 1, 3) := by decide +kernel
theorem dL_flows_115 : decode cL_flows 115 = .ok (.goto (-26), 3) := by decide +kernel
theorem dL_flows_118 : decode cL_flows 118 = .ok (.return_, 1) := by decide +kernel
theorem dL_main_0 : decode cL_main 0 = .ok (.iconst (-1), 1) := by decide +kernel
theorem dL_main_1 : decode cL_main 1 = .ok (.istore 5, 2) := by decide +kernel
theorem dL_main_3 : decode cL_main 3 = .ok (.iconst 0, 1) := by decide +kernel
theorem dL_main_4 : decode cL_main 4 = .ok (.istore 6, 2) := by decide +kernel
theorem dL_main_6 : decode cL_main 6 = .ok (.iconst 0, 1) := by decide +kernel
theorem dL_main_7 : decode cL_main 7 = .ok (.istore 7, 2) := by decide +kernel
theorem dL_main_9 : decode cL_main 9 = .ok (.iload 7, 2) := by decide +kernel
theorem dL_main_11 : decode cL_main 11 = .ok (.iconst 4, 1) := by decide +kernel
theorem dL_main_12 : decode cL_main 12 = .ok (.if_icmp .ge 110, 3) := by decide +kernel
theorem dL_main_15 : decode cL_main 15 = .ok (.aload 4, 2) := by decide +kernel
theorem dL_main_17 : decode cL_main 17 = .ok (.bipush 7, 2) := by decide +kernel
theorem dL_main_19 : decode cL_main 19 = .ok (.iload_n 0, 1) := by decide +kernel
theorem dL_main_20 : decode cL_main 20 = .ok (.imul, 1) := by decide +kernel
theorem dL_main_21 : decode cL_main 21 = .ok (.iaload, 1) := by decide +kernel
theorem dL_main_22 : decode cL_main 22 = .ok (.ifCond .le 100, 3) := by decide +kernel
theorem dL_main_25 : decode cL_main 25 = .ok (.iconst 0, 1) := by decide +kernel
theorem dL_main_26 : decode cL_main 26 = .ok (.istore 8, 2) := by decide +kernel
theorem dL_main_28 : decode cL_main 28 = .ok (.iconst 0, 1) := by decide +kernel
theorem dL_main_29 : decode cL_main 29 = .ok (.istore 9, 2) := by decide +kernel
theorem dL_main_31 : decode cL_main 31 = .ok (.iload 9, 2) := by decide +kernel
theorem dL_main_33 : decode cL_main 33 = .ok (.bipush 6, 2) := by decide +kernel
theorem dL_main_35 : decode cL_main 35 = .ok (.if_icmp .ge 49, 3) := by decide +kernel
theorem dL_main_38 : decode cL_main 38 = .ok (.iload 8, 2) := by decide +kernel
theorem dL_main_40 : decode cL_main 40 = .ok (.aload_n 1, 1) := by decide +kernel
theorem dL_main_41 : decode cL_main 41 = .ok (.iconst 3, 1) := by decide +kernel
theorem dL_main_42 : decode cL_main 42 = .ok (.iload 9, 2) := by decide +kernel
theorem dL_main_44 : decode cL_main 44 = .ok (.imul, 1) := by decide +kernel
theorem dL_main_45 : decode cL_main 45 = .ok (.iaload, 1) := by decide +kernel
theorem dL_main_46 : decode cL_main 46 = .ok (.iload 7, 2) := by decide +kernel
theorem dL_main_48 : decode cL_main 48 = .ok (.if_icmp .ne 26, 3) := by decide +kernel
theorem dL_main_51 : decode cL_main 51 = .ok (.iload_n 0, 1) := by decide +kernel
theorem dL_main_52 : decode cL_main 52 = .ok (.aload 4, 2) := by decide +kernel
theorem dL_main_54 : decode cL_main 54 = .ok (.bipush 7, 2) := by decide +kernel
theorem dL_main_56 : decode cL_main 56 = .ok (.iload_n 0, 1) := by decide +kernel
theorem dL_main_57 : decode cL_main 57 = .ok (.imul, 1) := by decide +kernel
theorem dL_main_58 : decode cL_main 58 = .ok (.iaload, 1) := by decide +kernel
theorem dL_main_59 : decode cL_main 59 = .ok (.iconst 1, 1) := by decide +kernel
theorem dL_main_60 : decode cL_main 60 = .ok (.isub, 1) := by decide +kernel
theorem dL_main_61 : decode cL_main 61 = .ok (.invokestatic 40, 3) := by decide +kernel
theorem dL_main_64 : decode cL_main 64 = .ok (.iload 9, 2) := by decide +kernel
theorem dL_main_66 : decode cL_main 66 = .ok (.aload_n 2, 1) := by decide +kernel
theorem dL_main_67 : decode cL_main 67 = .ok (.aload_n 3, 1) := by decide +kernel
theorem dL_main_68 : decode cL_main 68 = .ok (.invokestatic 43, 3) := by decide +kernel
theorem dL_main_71 : decode cL_main 71 = .ok (.goto 4, 3) := by decide +kernel
theorem dL_main_74 : decode cL_main 74 = .ok (.iconst 0, 1) := by decide +kernel
theorem dL_main_75 : decode cL_main 75 = .ok (.iadd, 1) := by decide +kernel
theorem dL_main_76 : decode cL_main 76 = .ok (.istore 8, 2) := by decide +kernel
theorem dL_main_78 : decode cL_main 78 = .ok (.iinc 9 1, 3) := by decide +kernel
theorem dL_main_81 : decode cL_main 81 = .ok (.goto (-50), 3) := by decide +kernel
theorem dL_main_84 : decode cL_main 84 = .ok (.iload 8, 2) := by decide +kernel
theorem dL_main_86 : decode cL_main 86 = .ok (.iload 6, 2) := by decide +kernel
theorem dL_main_88 : decode cL_main 88 = .ok (.if_icmp .le 8, 3) := by decide +kernel
theorem dL_main_91 : decode cL_main 91 = .ok (.iload 7, 2) := by decide +kernel
theorem dL_main_93 : decode cL_main 93 = .ok (.goto 5, 3) := by decide +kernel
theorem dL_main_96 : decode cL_main 96 = .ok (.iload 5, 2) := by decide +kernel
theorem dL_main_98 : decode cL_main 98 = .ok (.istore 5, 2) := by decide +kernel
theorem dL_main_100 : decode cL_main 100 = .ok (.iload 8, 2) := by decide +kernel
theorem dL_main_102 : decode cL_main 102 = .ok (.iload 6, 2) := by decide +kernel
theorem dL_main_104 : decode cL_main 104 = .ok (.if_icmp .le 8, 3) := by decide +kernel
theorem dL_main_107 : decode cL_main 107 = .ok (.iload 8, 2) := by decide +kernel
theorem dL_main_109 : decode cL_main 109 = .ok (.goto 5, 3) := by decide +kernel
theorem dL_main_112 : decode cL_main 112 = .ok (.iload 6, 2) := by decide +kernel
theorem dL_main_114 : decode cL_main 114 = .ok (.istore 6, 2) := by decide +kernel
theorem dL_main_116 : decode cL_main 116 = .ok (.iinc 7 1, 3) := by decide +kernel
theorem dL_main_119 : decode cL_main 119 = .ok (.goto (-110), 3) := by decide +kernel
theorem dL_main_122 : decode cL_main 122 = .ok (.iload 5, 2) := by decide +kernel
theorem dL_main_124 : decode cL_main 124 = .ok (.ireturn, 1) := by decide +kernel
theorem dL_value_0 : decode cL_value 0 = .ok (.iload_n 0, 1) := by decide +kernel
theorem dL_value_1 : decode cL_value 1 = .ok (.aload_n 1, 1) := by decide +kernel
theorem dL_value_2 : decode cL_value 2 = .ok (.aload_n 2, 1) := by decide +kernel
theorem dL_value_3 : decode cL_value 3 = .ok (.aload_n 3, 1) := by decide +kernel
theorem dL_value_4 : decode cL_value 4 = .ok (.aload 4, 2) := by decide +kernel
theorem dL_value_6 : decode cL_value 6 = .ok (.invokestatic 47, 3) := by decide +kernel
theorem dL_value_9 : decode cL_value 9 = .ok (.istore 5, 2) := by decide +kernel
theorem dL_value_11 : decode cL_value 11 = .ok (.iconst 0, 1) := by decide +kernel
theorem dL_value_12 : decode cL_value 12 = .ok (.istore 6, 2) := by decide +kernel
theorem dL_value_14 : decode cL_value 14 = .ok (.iconst 0, 1) := by decide +kernel
theorem dL_value_15 : decode cL_value 15 = .ok (.istore 7, 2) := by decide +kernel
theorem dL_value_17 : decode cL_value 17 = .ok (.iconst 0, 1) := by decide +kernel
theorem dL_value_18 : decode cL_value 18 = .ok (.istore 8, 2) := by decide +kernel
theorem dL_value_20 : decode cL_value 20 = .ok (.iload 8, 2) := by decide +kernel
theorem dL_value_22 : decode cL_value 22 = .ok (.iconst 4, 1) := by decide +kernel
theorem dL_value_23 : decode cL_value 23 = .ok (.if_icmp .ge 88, 3) := by decide +kernel
theorem dL_value_26 : decode cL_value 26 = .ok (.iload 5, 2) := by decide +kernel
theorem dL_value_28 : decode cL_value 28 = .ok (.ifCond .lt 35, 3) := by decide +kernel
theorem dL_value_31 : decode cL_value 31 = .ok (.aload 4, 2) := by decide +kernel
theorem dL_value_33 : decode cL_value 33 = .ok (.bipush 7, 2) := by decide +kernel
theorem dL_value_35 : decode cL_value 35 = .ok (.iload 8, 2) := by decide +kernel
theorem dL_value_37 : decode cL_value 37 = .ok (.imul, 1) := by decide +kernel
theorem dL_value_38 : decode cL_value 38 = .ok (.iconst 2, 1) := by decide +kernel
theorem dL_value_39 : decode cL_value 39 = .ok (.iadd, 1) := by decide +kernel
theorem dL_value_40 : decode cL_value 40 = .ok (.iaload, 1) := by decide +kernel
theorem dL_value_41 : decode cL_value 41 = .ok (.ifCond .le 22, 3) := by decide +kernel
theorem dL_value_44 : decode cL_value 44 = .ok (.iload 8, 2) := by decide +kernel
theorem dL_value_46 : decode cL_value 46 = .ok (.aload_n 1, 1) := by decide +kernel
theorem dL_value_47 : decode cL_value 47 = .ok (.aload_n 2, 1) := by decide +kernel
theorem dL_value_48 : decode cL_value 48 = .ok (.aload_n 3, 1) := by decide +kernel
theorem dL_value_49 : decode cL_value 49 = .ok (.aload 4, 2) := by decide +kernel
theorem dL_value_51 : decode cL_value 51 = .ok (.invokestatic 47, 3) := by decide +kernel
theorem dL_value_54 : decode cL_value 54 = .ok (.iload 5, 2) := by decide +kernel
theorem dL_value_56 : decode cL_value 56 = .ok (.if_icmp .ne 7, 3) := by decide +kernel
theorem dL_value_59 : decode cL_value 59 = .ok (.iconst 1, 1) := by decide +kernel
theorem dL_value_60 : decode cL_value 60 = .ok (.goto 4, 3) := by decide +kernel
theorem dL_value_63 : decode cL_value 63 = .ok (.iconst 0, 1) := by decide +kernel
theorem dL_value_64 : decode cL_value 64 = .ok (.istore 9, 2) := by decide +kernel
theorem dL_value_66 : decode cL_value 66 = .ok (.iload 6, 2) := by decide +kernel
theorem dL_value_68 : decode cL_value 68 = .ok (.iload 9, 2) := by decide +kernel
theorem dL_value_70 : decode cL_value 70 = .ok (.ifCond .eq 16, 3) := by decide +kernel
theorem dL_value_73 : decode cL_value 73 = .ok (.aload 4, 2) := by decide +kernel
theorem dL_value_75 : decode cL_value 75 = .ok (.bipush 7, 2) := by decide +kernel
theorem dL_value_77 : decode cL_value 77 = .ok (.iload 8, 2) := by decide +kernel
theorem dL_value_79 : decode cL_value 79 = .ok (.imul, 1) := by decide +kernel
theorem dL_value_80 : decode cL_value 80 = .ok (.iconst 2, 1) := by decide +kernel
theorem dL_value_81 : decode cL_value 81 = .ok (.iadd, 1) := by decide +kernel
theorem dL_value_82 : decode cL_value 82 = .ok (.iaload, 1) := by decide +kernel
theorem dL_value_83 : decode cL_value 83 = .ok (.goto 4, 3) := by decide +kernel
theorem dL_value_86 : decode cL_value 86 = .ok (.iconst 0, 1) := by decide +kernel
theorem dL_value_87 : decode cL_value 87 = .ok (.iadd, 1) := by decide +kernel
theorem dL_value_88 : decode cL_value 88 = .ok (.istore 6, 2) := by decide +kernel
theorem dL_value_90 : decode cL_value 90 = .ok (.iload 7, 2) := by decide +kernel
theorem dL_value_92 : decode cL_value 92 = .ok (.iload 9, 2) := by decide +kernel
theorem dL_value_94 : decode cL_value 94 = .ok (.ifCond .eq 7, 3) := by decide +kernel
theorem dL_value_97 : decode cL_value 97 = .ok (.iconst 1, 1) := by decide +kernel
theorem dL_value_98 : decode cL_value 98 = .ok (.goto 4, 3) := by decide +kernel
theorem dL_value_101 : decode cL_value 101 = .ok (.iconst 0, 1) := by decide +kernel
theorem dL_value_102 : decode cL_value 102 = .ok (.iadd, 1) := by decide +kernel
theorem dL_value_103 : decode cL_value 103 = .ok (.istore 7, 2) := by decide +kernel
theorem dL_value_105 : decode cL_value 105 = .ok (.iinc 8 1, 3) := by decide +kernel
theorem dL_value_108 : decode cL_value 108 = .ok (.goto (-88), 3) := by decide +kernel
theorem dL_value_111 : decode cL_value 111 = .ok (.iload 7, 2) := by decide +kernel
theorem dL_value_113 : decode cL_value 113 = .ok (.ifCond .ne 7, 3) := by decide +kernel
theorem dL_value_116 : decode cL_value 116 = .ok (.iconst 0, 1) := by decide +kernel
theorem dL_value_117 : decode cL_value 117 = .ok (.goto 8, 3) := by decide +kernel
theorem dL_value_120 : decode cL_value 120 = .ok (.iload 6, 2) := by decide +kernel
theorem dL_value_122 : decode cL_value 122 = .ok (.iload 7, 2) := by decide +kernel
theorem dL_value_124 : decode cL_value 124 = .ok (.idiv, 1) := by decide +kernel
theorem dL_value_125 : decode cL_value 125 = .ok (.istore 8, 2) := by decide +kernel
theorem dL_value_127 : decode cL_value 127 = .ok (.iload 8, 2) := by decide +kernel
theorem dL_value_129 : decode cL_value 129 = .ok (.bipush 20, 2) := by decide +kernel
theorem dL_value_131 : decode cL_value 131 = .ok (.idiv, 1) := by decide +kernel
theorem dL_value_132 : decode cL_value 132 = .ok (.istore 9, 2) := by decide +kernel
theorem dL_value_134 : decode cL_value 134 = .ok (.iconst 0, 1) := by decide +kernel
theorem dL_value_135 : decode cL_value 135 = .ok (.istore 10, 2) := by decide +kernel
theorem dL_value_137 : decode cL_value 137 = .ok (.iload 10, 2) := by decide +kernel
theorem dL_value_139 : decode cL_value 139 = .ok (.aload 4, 2) := by decide +kernel
theorem dL_value_141 : decode cL_value 141 = .ok (.bipush 7, 2) := by decide +kernel
theorem dL_value_143 : decode cL_value 143 = .ok (.iload_n 0, 1) := by decide +kernel
theorem dL_value_144 : decode cL_value 144 = .ok (.imul, 1) := by decide +kernel
theorem dL_value_145 : decode cL_value 145 = .ok (.iconst 1, 1) := by decide +kernel
theorem dL_value_146 : decode cL_value 146 = .ok (.iadd, 1) := by decide +kernel
theorem dL_value_147 : decode cL_value 147 = .ok (.iaload, 1) := by decide +kernel
theorem dL_value_148 : decode cL_value 148 = .ok (.if_icmp .ge 21, 3) := by decide +kernel
theorem dL_value_151 : decode cL_value 151 = .ok (.iload 8, 2) := by decide +kernel
theorem dL_value_153 : decode cL_value 153 = .ok (.ifCond .le 16, 3) := by decide +kernel
theorem dL_value_156 : decode cL_value 156 = .ok (.iload 8, 2) := by decide +kernel
theorem dL_value_158 : decode cL_value 158 = .ok (.iload 9, 2) := by decide +kernel
theorem dL_value_160 : decode cL_value 160 = .ok (.isub, 1) := by decide +kernel
theorem dL_value_161 : decode cL_value 161 = .ok (.istore 8, 2) := by decide +kernel
theorem dL_value_163 : decode cL_value 163 = .ok (.iinc 10 1, 3) := by decide +kernel
theorem dL_value_166 : decode cL_value 166 = .ok (.goto (-29), 3) := by decide +kernel
theorem dL_value_169 : decode cL_value 169 = .ok (.iload 8, 2) := by decide +kernel
theorem dL_value_171 : decode cL_value 171 = .ok (.ifCond .ge 7, 3) := by decide +kernel
theorem dL_value_174 : decode cL_value 174 = .ok (.iconst 0, 1) := by decide +kernel
theorem dL_value_175 : decode cL_value 175 = .ok (.goto 5, 3) := by decide +kernel
theorem dL_value_178 : decode cL_value 178 = .ok (.iload 8, 2) := by decide +kernel
theorem dL_value_180 : decode cL_value 180 = .ok (.ireturn, 1) := by decide +kernel
theorem dL_shade_0 : decode cL_shade 0 = .ok (.iload_n 1, 1) := by decide +kernel
theorem dL_shade_1 : decode cL_shade 1 = .ok (.ifCond .ne 7, 3) := by decide +kernel
theorem dL_shade_4 : decode cL_shade 4 = .ok (.iconst (-1), 1) := by decide +kernel
theorem dL_shade_5 : decode cL_shade 5 = .ok (.goto 6, 3) := by decide +kernel
theorem dL_shade_8 : decode cL_shade 8 = .ok (.iload_n 0, 1) := by decide +kernel
theorem dL_shade_9 : decode cL_shade 9 = .ok (.iload_n 1, 1) := by decide +kernel
theorem dL_shade_10 : decode cL_shade 10 = .ok (.idiv, 1) := by decide +kernel
theorem dL_shade_11 : decode cL_shade 11 = .ok (.ireturn, 1) := by decide +kernel
theorem dL_recipe_0 : decode cL_recipe 0 = .ok (.iconst (-1), 1) := by decide +kernel
theorem dL_recipe_1 : decode cL_recipe 1 = .ok (.istore 5, 2) := by decide +kernel
theorem dL_recipe_3 : decode cL_recipe 3 = .ok (.ldc 9, 2) := by decide +kernel
theorem dL_recipe_5 : decode cL_recipe 5 = .ok (.istore 6, 2) := by decide +kernel
theorem dL_recipe_7 : decode cL_recipe 7 = .ok (.iconst 5, 1) := by decide +kernel
theorem dL_recipe_8 : decode cL_recipe 8 = .ok (.istore 7, 2) := by decide +kernel
theorem dL_recipe_10 : decode cL_recipe 10 = .ok (.iload 7, 2) := by decide +kernel
theorem dL_recipe_12 : decode cL_recipe 12 = .ok (.ifCond .lt 209, 3) := by decide +kernel
theorem dL_recipe_15 : decode cL_recipe 15 = .ok (.iconst 5, 1) := by decide +kernel
theorem dL_recipe_16 : decode cL_recipe 16 = .ok (.istore 8, 2) := by decide +kernel
theorem dL_recipe_18 : decode cL_recipe 18 = .ok (.iload 8, 2) := by decide +kernel
theorem dL_recipe_20 : decode cL_recipe 20 = .ok (.iload 7, 2) := by decide +kernel
theorem dL_recipe_22 : decode cL_recipe 22 = .ok (.if_icmp .lt 193, 3) := by decide +kernel
theorem dL_recipe_25 : decode cL_recipe 25 = .ok (.iconst 4, 1) := by decide +kernel
theorem dL_recipe_26 : decode cL_recipe 26 = .ok (.istore 9, 2) := by decide +kernel
theorem dL_recipe_28 : decode cL_recipe 28 = .ok (.iload 9, 2) := by decide +kernel
theorem dL_recipe_30 : decode cL_recipe 30 = .ok (.ifCond .lt 179, 3) := by decide +kernel
theorem dL_recipe_33 : decode cL_recipe 33 = .ok (.iconst 3, 1) := by decide +kernel
theorem dL_recipe_34 : decode cL_recipe 34 = .ok (.aload 4, 2) := by decide +kernel
theorem dL_recipe_36 : decode cL_recipe 36 = .ok (.iconst 3, 1) := by decide +kernel
theorem dL_recipe_37 : decode cL_recipe 37 = .ok (.iload 7, 2) := by decide +kernel
theorem dL_recipe_39 : decode cL_recipe 39 = .ok (.imul, 1) := by decide +kernel
theorem dL_recipe_40 : decode cL_recipe 40 = .ok (.iaload, 1) := by decide +kernel
theorem dL_recipe_41 : decode cL_recipe 41 = .ok (.imul, 1) := by decide +kernel
theorem dL_recipe_42 : decode cL_recipe 42 = .ok (.istore 10, 2) := by decide +kernel
theorem dL_recipe_44 : decode cL_recipe 44 = .ok (.iconst 3, 1) := by decide +kernel
theorem dL_recipe_45 : decode cL_recipe 45 = .ok (.aload 4, 2) := by decide +kernel
theorem dL_recipe_47 : decode cL_recipe 47 = .ok (.iconst 3, 1) := by decide +kernel
theorem dL_recipe_48 : decode cL_recipe 48 = .ok (.iload 8, 2) := by decide +kernel
theorem dL_recipe_50 : decode cL_recipe 50 = .ok (.imul, 1) := by decide +kernel
theorem dL_recipe_51 : decode cL_recipe 51 = .ok (.iaload, 1) := by decide +kernel
theorem dL_recipe_52 : decode cL_recipe 52 = .ok (.imul, 1) := by decide +kernel
theorem dL_recipe_53 : decode cL_recipe 53 = .ok (.istore 11, 2) := by decide +kernel
theorem dL_recipe_55 : decode cL_recipe 55 = .ok (.iload 9, 2) := by decide +kernel
theorem dL_recipe_57 : decode cL_recipe 57 = .ok (.aload_n 3, 1) := by decide +kernel
theorem dL_recipe_58 : decode cL_recipe 58 = .ok (.iload 10, 2) := by decide +kernel
theorem dL_recipe_60 : decode cL_recipe 60 = .ok (.iaload, 1) := by decide +kernel
theorem dL_recipe_61 : decode cL_recipe 61 = .ok (.imul, 1) := by decide +kernel
theorem dL_recipe_62 : decode cL_recipe 62 = .ok (.iconst 4, 1) := by decide +kernel
theorem dL_recipe_63 : decode cL_recipe 63 = .ok (.iload 9, 2) := by decide +kernel
theorem dL_recipe_65 : decode cL_recipe 65 = .ok (.isub, 1) := by decide +kernel
theorem dL_recipe_66 : decode cL_recipe 66 = .ok (.aload_n 3, 1) := by decide +kernel
theorem dL_recipe_67 : decode cL_recipe 67 = .ok (.iload 11, 2) := by decide +kernel
theorem dL_recipe_69 : decode cL_recipe 69 = .ok (.iaload, 1) := by decide +kernel
theorem dL_recipe_70 : decode cL_recipe 70 = .ok (.imul, 1) := by decide +kernel
theorem dL_recipe_71 : decode cL_recipe 71 = .ok (.iadd, 1) := by decide +kernel
theorem dL_recipe_72 : decode cL_recipe 72 = .ok (.iconst 4, 1) := by decide +kernel
theorem dL_recipe_73 : decode cL_recipe 73 = .ok (.idiv, 1) := by decide +kernel
theorem dL_recipe_74 : decode cL_recipe 74 = .ok (.iload_n 0, 1) := by decide +kernel
theorem dL_recipe_75 : decode cL_recipe 75 = .ok (.isub, 1) := by decide +kernel
theorem dL_recipe_76 : decode cL_recipe 76 = .ok (.istore 12, 2) := by decide +kernel
theorem dL_recipe_78 : decode cL_recipe 78 = .ok (.iload 9, 2) := by decide +kernel
theorem dL_recipe_80 : decode cL_recipe 80 = .ok (.aload_n 3, 1) := by decide +kernel
theorem dL_recipe_81 : decode cL_recipe 81 = .ok (.iload 10, 2) := by decide +kernel
theorem dL_recipe_83 : decode cL_recipe 83 = .ok (.iconst 1, 1) := by decide +kernel
theorem dL_recipe_84 : decode cL_recipe 84 = .ok (.iadd, 1) := by decide +kernel
theorem dL_recipe_85 : decode cL_recipe 85 = .ok (.iaload, 1) := by decide +kernel
theorem dL_recipe_86 : decode cL_recipe 86 = .ok (.imul, 1) := by decide +kernel
theorem dL_recipe_87 : decode cL_recipe 87 = .ok (.iconst 4, 1) := by decide +kernel
theorem dL_recipe_88 : decode cL_recipe 88 = .ok (.iload 9, 2) := by decide +kernel
theorem dL_recipe_90 : decode cL_recipe 90 = .ok (.isub, 1) := by decide +kernel
theorem dL_recipe_91 : decode cL_recipe 91 = .ok (.aload_n 3, 1) := by decide +kernel
theorem dL_recipe_92 : decode cL_recipe 92 = .ok (.iload 11, 2) := by decide +kernel
theorem dL_recipe_94 : decode cL_recipe 94 = .ok (.iconst 1, 1) := by decide +kernel
theorem dL_recipe_95 : decode cL_recipe 95 = .ok (.iadd, 1) := by decide +kernel
theorem dL_recipe_96 : decode cL_recipe 96 = .ok (.iaload, 1) := by decide +kernel
theorem dL_recipe_97 : decode cL_recipe 97 = .ok (.imul, 1) := by decide +kernel
theorem dL_recipe_98 : decode cL_recipe 98 = .ok (.iadd, 1) := by decide +kernel
theorem dL_recipe_99 : decode cL_recipe 99 = .ok (.iconst 4, 1) := by decide +kernel
theorem dL_recipe_100 : decode cL_recipe 100 = .ok (.idiv, 1) := by decide +kernel
theorem dL_recipe_101 : decode cL_recipe 101 = .ok (.iload_n 1, 1) := by decide +kernel
theorem dL_recipe_102 : decode cL_recipe 102 = .ok (.isub, 1) := by decide +kernel
theorem dL_recipe_103 : decode cL_recipe 103 = .ok (.istore 13, 2) := by decide +kernel
theorem dL_recipe_105 : decode cL_recipe 105 = .ok (.iload 9, 2) := by decide +kernel
theorem dL_recipe_107 : decode cL_recipe 107 = .ok (.aload_n 3, 1) := by decide +kernel
theorem dL_recipe_108 : decode cL_recipe 108 = .ok (.iload 10, 2) := by decide +kernel
theorem dL_recipe_110 : decode cL_recipe 110 = .ok (.iconst 2, 1) := by decide +kernel
theorem dL_recipe_111 : decode cL_recipe 111 = .ok (.iadd, 1) := by decide +kernel
theorem dL_recipe_112 : decode cL_recipe 112 = .ok (.iaload, 1) := by decide +kernel
theorem dL_recipe_113 : decode cL_recipe 113 = .ok (.imul, 1) := by decide +kernel
theorem dL_recipe_114 : decode cL_recipe 114 = .ok (.iconst 4, 1) := by decide +kernel
theorem dL_recipe_115 : decode cL_recipe 115 = .ok (.iload 9, 2) := by decide +kernel
theorem dL_recipe_117 : decode cL_recipe 117 = .ok (.isub, 1) := by decide +kernel
theorem dL_recipe_118 : decode cL_recipe 118 = .ok (.aload_n 3, 1) := by decide +kernel
theorem dL_recipe_119 : decode cL_recipe 119 = .ok (.iload 11, 2) := by decide +kernel
theorem dL_recipe_121 : decode cL_recipe 121 = .ok (.iconst 2, 1) := by decide +kernel
theorem dL_recipe_122 : decode cL_recipe 122 = .ok (.iadd, 1) := by decide +kernel
theorem dL_recipe_123 : decode cL_recipe 123 = .ok (.iaload, 1) := by decide +kernel
theorem dL_recipe_124 : decode cL_recipe 124 = .ok (.imul, 1) := by decide +kernel
theorem dL_recipe_125 : decode cL_recipe 125 = .ok (.iadd, 1) := by decide +kernel
theorem dL_recipe_126 : decode cL_recipe 126 = .ok (.iconst 4, 1) := by decide +kernel
theorem dL_recipe_127 : decode cL_recipe 127 = .ok (.idiv, 1) := by decide +kernel
theorem dL_recipe_128 : decode cL_recipe 128 = .ok (.iload_n 2, 1) := by decide +kernel
theorem dL_recipe_129 : decode cL_recipe 129 = .ok (.isub, 1) := by decide +kernel
theorem dL_recipe_130 : decode cL_recipe 130 = .ok (.istore 14, 2) := by decide +kernel
theorem dL_recipe_132 : decode cL_recipe 132 = .ok (.iload 12, 2) := by decide +kernel
theorem dL_recipe_134 : decode cL_recipe 134 = .ok (.iload 12, 2) := by decide +kernel
theorem dL_recipe_136 : decode cL_recipe 136 = .ok (.imul, 1) := by decide +kernel
theorem dL_recipe_137 : decode cL_recipe 137 = .ok (.iload 13, 2) := by decide +kernel
theorem dL_recipe_139 : decode cL_recipe 139 = .ok (.iload 13, 2) := by decide +kernel
theorem dL_recipe_141 : decode cL_recipe 141 = .ok (.imul, 1) := by decide +kernel
theorem dL_recipe_142 : decode cL_recipe 142 = .ok (.iadd, 1) := by decide +kernel
theorem dL_recipe_143 : decode cL_recipe 143 = .ok (.iload 14, 2) := by decide +kernel
theorem dL_recipe_145 : decode cL_recipe 145 = .ok (.iload 14, 2) := by decide +kernel
theorem dL_recipe_147 : decode cL_recipe 147 = .ok (.imul, 1) := by decide +kernel
theorem dL_recipe_148 : decode cL_recipe 148 = .ok (.iadd, 1) := by decide +kernel
theorem dL_recipe_149 : decode cL_recipe 149 = .ok (.istore 15, 2) := by decide +kernel
theorem dL_recipe_151 : decode cL_recipe 151 = .ok (.aload 4, 2) := by decide +kernel
theorem dL_recipe_153 : decode cL_recipe 153 = .ok (.iconst 3, 1) := by decide +kernel
theorem dL_recipe_154 : decode cL_recipe 154 = .ok (.iload 7, 2) := by decide +kernel
theorem dL_recipe_156 : decode cL_recipe 156 = .ok (.imul, 1) := by decide +kernel
theorem dL_recipe_157 : decode cL_recipe 157 = .ok (.iconst 1, 1) := by decide +kernel
theorem dL_recipe_158 : decode cL_recipe 158 = .ok (.iadd, 1) := by decide +kernel
theorem dL_recipe_159 : decode cL_recipe 159 = .ok (.iaload, 1) := by decide +kernel
theorem dL_recipe_160 : decode cL_recipe 160 = .ok (.ifCond .le 43, 3) := by decide +kernel
theorem dL_recipe_163 : decode cL_recipe 163 = .ok (.aload 4, 2) := by decide +kernel
theorem dL_recipe_165 : decode cL_recipe 165 = .ok (.iconst 3, 1) := by decide +kernel
theorem dL_recipe_166 : decode cL_recipe 166 = .ok (.iload 8, 2) := by decide +kernel
theorem dL_recipe_168 : decode cL_recipe 168 = .ok (.imul, 1) := by decide +kernel
theorem dL_recipe_169 : decode cL_recipe 169 = .ok (.iconst 1, 1) := by decide +kernel
theorem dL_recipe_170 : decode cL_recipe 170 = .ok (.iadd, 1) := by decide +kernel
theorem dL_recipe_171 : decode cL_recipe 171 = .ok (.iaload, 1) := by decide +kernel
theorem dL_recipe_172 : decode cL_recipe 172 = .ok (.ifCond .le 31, 3) := by decide +kernel
theorem dL_recipe_175 : decode cL_recipe 175 = .ok (.iload 15, 2) := by decide +kernel
theorem dL_recipe_177 : decode cL_recipe 177 = .ok (.iload 6, 2) := by decide +kernel
theorem dL_recipe_179 : decode cL_recipe 179 = .ok (.if_icmp .gt 24, 3) := by decide +kernel
theorem dL_recipe_182 : decode cL_recipe 182 = .ok (.iload 15, 2) := by decide +kernel
theorem dL_recipe_184 : decode cL_recipe 184 = .ok (.istore 6, 2) := by decide +kernel
theorem dL_recipe_186 : decode cL_recipe 186 = .ok (.sipush 1000, 3) := by decide +kernel
theorem dL_recipe_189 : decode cL_recipe 189 = .ok (.iload 7, 2) := by decide +kernel
theorem dL_recipe_191 : decode cL_recipe 191 = .ok (.imul, 1) := by decide +kernel
theorem dL_recipe_192 : decode cL_recipe 192 = .ok (.bipush 10, 2) := by decide +kernel
theorem dL_recipe_194 : decode cL_recipe 194 = .ok (.iload 8, 2) := by decide +kernel
theorem dL_recipe_196 : decode cL_recipe 196 = .ok (.imul, 1) := by decide +kernel
theorem dL_recipe_197 : decode cL_recipe 197 = .ok (.iadd, 1) := by decide +kernel
theorem dL_recipe_198 : decode cL_recipe 198 = .ok (.iload 9, 2) := by decide +kernel
theorem dL_recipe_200 : decode cL_recipe 200 = .ok (.iadd, 1) := by decide +kernel
theorem dL_recipe_201 : decode cL_recipe 201 = .ok (.istore 5, 2) := by decide +kernel
theorem dL_recipe_203 : decode cL_recipe 203 = .ok (.iinc 9 (-1), 3) := by decide +kernel
theorem dL_recipe_206 : decode cL_recipe 206 = .ok (.goto (-178), 3) := by decide +kernel
theorem dL_recipe_209 : decode cL_recipe 209 = .ok (.iinc 8 (-1), 3) := by decide +kernel
theorem dL_recipe_212 : decode cL_recipe 212 = .ok (.goto (-194), 3) := by decide +kernel
theorem dL_recipe_215 : decode cL_recipe 215 = .ok (.iinc 7 (-1), 3) := by decide +kernel
theorem dL_recipe_218 : decode cL_recipe 218 = .ok (.goto (-208), 3) := by decide +kernel
theorem dL_recipe_221 : decode cL_recipe 221 = .ok (.iload 5, 2) := by decide +kernel
theorem dL_recipe_223 : decode cL_recipe 223 = .ok (.ireturn, 1) := by decide +kernel
end
section
theorem dL_mixes_0 : decode cL_mixes 0 = .ok (.iload_n 2, 1) := by decide +kernel
theorem dL_mixes_1 : decode cL_mixes 1 = .ok (.iconst 4, 1) := by decide +kernel
theorem dL_mixes_2 : decode cL_mixes 2 = .ok (.invokestatic 51, 3) := by decide +kernel
theorem dL_mixes_5 : decode cL_mixes 5 = .ok (.istore 9, 2) := by decide +kernel
theorem dL_mixes_7 : decode cL_mixes 7 = .ok (.iload_n 1, 1) := by decide +kernel
theorem dL_mixes_8 : decode cL_mixes 8 = .ok (.ifCond .ne 131, 3) := by decide +kernel
theorem dL_mixes_11 : decode cL_mixes 11 = .ok (.iload_n 2, 1) := by decide +kernel
theorem dL_mixes_12 : decode cL_mixes 12 = .ok (.iconst 2, 1) := by decide +kernel
theorem dL_mixes_13 : decode cL_mixes 13 = .ok (.ishr, 1) := by decide +kernel
theorem dL_mixes_14 : decode cL_mixes 14 = .ok (.bipush 6, 2) := by decide +kernel
theorem dL_mixes_16 : decode cL_mixes 16 = .ok (.invokestatic 51, 3) := by decide +kernel
theorem dL_mixes_19 : decode cL_mixes 19 = .ok (.istore 10, 2) := by decide +kernel
theorem dL_mixes_21 : decode cL_mixes 21 = .ok (.iconst 1, 1) := by decide +kernel
theorem dL_mixes_22 : decode cL_mixes 22 = .ok (.iload_n 2, 1) := by decide +kernel
theorem dL_mixes_23 : decode cL_mixes 23 = .ok (.iconst 5, 1) := by decide +kernel
theorem dL_mixes_24 : decode cL_mixes 24 = .ok (.ishr, 1) := by decide +kernel
theorem dL_mixes_25 : decode cL_mixes 25 = .ok (.bipush 60, 2) := by decide +kernel
theorem dL_mixes_27 : decode cL_mixes 27 = .ok (.invokestatic 51, 3) := by decide +kernel
theorem dL_mixes_30 : decode cL_mixes 30 = .ok (.iadd, 1) := by decide +kernel
theorem dL_mixes_31 : decode cL_mixes 31 = .ok (.istore 11, 2) := by decide +kernel
theorem dL_mixes_33 : decode cL_mixes 33 = .ok (.aload_n 3, 1) := by decide +kernel
theorem dL_mixes_34 : decode cL_mixes 34 = .ok (.iconst 3, 1) := by decide +kernel
theorem dL_mixes_35 : decode cL_mixes 35 = .ok (.iload 10, 2) := by decide +kernel
theorem dL_mixes_37 : decode cL_mixes 37 = .ok (.imul, 1) := by decide +kernel
theorem dL_mixes_38 : decode cL_mixes 38 = .ok (.iconst 1, 1) := by decide +kernel
theorem dL_mixes_39 : decode cL_mixes 39 = .ok (.iadd, 1) := by decide +kernel
theorem dL_mixes_40 : decode cL_mixes 40 = .ok (.iaload, 1) := by decide +kernel
theorem dL_mixes_41 : decode cL_mixes 41 = .ok (.iload 11, 2) := by decide +kernel
theorem dL_mixes_43 : decode cL_mixes 43 = .ok (.if_icmp .lt 7, 3) := by decide +kernel
theorem dL_mixes_46 : decode cL_mixes 46 = .ok (.iconst 1, 1) := by decide +kernel
theorem dL_mixes_47 : decode cL_mixes 47 = .ok (.goto 4, 3) := by decide +kernel
theorem dL_mixes_50 : decode cL_mixes 50 = .ok (.iconst 0, 1) := by decide +kernel
theorem dL_mixes_51 : decode cL_mixes 51 = .ok (.istore 12, 2) := by decide +kernel
theorem dL_mixes_53 : decode cL_mixes 53 = .ok (.aload_n 3, 1) := by decide +kernel
theorem dL_mixes_54 : decode cL_mixes 54 = .ok (.iconst 3, 1) := by decide +kernel
theorem dL_mixes_55 : decode cL_mixes 55 = .ok (.iload 10, 2) := by decide +kernel
theorem dL_mixes_57 : decode cL_mixes 57 = .ok (.imul, 1) := by decide +kernel
theorem dL_mixes_58 : decode cL_mixes 58 = .ok (.iconst 1, 1) := by decide +kernel
theorem dL_mixes_59 : decode cL_mixes 59 = .ok (.iadd, 1) := by decide +kernel
theorem dL_mixes_60 : decode cL_mixes 60 = .ok (.dup2, 1) := by decide +kernel
theorem dL_mixes_61 : decode cL_mixes 61 = .ok (.iaload, 1) := by decide +kernel
theorem dL_mixes_62 : decode cL_mixes 62 = .ok (.iload 12, 2) := by decide +kernel
theorem dL_mixes_64 : decode cL_mixes 64 = .ok (.ifCond .eq 8, 3) := by decide +kernel
theorem dL_mixes_67 : decode cL_mixes 67 = .ok (.iload 11, 2) := by decide +kernel
theorem dL_mixes_69 : decode cL_mixes 69 = .ok (.goto 4, 3) := by decide +kernel
theorem dL_mixes_72 : decode cL_mixes 72 = .ok (.iconst 0, 1) := by decide +kernel
theorem dL_mixes_73 : decode cL_mixes 73 = .ok (.isub, 1) := by decide +kernel
theorem dL_mixes_74 : decode cL_mixes 74 = .ok (.iastore, 1) := by decide +kernel
theorem dL_mixes_75 : decode cL_mixes 75 = .ok (.aload 4, 2) := by decide +kernel
theorem dL_mixes_77 : decode cL_mixes 77 = .ok (.bipush 6, 2) := by decide +kernel
theorem dL_mixes_79 : decode cL_mixes 79 = .ok (.iload 9, 2) := by decide +kernel
theorem dL_mixes_81 : decode cL_mixes 81 = .ok (.imul, 1) := by decide +kernel
theorem dL_mixes_82 : decode cL_mixes 82 = .ok (.iload 10, 2) := by decide +kernel
theorem dL_mixes_84 : decode cL_mixes 84 = .ok (.iadd, 1) := by decide +kernel
theorem dL_mixes_85 : decode cL_mixes 85 = .ok (.dup2, 1) := by decide +kernel
theorem dL_mixes_86 : decode cL_mixes 86 = .ok (.iaload, 1) := by decide +kernel
theorem dL_mixes_87 : decode cL_mixes 87 = .ok (.iload 12, 2) := by decide +kernel
theorem dL_mixes_89 : decode cL_mixes 89 = .ok (.ifCond .eq 8, 3) := by decide +kernel
theorem dL_mixes_92 : decode cL_mixes 92 = .ok (.iload 11, 2) := by decide +kernel
theorem dL_mixes_94 : decode cL_mixes 94 = .ok (.goto 4, 3) := by decide +kernel
theorem dL_mixes_97 : decode cL_mixes 97 = .ok (.iconst 0, 1) := by decide +kernel
theorem dL_mixes_98 : decode cL_mixes 98 = .ok (.iadd, 1) := by decide +kernel
theorem dL_mixes_99 : decode cL_mixes 99 = .ok (.iastore, 1) := by decide +kernel
theorem dL_mixes_100 : decode cL_mixes 100 = .ok (.aload_n 0, 1) := by decide +kernel
theorem dL_mixes_101 : decode cL_mixes 101 = .ok (.iconst 0, 1) := by decide +kernel
theorem dL_mixes_102 : decode cL_mixes 102 = .ok (.iload 9, 2) := by decide +kernel
theorem dL_mixes_104 : decode cL_mixes 104 = .ok (.iload 10, 2) := by decide +kernel
theorem dL_mixes_106 : decode cL_mixes 106 = .ok (.iload 11, 2) := by decide +kernel
theorem dL_mixes_108 : decode cL_mixes 108 = .ok (.invokestatic 54, 3) := by decide +kernel
theorem dL_mixes_111 : decode cL_mixes 111 = .ok (.iload 12, 2) := by decide +kernel
theorem dL_mixes_113 : decode cL_mixes 113 = .ok (.ifCond .eq 14, 3) := by decide +kernel
theorem dL_mixes_116 : decode cL_mixes 116 = .ok (.aload_n 3, 1) := by decide +kernel
theorem dL_mixes_117 : decode cL_mixes 117 = .ok (.iconst 3, 1) := by decide +kernel
theorem dL_mixes_118 : decode cL_mixes 118 = .ok (.iload 10, 2) := by decide +kernel
theorem dL_mixes_120 : decode cL_mixes 120 = .ok (.imul, 1) := by decide +kernel
theorem dL_mixes_121 : decode cL_mixes 121 = .ok (.iconst 1, 1) := by decide +kernel
theorem dL_mixes_122 : decode cL_mixes 122 = .ok (.iadd, 1) := by decide +kernel
theorem dL_mixes_123 : decode cL_mixes 123 = .ok (.iaload, 1) := by decide +kernel
theorem dL_mixes_124 : decode cL_mixes 124 = .ok (.goto 6, 3) := by decide +kernel
theorem dL_mixes_127 : decode cL_mixes 127 = .ok (.sipush (-1003), 3) := by decide +kernel
theorem dL_mixes_130 : decode cL_mixes 130 = .ok (.if_icmp .ne 7, 3) := by decide +kernel
theorem dL_mixes_133 : decode cL_mixes 133 = .ok (.iconst 1, 1) := by decide +kernel
theorem dL_mixes_134 : decode cL_mixes 134 = .ok (.goto 4, 3) := by decide +kernel
theorem dL_mixes_137 : decode cL_mixes 137 = .ok (.iconst 0, 1) := by decide +kernel
theorem dL_mixes_138 : decode cL_mixes 138 = .ok (.ireturn, 1) := by decide +kernel
theorem dL_mixes_139 : decode cL_mixes 139 = .ok (.iload_n 1, 1) := by decide +kernel
theorem dL_mixes_140 : decode cL_mixes 140 = .ok (.iconst 1, 1) := by decide +kernel
theorem dL_mixes_141 : decode cL_mixes 141 = .ok (.if_icmp .ne 139, 3) := by decide +kernel
theorem dL_mixes_144 : decode cL_mixes 144 = .ok (.iload 9, 2) := by decide +kernel
theorem dL_mixes_146 : decode cL_mixes 146 = .ok (.iconst 1, 1) := by decide +kernel
theorem dL_mixes_147 : decode cL_mixes 147 = .ok (.iadd, 1) := by decide +kernel
theorem dL_mixes_148 : decode cL_mixes 148 = .ok (.iload_n 2, 1) := by decide +kernel
theorem dL_mixes_149 : decode cL_mixes 149 = .ok (.iconst 3, 1) := by decide +kernel
theorem dL_mixes_150 : decode cL_mixes 150 = .ok (.ishr, 1) := by decide +kernel
theorem dL_mixes_151 : decode cL_mixes 151 = .ok (.iconst 3, 1) := by decide +kernel
theorem dL_mixes_152 : decode cL_mixes 152 = .ok (.invokestatic 51, 3) := by decide +kernel
theorem dL_mixes_155 : decode cL_mixes 155 = .ok (.iadd, 1) := by decide +kernel
theorem dL_mixes_156 : decode cL_mixes 156 = .ok (.iconst 4, 1) := by decide +kernel
theorem dL_mixes_157 : decode cL_mixes 157 = .ok (.irem, 1) := by decide +kernel
theorem dL_mixes_158 : decode cL_mixes 158 = .ok (.istore 10, 2) := by decide +kernel
theorem dL_mixes_160 : decode cL_mixes 160 = .ok (.iconst 1, 1) := by decide +kernel
theorem dL_mixes_161 : decode cL_mixes 161 = .ok (.iload_n 2, 1) := by decide +kernel
theorem dL_mixes_162 : decode cL_mixes 162 = .ok (.iconst 5, 1) := by decide +kernel
theorem dL_mixes_163 : decode cL_mixes 163 = .ok (.ishr, 1) := by decide +kernel
theorem dL_mixes_164 : decode cL_mixes 164 = .ok (.bipush 50, 2) := by decide +kernel
theorem dL_mixes_166 : decode cL_mixes 166 = .ok (.invokestatic 51, 3) := by decide +kernel
theorem dL_mixes_169 : decode cL_mixes 169 = .ok (.iadd, 1) := by decide +kernel
theorem dL_mixes_170 : decode cL_mixes 170 = .ok (.istore 11, 2) := by decide +kernel
theorem dL_mixes_172 : decode cL_mixes 172 = .ok (.iload 9, 2) := by decide +kernel
theorem dL_mixes_174 : decode cL_mixes 174 = .ok (.aload 4, 2) := by decide +kernel
theorem dL_mixes_176 : decode cL_mixes 176 = .ok (.invokestatic 34, 3) := by decide +kernel
theorem dL_mixes_179 : decode cL_mixes 179 = .ok (.iload 11, 2) := by decide +kernel
theorem dL_mixes_181 : decode cL_mixes 181 = .ok (.if_icmp .lt 7, 3) := by decide +kernel
theorem dL_mixes_184 : decode cL_mixes 184 = .ok (.iconst 1, 1) := by decide +kernel
theorem dL_mixes_185 : decode cL_mixes 185 = .ok (.goto 4, 3) := by decide +kernel
theorem dL_mixes_188 : decode cL_mixes 188 = .ok (.iconst 0, 1) := by decide +kernel
theorem dL_mixes_189 : decode cL_mixes 189 = .ok (.istore 12, 2) := by decide +kernel
theorem dL_mixes_191 : decode cL_mixes 191 = .ok (.iload 12, 2) := by decide +kernel
theorem dL_mixes_193 : decode cL_mixes 193 = .ok (.ifCond .eq 49, 3) := by decide +kernel
theorem dL_mixes_196 : decode cL_mixes 196 = .ok (.iload 9, 2) := by decide +kernel
theorem dL_mixes_198 : decode cL_mixes 198 = .ok (.iload 11, 2) := by decide +kernel
theorem dL_mixes_200 : decode cL_mixes 200 = .ok (.aload 4, 2) := by decide +kernel
theorem dL_mixes_202 : decode cL_mixes 202 = .ok (.aload 8, 2) := by decide +kernel
theorem dL_mixes_204 : decode cL_mixes 204 = .ok (.invokestatic 58, 3) := by decide +kernel
theorem dL_mixes_207 : decode cL_mixes 207 = .ok (.iconst 0, 1) := by decide +kernel
theorem dL_mixes_208 : decode cL_mixes 208 = .ok (.istore 13, 2) := by decide +kernel
theorem dL_mixes_210 : decode cL_mixes 210 = .ok (.iload 13, 2) := by decide +kernel
theorem dL_mixes_212 : decode cL_mixes 212 = .ok (.bipush 6, 2) := by decide +kernel
theorem dL_mixes_214 : decode cL_mixes 214 = .ok (.if_icmp .ge 28, 3) := by decide +kernel
theorem dL_mixes_217 : decode cL_mixes 217 = .ok (.aload 4, 2) := by decide +kernel
theorem dL_mixes_219 : decode cL_mixes 219 = .ok (.bipush 6, 2) := by decide +kernel
theorem dL_mixes_221 : decode cL_mixes 221 = .ok (.iload 10, 2) := by decide +kernel
theorem dL_mixes_223 : decode cL_mixes 223 = .ok (.imul, 1) := by decide +kernel
theorem dL_mixes_224 : decode cL_mixes 224 = .ok (.iload 13, 2) := by decide +kernel
theorem dL_mixes_226 : decode cL_mixes 226 = .ok (.iadd, 1) := by decide +kernel
theorem dL_mixes_227 : decode cL_mixes 227 = .ok (.dup2, 1) := by decide +kernel
theorem dL_mixes_228 : decode cL_mixes 228 = .ok (.iaload, 1) := by decide +kernel
theorem dL_mixes_229 : decode cL_mixes 229 = .ok (.aload 8, 2) := by decide +kernel
theorem dL_mixes_231 : decode cL_mixes 231 = .ok (.iload 13, 2) := by decide +kernel
theorem dL_mixes_233 : decode cL_mixes 233 = .ok (.iaload, 1) := by decide +kernel
theorem dL_mixes_234 : decode cL_mixes 234 = .ok (.iadd, 1) := by decide +kernel
theorem dL_mixes_235 : decode cL_mixes 235 = .ok (.iastore, 1) := by decide +kernel
theorem dL_mixes_236 : decode cL_mixes 236 = .ok (.iinc 13 1, 3) := by decide +kernel
theorem dL_mixes_239 : decode cL_mixes 239 = .ok (.goto (-29), 3) := by decide +kernel
theorem dL_mixes_242 : decode cL_mixes 242 = .ok (.aload_n 0, 1) := by decide +kernel
theorem dL_mixes_243 : decode cL_mixes 243 = .ok (.iconst 1, 1) := by decide +kernel
theorem dL_mixes_244 : decode cL_mixes 244 = .ok (.iload 9, 2) := by decide +kernel
theorem dL_mixes_246 : decode cL_mixes 246 = .ok (.iload 10, 2) := by decide +kernel
theorem dL_mixes_248 : decode cL_mixes 248 = .ok (.iload 11, 2) := by decide +kernel
theorem dL_mixes_250 : decode cL_mixes 250 = .ok (.invokestatic 54, 3) := by decide +kernel
theorem dL_mixes_253 : decode cL_mixes 253 = .ok (.iload 12, 2) := by decide +kernel
theorem dL_mixes_255 : decode cL_mixes 255 = .ok (.ifCond .eq 13, 3) := by decide +kernel
theorem dL_mixes_258 : decode cL_mixes 258 = .ok (.iload 10, 2) := by decide +kernel
theorem dL_mixes_260 : decode cL_mixes 260 = .ok (.aload 4, 2) := by decide +kernel
theorem dL_mixes_262 : decode cL_mixes 262 = .ok (.invokestatic 34, 3) := by decide +kernel
theorem dL_mixes_265 : decode cL_mixes 265 = .ok (.goto 6, 3) := by decide +kernel
theorem dL_mixes_268 : decode cL_mixes 268 = .ok (.sipush (-1003), 3) := by decide +kernel
theorem dL_mixes_271 : decode cL_mixes 271 = .ok (.if_icmp .ne 7, 3) := by decide +kernel
theorem dL_mixes_274 : decode cL_mixes 274 = .ok (.iconst 1, 1) := by decide +kernel
theorem dL_mixes_275 : decode cL_mixes 275 = .ok (.goto 4, 3) := by decide +kernel
theorem dL_mixes_278 : decode cL_mixes 278 = .ok (.iconst 0, 1) := by decide +kernel
theorem dL_mixes_279 : decode cL_mixes 279 = .ok (.ireturn, 1) := by decide +kernel
theorem dL_mixes_280 : decode cL_mixes 280 = .ok (.iload_n 1, 1) := by decide +kernel
theorem dL_mixes_281 : decode cL_mixes 281 = .ok (.iconst 2, 1) := by decide +kernel
theorem dL_mixes_282 : decode cL_mixes 282 = .ok (.if_icmp .ne 79, 3) := by decide +kernel
theorem dL_mixes_285 : decode cL_mixes 285 = .ok (.iload 9, 2) := by decide +kernel
theorem dL_mixes_287 : decode cL_mixes 287 = .ok (.aload 4, 2) := by decide +kernel
theorem dL_mixes_289 : decode cL_mixes 289 = .ok (.invokestatic 34, 3) := by decide +kernel
theorem dL_mixes_292 : decode cL_mixes 292 = .ok (.istore 10, 2) := by decide +kernel
theorem dL_mixes_294 : decode cL_mixes 294 = .ok (.iconst 0, 1) := by decide +kernel
theorem dL_mixes_295 : decode cL_mixes 295 = .ok (.istore 11, 2) := by decide +kernel
theorem dL_mixes_297 : decode cL_mixes 297 = .ok (.iload 11, 2) := by decide +kernel
theorem dL_mixes_299 : decode cL_mixes 299 = .ok (.bipush 6, 2) := by decide +kernel
theorem dL_mixes_301 : decode cL_mixes 301 = .ok (.if_icmp .ge 43, 3) := by decide +kernel
theorem dL_mixes_304 : decode cL_mixes 304 = .ok (.aload_n 3, 1) := by decide +kernel
theorem dL_mixes_305 : decode cL_mixes 305 = .ok (.iconst 3, 1) := by decide +kernel
theorem dL_mixes_306 : decode cL_mixes 306 = .ok (.iload 11, 2) := by decide +kernel
theorem dL_mixes_308 : decode cL_mixes 308 = .ok (.imul, 1) := by decide +kernel
theorem dL_mixes_309 : decode cL_mixes 309 = .ok (.iconst 2, 1) := by decide +kernel
theorem dL_mixes_310 : decode cL_mixes 310 = .ok (.iadd, 1) := by decide +kernel
theorem dL_mixes_311 : decode cL_mixes 311 = .ok (.dup2, 1) := by decide +kernel
theorem dL_mixes_312 : decode cL_mixes 312 = .ok (.iaload, 1) := by decide +kernel
theorem dL_mixes_313 : decode cL_mixes 313 = .ok (.aload 4, 2) := by decide +kernel
theorem dL_mixes_315 : decode cL_mixes 315 = .ok (.bipush 6, 2) := by decide +kernel
theorem dL_mixes_317 : decode cL_mixes 317 = .ok (.iload 9, 2) := by decide +kernel
theorem dL_mixes_319 : decode cL_mixes 319 = .ok (.imul, 1) := by decide +kernel
theorem dL_mixes_320 : decode cL_mixes 320 = .ok (.iload 11, 2) := by decide +kernel
theorem dL_mixes_322 : decode cL_mixes 322 = .ok (.iadd, 1) := by decide +kernel
theorem dL_mixes_323 : decode cL_mixes 323 = .ok (.iaload, 1) := by decide +kernel
theorem dL_mixes_324 : decode cL_mixes 324 = .ok (.iadd, 1) := by decide +kernel
theorem dL_mixes_325 : decode cL_mixes 325 = .ok (.iastore, 1) := by decide +kernel
theorem dL_mixes_326 : decode cL_mixes 326 = .ok (.aload 4, 2) := by decide +kernel
theorem dL_mixes_328 : decode cL_mixes 328 = .ok (.bipush 6, 2) := by decide +kernel
theorem dL_mixes_330 : decode cL_mixes 330 = .ok (.iload 9, 2) := by decide +kernel
theorem dL_mixes_332 : decode cL_mixes 332 = .ok (.imul, 1) := by decide +kernel
theorem dL_mixes_333 : decode cL_mixes 333 = .ok (.iload 11, 2) := by decide +kernel
theorem dL_mixes_335 : decode cL_mixes 335 = .ok (.iadd, 1) := by decide +kernel
theorem dL_mixes_336 : decode cL_mixes 336 = .ok (.iconst 0, 1) := by decide +kernel
theorem dL_mixes_337 : decode cL_mixes 337 = .ok (.iastore, 1) := by decide +kernel
theorem dL_mixes_338 : decode cL_mixes 338 = .ok (.iinc 11 1, 3) := by decide +kernel
theorem dL_mixes_341 : decode cL_mixes 341 = .ok (.goto (-44), 3) := by decide +kernel
theorem dL_mixes_344 : decode cL_mixes 344 = .ok (.aload_n 0, 1) := by decide +kernel
theorem dL_mixes_345 : decode cL_mixes 345 = .ok (.iload 9, 2) := by decide +kernel
theorem dL_mixes_347 : decode cL_mixes 347 = .ok (.invokevirtual 62, 3) := by decide +kernel
theorem dL_mixes_350 : decode cL_mixes 350 = .ok (.iload 10, 2) := by decide +kernel
theorem dL_mixes_352 : decode cL_mixes 352 = .ok (.if_icmp .ne 7, 3) := by decide +kernel
theorem dL_mixes_355 : decode cL_mixes 355 = .ok (.iconst 1, 1) := by decide +kernel
theorem dL_mixes_356 : decode cL_mixes 356 = .ok (.goto 4, 3) := by decide +kernel
theorem dL_mixes_359 : decode cL_mixes 359 = .ok (.iconst 0, 1) := by decide +kernel
theorem dL_mixes_360 : decode cL_mixes 360 = .ok (.ireturn, 1) := by decide +kernel
theorem dL_mixes_361 : decode cL_mixes 361 = .ok (.iload_n 2, 1) := by decide +kernel
theorem dL_mixes_362 : decode cL_mixes 362 = .ok (.iconst 3, 1) := by decide +kernel
theorem dL_mixes_363 : decode cL_mixes 363 = .ok (.ishr, 1) := by decide +kernel
theorem dL_mixes_364 : decode cL_mixes 364 = .ok (.iconst 4, 1) := by decide +kernel
theorem dL_mixes_365 : decode cL_mixes 365 = .ok (.invokestatic 51, 3) := by decide +kernel
theorem dL_mixes_368 : decode cL_mixes 368 = .ok (.istore 10, 2) := by decide +kernel
theorem dL_mixes_370 : decode cL_mixes 370 = .ok (.aload 7, 2) := by decide +kernel
theorem dL_mixes_372 : decode cL_mixes 372 = .ok (.bipush 7, 2) := by decide +kernel
theorem dL_mixes_374 : decode cL_mixes 374 = .ok (.iload 10, 2) := by decide +kernel
theorem dL_mixes_376 : decode cL_mixes 376 = .ok (.imul, 1) := by decide +kernel
theorem dL_mixes_377 : decode cL_mixes 377 = .ok (.iaload, 1) := by decide +kernel
end
section
theorem dL_mixes_378 : decode cL_mixes 378 = .ok (.istore 11, 2) := by decide +kernel
theorem dL_mixes_380 : decode cL_mixes 380 = .ok (.aload 7, 2) := by decide +kernel
theorem dL_mixes_382 : decode cL_mixes 382 = .ok (.bipush 7, 2) := by decide +kernel
theorem dL_mixes_384 : decode cL_mixes 384 = .ok (.iload 10, 2) := by decide +kernel
theorem dL_mixes_386 : decode cL_mixes 386 = .ok (.imul, 1) := by decide +kernel
theorem dL_mixes_387 : decode cL_mixes 387 = .ok (.iconst 3, 1) := by decide +kernel
theorem dL_mixes_388 : decode cL_mixes 388 = .ok (.iadd, 1) := by decide +kernel
theorem dL_mixes_389 : decode cL_mixes 389 = .ok (.iaload, 1) := by decide +kernel
theorem dL_mixes_390 : decode cL_mixes 390 = .ok (.ifCond .ne 7, 3) := by decide +kernel
theorem dL_mixes_393 : decode cL_mixes 393 = .ok (.iconst 1, 1) := by decide +kernel
theorem dL_mixes_394 : decode cL_mixes 394 = .ok (.goto 4, 3) := by decide +kernel
theorem dL_mixes_397 : decode cL_mixes 397 = .ok (.iconst 0, 1) := by decide +kernel
theorem dL_mixes_398 : decode cL_mixes 398 = .ok (.istore 12, 2) := by decide +kernel
theorem dL_mixes_400 : decode cL_mixes 400 = .ok (.iload_n 1, 1) := by decide +kernel
theorem dL_mixes_401 : decode cL_mixes 401 = .ok (.iconst 3, 1) := by decide +kernel
theorem dL_mixes_402 : decode cL_mixes 402 = .ok (.if_icmp .ne 172, 3) := by decide +kernel
theorem dL_mixes_405 : decode cL_mixes 405 = .ok (.iconst 1, 1) := by decide +kernel
theorem dL_mixes_406 : decode cL_mixes 406 = .ok (.iload_n 2, 1) := by decide +kernel
theorem dL_mixes_407 : decode cL_mixes 407 = .ok (.iconst 5, 1) := by decide +kernel
theorem dL_mixes_408 : decode cL_mixes 408 = .ok (.ishr, 1) := by decide +kernel
theorem dL_mixes_409 : decode cL_mixes 409 = .ok (.bipush 40, 2) := by decide +kernel
theorem dL_mixes_411 : decode cL_mixes 411 = .ok (.invokestatic 51, 3) := by decide +kernel
theorem dL_mixes_414 : decode cL_mixes 414 = .ok (.iadd, 1) := by decide +kernel
theorem dL_mixes_415 : decode cL_mixes 415 = .ok (.istore 13, 2) := by decide +kernel
theorem dL_mixes_417 : decode cL_mixes 417 = .ok (.iload 11, 2) := by decide +kernel
theorem dL_mixes_419 : decode cL_mixes 419 = .ok (.iconst 3, 1) := by decide +kernel
theorem dL_mixes_420 : decode cL_mixes 420 = .ok (.if_icmp .ne 5, 3) := by decide +kernel
theorem dL_mixes_423 : decode cL_mixes 423 = .ok (.iconst 1, 1) := by decide +kernel
theorem dL_mixes_424 : decode cL_mixes 424 = .ok (.ireturn, 1) := by decide +kernel
theorem dL_mixes_425 : decode cL_mixes 425 = .ok (.iload 12, 2) := by decide +kernel
theorem dL_mixes_427 : decode cL_mixes 427 = .ok (.ifCond .eq 19, 3) := by decide +kernel
theorem dL_mixes_430 : decode cL_mixes 430 = .ok (.iload 9, 2) := by decide +kernel
theorem dL_mixes_432 : decode cL_mixes 432 = .ok (.aload 4, 2) := by decide +kernel
theorem dL_mixes_434 : decode cL_mixes 434 = .ok (.invokestatic 34, 3) := by decide +kernel
theorem dL_mixes_437 : decode cL_mixes 437 = .ok (.iload 13, 2) := by decide +kernel
theorem dL_mixes_439 : decode cL_mixes 439 = .ok (.if_icmp .lt 7, 3) := by decide +kernel
theorem dL_mixes_442 : decode cL_mixes 442 = .ok (.iconst 1, 1) := by decide +kernel
theorem dL_mixes_443 : decode cL_mixes 443 = .ok (.goto 4, 3) := by decide +kernel
theorem dL_mixes_446 : decode cL_mixes 446 = .ok (.iconst 0, 1) := by decide +kernel
theorem dL_mixes_447 : decode cL_mixes 447 = .ok (.istore 14, 2) := by decide +kernel
theorem dL_mixes_449 : decode cL_mixes 449 = .ok (.iload 14, 2) := by decide +kernel
theorem dL_mixes_451 : decode cL_mixes 451 = .ok (.ifCond .eq 88, 3) := by decide +kernel
theorem dL_mixes_454 : decode cL_mixes 454 = .ok (.iload 9, 2) := by decide +kernel
theorem dL_mixes_456 : decode cL_mixes 456 = .ok (.iload 13, 2) := by decide +kernel
theorem dL_mixes_458 : decode cL_mixes 458 = .ok (.aload 4, 2) := by decide +kernel
theorem dL_mixes_460 : decode cL_mixes 460 = .ok (.aload 8, 2) := by decide +kernel
theorem dL_mixes_462 : decode cL_mixes 462 = .ok (.invokestatic 58, 3) := by decide +kernel
theorem dL_mixes_465 : decode cL_mixes 465 = .ok (.aload 5, 2) := by decide +kernel
theorem dL_mixes_467 : decode cL_mixes 467 = .ok (.iload 10, 2) := by decide +kernel
theorem dL_mixes_469 : decode cL_mixes 469 = .ok (.iload 11, 2) := by decide +kernel
theorem dL_mixes_471 : decode cL_mixes 471 = .ok (.invokestatic 40, 3) := by decide +kernel
theorem dL_mixes_474 : decode cL_mixes 474 = .ok (.aload 8, 2) := by decide +kernel
theorem dL_mixes_476 : decode cL_mixes 476 = .ok (.iconst 0, 1) := by decide +kernel
theorem dL_mixes_477 : decode cL_mixes 477 = .ok (.iaload, 1) := by decide +kernel
theorem dL_mixes_478 : decode cL_mixes 478 = .ok (.sipush 1024, 3) := by decide +kernel
theorem dL_mixes_481 : decode cL_mixes 481 = .ok (.aload 8, 2) := by decide +kernel
theorem dL_mixes_483 : decode cL_mixes 483 = .ok (.iconst 1, 1) := by decide +kernel
theorem dL_mixes_484 : decode cL_mixes 484 = .ok (.iaload, 1) := by decide +kernel
theorem dL_mixes_485 : decode cL_mixes 485 = .ok (.imul, 1) := by decide +kernel
theorem dL_mixes_486 : decode cL_mixes 486 = .ok (.iadd, 1) := by decide +kernel
theorem dL_mixes_487 : decode cL_mixes 487 = .ok (.ldc 66, 2) := by decide +kernel
theorem dL_mixes_489 : decode cL_mixes 489 = .ok (.aload 8, 2) := by decide +kernel
theorem dL_mixes_491 : decode cL_mixes 491 = .ok (.iconst 2, 1) := by decide +kernel
theorem dL_mixes_492 : decode cL_mixes 492 = .ok (.iaload, 1) := by decide +kernel
theorem dL_mixes_493 : decode cL_mixes 493 = .ok (.imul, 1) := by decide +kernel
theorem dL_mixes_494 : decode cL_mixes 494 = .ok (.iadd, 1) := by decide +kernel
theorem dL_mixes_495 : decode cL_mixes 495 = .ok (.iastore, 1) := by decide +kernel
theorem dL_mixes_496 : decode cL_mixes 496 = .ok (.aload 6, 2) := by decide +kernel
theorem dL_mixes_498 : decode cL_mixes 498 = .ok (.iload 10, 2) := by decide +kernel
theorem dL_mixes_500 : decode cL_mixes 500 = .ok (.iload 11, 2) := by decide +kernel
theorem dL_mixes_502 : decode cL_mixes 502 = .ok (.invokestatic 40, 3) := by decide +kernel
theorem dL_mixes_505 : decode cL_mixes 505 = .ok (.aload 8, 2) := by decide +kernel
theorem dL_mixes_507 : decode cL_mixes 507 = .ok (.iconst 3, 1) := by decide +kernel
theorem dL_mixes_508 : decode cL_mixes 508 = .ok (.iaload, 1) := by decide +kernel
theorem dL_mixes_509 : decode cL_mixes 509 = .ok (.sipush 1024, 3) := by decide +kernel
theorem dL_mixes_512 : decode cL_mixes 512 = .ok (.aload 8, 2) := by decide +kernel
theorem dL_mixes_514 : decode cL_mixes 514 = .ok (.iconst 4, 1) := by decide +kernel
theorem dL_mixes_515 : decode cL_mixes 515 = .ok (.iaload, 1) := by decide +kernel
theorem dL_mixes_516 : decode cL_mixes 516 = .ok (.imul, 1) := by decide +kernel
theorem dL_mixes_517 : decode cL_mixes 517 = .ok (.iadd, 1) := by decide +kernel
theorem dL_mixes_518 : decode cL_mixes 518 = .ok (.ldc 66, 2) := by decide +kernel
theorem dL_mixes_520 : decode cL_mixes 520 = .ok (.aload 8, 2) := by decide +kernel
theorem dL_mixes_522 : decode cL_mixes 522 = .ok (.iconst 5, 1) := by decide +kernel
theorem dL_mixes_523 : decode cL_mixes 523 = .ok (.iaload, 1) := by decide +kernel
theorem dL_mixes_524 : decode cL_mixes 524 = .ok (.imul, 1) := by decide +kernel
theorem dL_mixes_525 : decode cL_mixes 525 = .ok (.iadd, 1) := by decide +kernel
theorem dL_mixes_526 : decode cL_mixes 526 = .ok (.iastore, 1) := by decide +kernel
theorem dL_mixes_527 : decode cL_mixes 527 = .ok (.aload 7, 2) := by decide +kernel
theorem dL_mixes_529 : decode cL_mixes 529 = .ok (.bipush 7, 2) := by decide +kernel
theorem dL_mixes_531 : decode cL_mixes 531 = .ok (.iload 10, 2) := by decide +kernel
theorem dL_mixes_533 : decode cL_mixes 533 = .ok (.imul, 1) := by decide +kernel
theorem dL_mixes_534 : decode cL_mixes 534 = .ok (.dup2, 1) := by decide +kernel
theorem dL_mixes_535 : decode cL_mixes 535 = .ok (.iaload, 1) := by decide +kernel
theorem dL_mixes_536 : decode cL_mixes 536 = .ok (.iconst 1, 1) := by decide +kernel
theorem dL_mixes_537 : decode cL_mixes 537 = .ok (.iadd, 1) := by decide +kernel
theorem dL_mixes_538 : decode cL_mixes 538 = .ok (.iastore, 1) := by decide +kernel
theorem dL_mixes_539 : decode cL_mixes 539 = .ok (.aload_n 0, 1) := by decide +kernel
theorem dL_mixes_540 : decode cL_mixes 540 = .ok (.iconst 2, 1) := by decide +kernel
theorem dL_mixes_541 : decode cL_mixes 541 = .ok (.iload 10, 2) := by decide +kernel
theorem dL_mixes_543 : decode cL_mixes 543 = .ok (.iload 9, 2) := by decide +kernel
theorem dL_mixes_545 : decode cL_mixes 545 = .ok (.iload 13, 2) := by decide +kernel
theorem dL_mixes_547 : decode cL_mixes 547 = .ok (.invokestatic 54, 3) := by decide +kernel
theorem dL_mixes_550 : decode cL_mixes 550 = .ok (.iload 14, 2) := by decide +kernel
theorem dL_mixes_552 : decode cL_mixes 552 = .ok (.ifCond .eq 10, 3) := by decide +kernel
theorem dL_mixes_555 : decode cL_mixes 555 = .ok (.iload 11, 2) := by decide +kernel
theorem dL_mixes_557 : decode cL_mixes 557 = .ok (.iconst 1, 1) := by decide +kernel
theorem dL_mixes_558 : decode cL_mixes 558 = .ok (.iadd, 1) := by decide +kernel
theorem dL_mixes_559 : decode cL_mixes 559 = .ok (.goto 6, 3) := by decide +kernel
theorem dL_mixes_562 : decode cL_mixes 562 = .ok (.sipush (-1003), 3) := by decide +kernel
theorem dL_mixes_565 : decode cL_mixes 565 = .ok (.if_icmp .ne 7, 3) := by decide +kernel
theorem dL_mixes_568 : decode cL_mixes 568 = .ok (.iconst 1, 1) := by decide +kernel
theorem dL_mixes_569 : decode cL_mixes 569 = .ok (.goto 4, 3) := by decide +kernel
theorem dL_mixes_572 : decode cL_mixes 572 = .ok (.iconst 0, 1) := by decide +kernel
theorem dL_mixes_573 : decode cL_mixes 573 = .ok (.ireturn, 1) := by decide +kernel
theorem dL_mixes_574 : decode cL_mixes 574 = .ok (.iconst 1, 1) := by decide +kernel
theorem dL_mixes_575 : decode cL_mixes 575 = .ok (.iload_n 2, 1) := by decide +kernel
theorem dL_mixes_576 : decode cL_mixes 576 = .ok (.bipush 6, 2) := by decide +kernel
theorem dL_mixes_578 : decode cL_mixes 578 = .ok (.ishr, 1) := by decide +kernel
theorem dL_mixes_579 : decode cL_mixes 579 = .ok (.iconst 3, 1) := by decide +kernel
theorem dL_mixes_580 : decode cL_mixes 580 = .ok (.invokestatic 51, 3) := by decide +kernel
theorem dL_mixes_583 : decode cL_mixes 583 = .ok (.iadd, 1) := by decide +kernel
theorem dL_mixes_584 : decode cL_mixes 584 = .ok (.istore 13, 2) := by decide +kernel
theorem dL_mixes_586 : decode cL_mixes 586 = .ok (.iload 12, 2) := by decide +kernel
theorem dL_mixes_588 : decode cL_mixes 588 = .ok (.ifCond .eq 14, 3) := by decide +kernel
theorem dL_mixes_591 : decode cL_mixes 591 = .ok (.iload 11, 2) := by decide +kernel
theorem dL_mixes_593 : decode cL_mixes 593 = .ok (.iload 13, 2) := by decide +kernel
theorem dL_mixes_595 : decode cL_mixes 595 = .ok (.if_icmp .lt 7, 3) := by decide +kernel
theorem dL_mixes_598 : decode cL_mixes 598 = .ok (.iconst 1, 1) := by decide +kernel
theorem dL_mixes_599 : decode cL_mixes 599 = .ok (.goto 4, 3) := by decide +kernel
theorem dL_mixes_602 : decode cL_mixes 602 = .ok (.iconst 0, 1) := by decide +kernel
theorem dL_mixes_603 : decode cL_mixes 603 = .ok (.istore 14, 2) := by decide +kernel
theorem dL_mixes_605 : decode cL_mixes 605 = .ok (.iconst 0, 1) := by decide +kernel
theorem dL_mixes_606 : decode cL_mixes 606 = .ok (.istore 15, 2) := by decide +kernel
theorem dL_mixes_608 : decode cL_mixes 608 = .ok (.iconst 0, 1) := by decide +kernel
theorem dL_mixes_609 : decode cL_mixes 609 = .ok (.istore 16, 2) := by decide +kernel
theorem dL_mixes_611 : decode cL_mixes 611 = .ok (.iload 16, 2) := by decide +kernel
theorem dL_mixes_613 : decode cL_mixes 613 = .ok (.iload 13, 2) := by decide +kernel
theorem dL_mixes_615 : decode cL_mixes 615 = .ok (.if_icmp .ge 120, 3) := by decide +kernel
theorem dL_mixes_618 : decode cL_mixes 618 = .ok (.iload 14, 2) := by decide +kernel
theorem dL_mixes_620 : decode cL_mixes 620 = .ok (.ifCond .eq 115, 3) := by decide +kernel
theorem dL_mixes_623 : decode cL_mixes 623 = .ok (.aload 7, 2) := by decide +kernel
theorem dL_mixes_625 : decode cL_mixes 625 = .ok (.bipush 7, 2) := by decide +kernel
theorem dL_mixes_627 : decode cL_mixes 627 = .ok (.iload 10, 2) := by decide +kernel
theorem dL_mixes_629 : decode cL_mixes 629 = .ok (.imul, 1) := by decide +kernel
theorem dL_mixes_630 : decode cL_mixes 630 = .ok (.dup2, 1) := by decide +kernel
theorem dL_mixes_631 : decode cL_mixes 631 = .ok (.iaload, 1) := by decide +kernel
theorem dL_mixes_632 : decode cL_mixes 632 = .ok (.iconst 1, 1) := by decide +kernel
theorem dL_mixes_633 : decode cL_mixes 633 = .ok (.isub, 1) := by decide +kernel
theorem dL_mixes_634 : decode cL_mixes 634 = .ok (.iastore, 1) := by decide +kernel
theorem dL_mixes_635 : decode cL_mixes 635 = .ok (.iconst 0, 1) := by decide +kernel
theorem dL_mixes_636 : decode cL_mixes 636 = .ok (.istore 17, 2) := by decide +kernel
theorem dL_mixes_638 : decode cL_mixes 638 = .ok (.iload 17, 2) := by decide +kernel
theorem dL_mixes_640 : decode cL_mixes 640 = .ok (.bipush 6, 2) := by decide +kernel
theorem dL_mixes_642 : decode cL_mixes 642 = .ok (.if_icmp .ge 53, 3) := by decide +kernel
theorem dL_mixes_645 : decode cL_mixes 645 = .ok (.iload 10, 2) := by decide +kernel
theorem dL_mixes_647 : decode cL_mixes 647 = .ok (.aload 7, 2) := by decide +kernel
theorem dL_mixes_649 : decode cL_mixes 649 = .ok (.bipush 7, 2) := by decide +kernel
theorem dL_mixes_651 : decode cL_mixes 651 = .ok (.iload 10, 2) := by decide +kernel
theorem dL_mixes_653 : decode cL_mixes 653 = .ok (.imul, 1) := by decide +kernel
theorem dL_mixes_654 : decode cL_mixes 654 = .ok (.iaload, 1) := by decide +kernel
theorem dL_mixes_655 : decode cL_mixes 655 = .ok (.invokestatic 40, 3) := by decide +kernel
theorem dL_mixes_658 : decode cL_mixes 658 = .ok (.iload 17, 2) := by decide +kernel
theorem dL_mixes_660 : decode cL_mixes 660 = .ok (.aload 5, 2) := by decide +kernel
theorem dL_mixes_662 : decode cL_mixes 662 = .ok (.aload 6, 2) := by decide +kernel
theorem dL_mixes_664 : decode cL_mixes 664 = .ok (.invokestatic 43, 3) := by decide +kernel
theorem dL_mixes_667 : decode cL_mixes 667 = .ok (.istore 18, 2) := by decide +kernel
theorem dL_mixes_669 : decode cL_mixes 669 = .ok (.aload_n 3, 1) := by decide +kernel
theorem dL_mixes_670 : decode cL_mixes 670 = .ok (.iconst 3, 1) := by decide +kernel
theorem dL_mixes_671 : decode cL_mixes 671 = .ok (.iload 17, 2) := by decide +kernel
theorem dL_mixes_673 : decode cL_mixes 673 = .ok (.imul, 1) := by decide +kernel
theorem dL_mixes_674 : decode cL_mixes 674 = .ok (.iconst 2, 1) := by decide +kernel
theorem dL_mixes_675 : decode cL_mixes 675 = .ok (.iadd, 1) := by decide +kernel
theorem dL_mixes_676 : decode cL_mixes 676 = .ok (.dup2, 1) := by decide +kernel
theorem dL_mixes_677 : decode cL_mixes 677 = .ok (.iaload, 1) := by decide +kernel
theorem dL_mixes_678 : decode cL_mixes 678 = .ok (.iload 18, 2) := by decide +kernel
theorem dL_mixes_680 : decode cL_mixes 680 = .ok (.iadd, 1) := by decide +kernel
theorem dL_mixes_681 : decode cL_mixes 681 = .ok (.iastore, 1) := by decide +kernel
theorem dL_mixes_682 : decode cL_mixes 682 = .ok (.iload 15, 2) := by decide +kernel
theorem dL_mixes_684 : decode cL_mixes 684 = .ok (.iload 18, 2) := by decide +kernel
theorem dL_mixes_686 : decode cL_mixes 686 = .ok (.iadd, 1) := by decide +kernel
theorem dL_mixes_687 : decode cL_mixes 687 = .ok (.istore 15, 2) := by decide +kernel
theorem dL_mixes_689 : decode cL_mixes 689 = .ok (.iinc 17 1, 3) := by decide +kernel
theorem dL_mixes_692 : decode cL_mixes 692 = .ok (.goto (-54), 3) := by decide +kernel
theorem dL_mixes_695 : decode cL_mixes 695 = .ok (.aload 5, 2) := by decide +kernel
theorem dL_mixes_697 : decode cL_mixes 697 = .ok (.iload 10, 2) := by decide +kernel
theorem dL_mixes_699 : decode cL_mixes 699 = .ok (.aload 7, 2) := by decide +kernel
theorem dL_mixes_701 : decode cL_mixes 701 = .ok (.bipush 7, 2) := by decide +kernel
theorem dL_mixes_703 : decode cL_mixes 703 = .ok (.iload 10, 2) := by decide +kernel
theorem dL_mixes_705 : decode cL_mixes 705 = .ok (.imul, 1) := by decide +kernel
theorem dL_mixes_706 : decode cL_mixes 706 = .ok (.iaload, 1) := by decide +kernel
theorem dL_mixes_707 : decode cL_mixes 707 = .ok (.invokestatic 40, 3) := by decide +kernel
theorem dL_mixes_710 : decode cL_mixes 710 = .ok (.iconst 0, 1) := by decide +kernel
theorem dL_mixes_711 : decode cL_mixes 711 = .ok (.iastore, 1) := by decide +kernel
theorem dL_mixes_712 : decode cL_mixes 712 = .ok (.aload 6, 2) := by decide +kernel
theorem dL_mixes_714 : decode cL_mixes 714 = .ok (.iload 10, 2) := by decide +kernel
theorem dL_mixes_716 : decode cL_mixes 716 = .ok (.aload 7, 2) := by decide +kernel
theorem dL_mixes_718 : decode cL_mixes 718 = .ok (.bipush 7, 2) := by decide +kernel
theorem dL_mixes_720 : decode cL_mixes 720 = .ok (.iload 10, 2) := by decide +kernel
theorem dL_mixes_722 : decode cL_mixes 722 = .ok (.imul, 1) := by decide +kernel
theorem dL_mixes_723 : decode cL_mixes 723 = .ok (.iaload, 1) := by decide +kernel
theorem dL_mixes_724 : decode cL_mixes 724 = .ok (.invokestatic 40, 3) := by decide +kernel
theorem dL_mixes_727 : decode cL_mixes 727 = .ok (.iconst 0, 1) := by decide +kernel
theorem dL_mixes_728 : decode cL_mixes 728 = .ok (.iastore, 1) := by decide +kernel
theorem dL_mixes_729 : decode cL_mixes 729 = .ok (.iinc 16 1, 3) := by decide +kernel
theorem dL_mixes_732 : decode cL_mixes 732 = .ok (.goto (-121), 3) := by decide +kernel
theorem dL_mixes_735 : decode cL_mixes 735 = .ok (.aload_n 0, 1) := by decide +kernel
theorem dL_mixes_736 : decode cL_mixes 736 = .ok (.iconst 3, 1) := by decide +kernel
theorem dL_mixes_737 : decode cL_mixes 737 = .ok (.iload 10, 2) := by decide +kernel
theorem dL_mixes_739 : decode cL_mixes 739 = .ok (.iload 13, 2) := by decide +kernel
theorem dL_mixes_741 : decode cL_mixes 741 = .ok (.iconst 0, 1) := by decide +kernel
theorem dL_mixes_742 : decode cL_mixes 742 = .ok (.invokestatic 54, 3) := by decide +kernel
theorem dL_mixes_745 : decode cL_mixes 745 = .ok (.iload 14, 2) := by decide +kernel
theorem dL_mixes_747 : decode cL_mixes 747 = .ok (.ifCond .eq 8, 3) := by decide +kernel
theorem dL_mixes_750 : decode cL_mixes 750 = .ok (.iload 15, 2) := by decide +kernel
theorem dL_mixes_752 : decode cL_mixes 752 = .ok (.goto 6, 3) := by decide +kernel
theorem dL_mixes_755 : decode cL_mixes 755 = .ok (.sipush (-1003), 3) := by decide +kernel
theorem dL_mixes_758 : decode cL_mixes 758 = .ok (.if_icmp .ne 7, 3) := by decide +kernel
theorem dL_mixes_761 : decode cL_mixes 761 = .ok (.iconst 1, 1) := by decide +kernel
theorem dL_mixes_762 : decode cL_mixes 762 = .ok (.goto 4, 3) := by decide +kernel
theorem dL_mixes_765 : decode cL_mixes 765 = .ok (.iconst 0, 1) := by decide +kernel
theorem dL_mixes_766 : decode cL_mixes 766 = .ok (.ireturn, 1) := by decide +kernel
end
section
theorem dL_same_0 : decode cL_same 0 = .ok (.iconst 1, 1) := by decide +kernel
theorem dL_same_1 : decode cL_same 1 = .ok (.istore 9, 2) := by decide +kernel
theorem dL_same_3 : decode cL_same 3 = .ok (.iconst 0, 1) := by decide +kernel
theorem dL_same_4 : decode cL_same 4 = .ok (.istore 10, 2) := by decide +kernel
theorem dL_same_6 : decode cL_same 6 = .ok (.iload 10, 2) := by decide +kernel
theorem dL_same_8 : decode cL_same 8 = .ok (.iconst 4, 1) := by decide +kernel
theorem dL_same_9 : decode cL_same 9 = .ok (.if_icmp .ge 429, 3) := by decide +kernel
theorem dL_same_12 : decode cL_same 12 = .ok (.iload 9, 2) := by decide +kernel
theorem dL_same_14 : decode cL_same 14 = .ok (.ifCond .eq 424, 3) := by decide +kernel
theorem dL_same_17 : decode cL_same 17 = .ok (.iload_n 1, 1) := by decide +kernel
theorem dL_same_18 : decode cL_same 18 = .ok (.iload 10, 2) := by decide +kernel
theorem dL_same_20 : decode cL_same 20 = .ok (.ishr, 1) := by decide +kernel
theorem dL_same_21 : decode cL_same 21 = .ok (.iconst 3, 1) := by decide +kernel
theorem dL_same_22 : decode cL_same 22 = .ok (.invokestatic 51, 3) := by decide +kernel
theorem dL_same_25 : decode cL_same 25 = .ok (.istore 11, 2) := by decide +kernel
theorem dL_same_27 : decode cL_same 27 = .ok (.iconst 0, 1) := by decide +kernel
theorem dL_same_28 : decode cL_same 28 = .ok (.istore 12, 2) := by decide +kernel
theorem dL_same_30 : decode cL_same 30 = .ok (.iconst 0, 1) := by decide +kernel
theorem dL_same_31 : decode cL_same 31 = .ok (.istore 13, 2) := by decide +kernel
theorem dL_same_33 : decode cL_same 33 = .ok (.iconst 0, 1) := by decide +kernel
theorem dL_same_34 : decode cL_same 34 = .ok (.istore 14, 2) := by decide +kernel
theorem dL_same_36 : decode cL_same 36 = .ok (.iconst 0, 1) := by decide +kernel
theorem dL_same_37 : decode cL_same 37 = .ok (.istore 15, 2) := by decide +kernel
theorem dL_same_39 : decode cL_same 39 = .ok (.iload 15, 2) := by decide +kernel
theorem dL_same_41 : decode cL_same 41 = .ok (.bipush 6, 2) := by decide +kernel
theorem dL_same_43 : decode cL_same 43 = .ok (.if_icmp .ge 176, 3) := by decide +kernel
theorem dL_same_46 : decode cL_same 46 = .ok (.aload 7, 2) := by decide +kernel
theorem dL_same_48 : decode cL_same 48 = .ok (.bipush 7, 2) := by decide +kernel
theorem dL_same_50 : decode cL_same 50 = .ok (.iload 10, 2) := by decide +kernel
theorem dL_same_52 : decode cL_same 52 = .ok (.imul, 1) := by decide +kernel
theorem dL_same_53 : decode cL_same 53 = .ok (.iaload, 1) := by decide +kernel
theorem dL_same_54 : decode cL_same 54 = .ok (.ifCond .ne 7, 3) := by decide +kernel
theorem dL_same_57 : decode cL_same 57 = .ok (.iconst 0, 1) := by decide +kernel
theorem dL_same_58 : decode cL_same 58 = .ok (.goto 27, 3) := by decide +kernel
theorem dL_same_61 : decode cL_same 61 = .ok (.iload 10, 2) := by decide +kernel
theorem dL_same_63 : decode cL_same 63 = .ok (.aload 7, 2) := by decide +kernel
theorem dL_same_65 : decode cL_same 65 = .ok (.bipush 7, 2) := by decide +kernel
theorem dL_same_67 : decode cL_same 67 = .ok (.iload 10, 2) := by decide +kernel
theorem dL_same_69 : decode cL_same 69 = .ok (.imul, 1) := by decide +kernel
theorem dL_same_70 : decode cL_same 70 = .ok (.iaload, 1) := by decide +kernel
theorem dL_same_71 : decode cL_same 71 = .ok (.iconst 1, 1) := by decide +kernel
theorem dL_same_72 : decode cL_same 72 = .ok (.isub, 1) := by decide +kernel
theorem dL_same_73 : decode cL_same 73 = .ok (.invokestatic 40, 3) := by decide +kernel
theorem dL_same_76 : decode cL_same 76 = .ok (.iload 15, 2) := by decide +kernel
theorem dL_same_78 : decode cL_same 78 = .ok (.aload 5, 2) := by decide +kernel
theorem dL_same_80 : decode cL_same 80 = .ok (.aload 6, 2) := by decide +kernel
theorem dL_same_82 : decode cL_same 82 = .ok (.invokestatic 43, 3) := by decide +kernel
theorem dL_same_85 : decode cL_same 85 = .ok (.istore 16, 2) := by decide +kernel
theorem dL_same_87 : decode cL_same 87 = .ok (.iload 12, 2) := by decide +kernel
theorem dL_same_89 : decode cL_same 89 = .ok (.aload 4, 2) := by decide +kernel
theorem dL_same_91 : decode cL_same 91 = .ok (.bipush 6, 2) := by decide +kernel
theorem dL_same_93 : decode cL_same 93 = .ok (.iload 10, 2) := by decide +kernel
theorem dL_same_95 : decode cL_same 95 = .ok (.imul, 1) := by decide +kernel
theorem dL_same_96 : decode cL_same 96 = .ok (.iload 15, 2) := by decide +kernel
theorem dL_same_98 : decode cL_same 98 = .ok (.iadd, 1) := by decide +kernel
theorem dL_same_99 : decode cL_same 99 = .ok (.iaload, 1) := by decide +kernel
theorem dL_same_100 : decode cL_same 100 = .ok (.aload_n 2, 1) := by decide +kernel
theorem dL_same_101 : decode cL_same 101 = .ok (.iconst 3, 1) := by decide +kernel
theorem dL_same_102 : decode cL_same 102 = .ok (.aload_n 3, 1) := by decide +kernel
theorem dL_same_103 : decode cL_same 103 = .ok (.iconst 3, 1) := by decide +kernel
theorem dL_same_104 : decode cL_same 104 = .ok (.iload 15, 2) := by decide +kernel
theorem dL_same_106 : decode cL_same 106 = .ok (.imul, 1) := by decide +kernel
theorem dL_same_107 : decode cL_same 107 = .ok (.iaload, 1) := by decide +kernel
theorem dL_same_108 : decode cL_same 108 = .ok (.imul, 1) := by decide +kernel
theorem dL_same_109 : decode cL_same 109 = .ok (.iload 11, 2) := by decide +kernel
theorem dL_same_111 : decode cL_same 111 = .ok (.iadd, 1) := by decide +kernel
theorem dL_same_112 : decode cL_same 112 = .ok (.iaload, 1) := by decide +kernel
theorem dL_same_113 : decode cL_same 113 = .ok (.imul, 1) := by decide +kernel
theorem dL_same_114 : decode cL_same 114 = .ok (.iadd, 1) := by decide +kernel
theorem dL_same_115 : decode cL_same 115 = .ok (.istore 12, 2) := by decide +kernel
theorem dL_same_117 : decode cL_same 117 = .ok (.iload 13, 2) := by decide +kernel
theorem dL_same_119 : decode cL_same 119 = .ok (.iload 16, 2) := by decide +kernel
theorem dL_same_121 : decode cL_same 121 = .ok (.aload_n 2, 1) := by decide +kernel
theorem dL_same_122 : decode cL_same 122 = .ok (.iconst 3, 1) := by decide +kernel
theorem dL_same_123 : decode cL_same 123 = .ok (.aload_n 3, 1) := by decide +kernel
theorem dL_same_124 : decode cL_same 124 = .ok (.iconst 3, 1) := by decide +kernel
theorem dL_same_125 : decode cL_same 125 = .ok (.iload 15, 2) := by decide +kernel
theorem dL_same_127 : decode cL_same 127 = .ok (.imul, 1) := by decide +kernel
theorem dL_same_128 : decode cL_same 128 = .ok (.iaload, 1) := by decide +kernel
theorem dL_same_129 : decode cL_same 129 = .ok (.imul, 1) := by decide +kernel
theorem dL_same_130 : decode cL_same 130 = .ok (.iload 11, 2) := by decide +kernel
theorem dL_same_132 : decode cL_same 132 = .ok (.iadd, 1) := by decide +kernel
theorem dL_same_133 : decode cL_same 133 = .ok (.iaload, 1) := by decide +kernel
theorem dL_same_134 : decode cL_same 134 = .ok (.imul, 1) := by decide +kernel
theorem dL_same_135 : decode cL_same 135 = .ok (.iadd, 1) := by decide +kernel
theorem dL_same_136 : decode cL_same 136 = .ok (.istore 13, 2) := by decide +kernel
theorem dL_same_138 : decode cL_same 138 = .ok (.iload 14, 2) := by decide +kernel
theorem dL_same_140 : decode cL_same 140 = .ok (.iload 16, 2) := by decide +kernel
theorem dL_same_142 : decode cL_same 142 = .ok (.iadd, 1) := by decide +kernel
theorem dL_same_143 : decode cL_same 143 = .ok (.istore 14, 2) := by decide +kernel
theorem dL_same_145 : decode cL_same 145 = .ok (.iload 9, 2) := by decide +kernel
theorem dL_same_147 : decode cL_same 147 = .ok (.ifCond .eq 63, 3) := by decide +kernel
theorem dL_same_150 : decode cL_same 150 = .ok (.aload_n 0, 1) := by decide +kernel
theorem dL_same_151 : decode cL_same 151 = .ok (.iload 10, 2) := by decide +kernel
theorem dL_same_153 : decode cL_same 153 = .ok (.iload 15, 2) := by decide +kernel
theorem dL_same_155 : decode cL_same 155 = .ok (.invokevirtual 73, 3) := by decide +kernel
theorem dL_same_158 : decode cL_same 158 = .ok (.aload 4, 2) := by decide +kernel
theorem dL_same_160 : decode cL_same 160 = .ok (.bipush 6, 2) := by decide +kernel
theorem dL_same_162 : decode cL_same 162 = .ok (.iload 10, 2) := by decide +kernel
theorem dL_same_164 : decode cL_same 164 = .ok (.imul, 1) := by decide +kernel
theorem dL_same_165 : decode cL_same 165 = .ok (.iload 15, 2) := by decide +kernel
theorem dL_same_167 : decode cL_same 167 = .ok (.iadd, 1) := by decide +kernel
theorem dL_same_168 : decode cL_same 168 = .ok (.iaload, 1) := by decide +kernel
theorem dL_same_169 : decode cL_same 169 = .ok (.if_icmp .ne 41, 3) := by decide +kernel
theorem dL_same_172 : decode cL_same 172 = .ok (.aload 7, 2) := by decide +kernel
theorem dL_same_174 : decode cL_same 174 = .ok (.bipush 7, 2) := by decide +kernel
theorem dL_same_176 : decode cL_same 176 = .ok (.iload 10, 2) := by decide +kernel
theorem dL_same_178 : decode cL_same 178 = .ok (.imul, 1) := by decide +kernel
theorem dL_same_179 : decode cL_same 179 = .ok (.iaload, 1) := by decide +kernel
theorem dL_same_180 : decode cL_same 180 = .ok (.ifCond .eq 26, 3) := by decide +kernel
theorem dL_same_183 : decode cL_same 183 = .ok (.aload_n 0, 1) := by decide +kernel
theorem dL_same_184 : decode cL_same 184 = .ok (.iload 10, 2) := by decide +kernel
theorem dL_same_186 : decode cL_same 186 = .ok (.aload 7, 2) := by decide +kernel
theorem dL_same_188 : decode cL_same 188 = .ok (.bipush 7, 2) := by decide +kernel
theorem dL_same_190 : decode cL_same 190 = .ok (.iload 10, 2) := by decide +kernel
theorem dL_same_192 : decode cL_same 192 = .ok (.imul, 1) := by decide +kernel
theorem dL_same_193 : decode cL_same 193 = .ok (.iaload, 1) := by decide +kernel
theorem dL_same_194 : decode cL_same 194 = .ok (.iconst 1, 1) := by decide +kernel
theorem dL_same_195 : decode cL_same 195 = .ok (.isub, 1) := by decide +kernel
theorem dL_same_196 : decode cL_same 196 = .ok (.iload 15, 2) := by decide +kernel
theorem dL_same_198 : decode cL_same 198 = .ok (.invokevirtual 76, 3) := by decide +kernel
theorem dL_same_201 : decode cL_same 201 = .ok (.iload 16, 2) := by decide +kernel
theorem dL_same_203 : decode cL_same 203 = .ok (.if_icmp .ne 7, 3) := by decide +kernel
theorem dL_same_206 : decode cL_same 206 = .ok (.iconst 1, 1) := by decide +kernel
theorem dL_same_207 : decode cL_same 207 = .ok (.goto 4, 3) := by decide +kernel
theorem dL_same_210 : decode cL_same 210 = .ok (.iconst 0, 1) := by decide +kernel
theorem dL_same_211 : decode cL_same 211 = .ok (.istore 9, 2) := by decide +kernel
theorem dL_same_213 : decode cL_same 213 = .ok (.iinc 15 1, 3) := by decide +kernel
theorem dL_same_216 : decode cL_same 216 = .ok (.goto (-177), 3) := by decide +kernel
theorem dL_same_219 : decode cL_same 219 = .ok (.iload 9, 2) := by decide +kernel
theorem dL_same_221 : decode cL_same 221 = .ok (.ifCond .eq 208, 3) := by decide +kernel
theorem dL_same_224 : decode cL_same 224 = .ok (.aload_n 0, 1) := by decide +kernel
theorem dL_same_225 : decode cL_same 225 = .ok (.iload 10, 2) := by decide +kernel
theorem dL_same_227 : decode cL_same 227 = .ok (.iconst (-1), 1) := by decide +kernel
theorem dL_same_228 : decode cL_same 228 = .ok (.invokevirtual 73, 3) := by decide +kernel
theorem dL_same_231 : decode cL_same 231 = .ok (.iload 10, 2) := by decide +kernel
theorem dL_same_233 : decode cL_same 233 = .ok (.aload 4, 2) := by decide +kernel
theorem dL_same_235 : decode cL_same 235 = .ok (.invokestatic 34, 3) := by decide +kernel
theorem dL_same_238 : decode cL_same 238 = .ok (.if_icmp .ne 191, 3) := by decide +kernel
theorem dL_same_241 : decode cL_same 241 = .ok (.aload_n 0, 1) := by decide +kernel
theorem dL_same_242 : decode cL_same 242 = .ok (.iload 10, 2) := by decide +kernel
theorem dL_same_244 : decode cL_same 244 = .ok (.iload 11, 2) := by decide +kernel
theorem dL_same_246 : decode cL_same 246 = .ok (.invokevirtual 79, 3) := by decide +kernel
theorem dL_same_249 : decode cL_same 249 = .ok (.iload 12, 2) := by decide +kernel
theorem dL_same_251 : decode cL_same 251 = .ok (.iload 10, 2) := by decide +kernel
theorem dL_same_253 : decode cL_same 253 = .ok (.aload 4, 2) := by decide +kernel
theorem dL_same_255 : decode cL_same 255 = .ok (.invokestatic 34, 3) := by decide +kernel
theorem dL_same_258 : decode cL_same 258 = .ok (.invokestatic 82, 3) := by decide +kernel
theorem dL_same_261 : decode cL_same 261 = .ok (.if_icmp .ne 168, 3) := by decide +kernel
theorem dL_same_264 : decode cL_same 264 = .ok (.aload_n 0, 1) := by decide +kernel
theorem dL_same_265 : decode cL_same 265 = .ok (.iload 10, 2) := by decide +kernel
theorem dL_same_267 : decode cL_same 267 = .ok (.bipush 6, 2) := by decide +kernel
theorem dL_same_269 : decode cL_same 269 = .ok (.iload 11, 2) := by decide +kernel
theorem dL_same_271 : decode cL_same 271 = .ok (.iadd, 1) := by decide +kernel
theorem dL_same_272 : decode cL_same 272 = .ok (.invokevirtual 85, 3) := by decide +kernel
theorem dL_same_275 : decode cL_same 275 = .ok (.iload 13, 2) := by decide +kernel
theorem dL_same_277 : decode cL_same 277 = .ok (.iload 14, 2) := by decide +kernel
theorem dL_same_279 : decode cL_same 279 = .ok (.invokestatic 82, 3) := by decide +kernel
theorem dL_same_282 : decode cL_same 282 = .ok (.if_icmp .ne 147, 3) := by decide +kernel
theorem dL_same_285 : decode cL_same 285 = .ok (.aload_n 0, 1) := by decide +kernel
theorem dL_same_286 : decode cL_same 286 = .ok (.iload 10, 2) := by decide +kernel
theorem dL_same_288 : decode cL_same 288 = .ok (.iconst 0, 1) := by decide +kernel
theorem dL_same_289 : decode cL_same 289 = .ok (.invokevirtual 85, 3) := by decide +kernel
theorem dL_same_292 : decode cL_same 292 = .ok (.aload 7, 2) := by decide +kernel
theorem dL_same_294 : decode cL_same 294 = .ok (.bipush 7, 2) := by decide +kernel
theorem dL_same_296 : decode cL_same 296 = .ok (.iload 10, 2) := by decide +kernel
theorem dL_same_298 : decode cL_same 298 = .ok (.imul, 1) := by decide +kernel
theorem dL_same_299 : decode cL_same 299 = .ok (.iaload, 1) := by decide +kernel
theorem dL_same_300 : decode cL_same 300 = .ok (.if_icmp .ne 129, 3) := by decide +kernel
theorem dL_same_303 : decode cL_same 303 = .ok (.aload_n 0, 1) := by decide +kernel
theorem dL_same_304 : decode cL_same 304 = .ok (.iload 10, 2) := by decide +kernel
theorem dL_same_306 : decode cL_same 306 = .ok (.iconst 1, 1) := by decide +kernel
theorem dL_same_307 : decode cL_same 307 = .ok (.invokevirtual 85, 3) := by decide +kernel
theorem dL_same_310 : decode cL_same 310 = .ok (.aload 7, 2) := by decide +kernel
theorem dL_same_312 : decode cL_same 312 = .ok (.bipush 7, 2) := by decide +kernel
theorem dL_same_314 : decode cL_same 314 = .ok (.iload 10, 2) := by decide +kernel
theorem dL_same_316 : decode cL_same 316 = .ok (.imul, 1) := by decide +kernel
theorem dL_same_317 : decode cL_same 317 = .ok (.iconst 1, 1) := by decide +kernel
theorem dL_same_318 : decode cL_same 318 = .ok (.iadd, 1) := by decide +kernel
theorem dL_same_319 : decode cL_same 319 = .ok (.iaload, 1) := by decide +kernel
theorem dL_same_320 : decode cL_same 320 = .ok (.if_icmp .ne 109, 3) := by decide +kernel
theorem dL_same_323 : decode cL_same 323 = .ok (.aload_n 0, 1) := by decide +kernel
theorem dL_same_324 : decode cL_same 324 = .ok (.iload 10, 2) := by decide +kernel
theorem dL_same_326 : decode cL_same 326 = .ok (.iconst 2, 1) := by decide +kernel
theorem dL_same_327 : decode cL_same 327 = .ok (.invokevirtual 85, 3) := by decide +kernel
theorem dL_same_330 : decode cL_same 330 = .ok (.iload 10, 2) := by decide +kernel
theorem dL_same_332 : decode cL_same 332 = .ok (.aload_n 3, 1) := by decide +kernel
theorem dL_same_333 : decode cL_same 333 = .ok (.aload 5, 2) := by decide +kernel
theorem dL_same_335 : decode cL_same 335 = .ok (.aload 6, 2) := by decide +kernel
theorem dL_same_337 : decode cL_same 337 = .ok (.aload 7, 2) := by decide +kernel
theorem dL_same_339 : decode cL_same 339 = .ok (.invokestatic 67, 3) := by decide +kernel
theorem dL_same_342 : decode cL_same 342 = .ok (.if_icmp .ne 87, 3) := by decide +kernel
theorem dL_same_345 : decode cL_same 345 = .ok (.aload_n 0, 1) := by decide +kernel
theorem dL_same_346 : decode cL_same 346 = .ok (.iload 10, 2) := by decide +kernel
theorem dL_same_348 : decode cL_same 348 = .ok (.iconst 3, 1) := by decide +kernel
theorem dL_same_349 : decode cL_same 349 = .ok (.invokevirtual 85, 3) := by decide +kernel
theorem dL_same_352 : decode cL_same 352 = .ok (.iload 10, 2) := by decide +kernel
theorem dL_same_354 : decode cL_same 354 = .ok (.aload_n 3, 1) := by decide +kernel
theorem dL_same_355 : decode cL_same 355 = .ok (.aload 5, 2) := by decide +kernel
theorem dL_same_357 : decode cL_same 357 = .ok (.aload 6, 2) := by decide +kernel
theorem dL_same_359 : decode cL_same 359 = .ok (.aload 7, 2) := by decide +kernel
theorem dL_same_361 : decode cL_same 361 = .ok (.invokestatic 47, 3) := by decide +kernel
theorem dL_same_364 : decode cL_same 364 = .ok (.if_icmp .ne 65, 3) := by decide +kernel
theorem dL_same_367 : decode cL_same 367 = .ok (.aload_n 0, 1) := by decide +kernel
theorem dL_same_368 : decode cL_same 368 = .ok (.iload 10, 2) := by decide +kernel
theorem dL_same_370 : decode cL_same 370 = .ok (.iconst 4, 1) := by decide +kernel
theorem dL_same_371 : decode cL_same 371 = .ok (.invokevirtual 85, 3) := by decide +kernel
theorem dL_same_374 : decode cL_same 374 = .ok (.aload 7, 2) := by decide +kernel
theorem dL_same_376 : decode cL_same 376 = .ok (.bipush 7, 2) := by decide +kernel
theorem dL_same_378 : decode cL_same 378 = .ok (.iload 10, 2) := by decide +kernel
theorem dL_same_380 : decode cL_same 380 = .ok (.imul, 1) := by decide +kernel
theorem dL_same_381 : decode cL_same 381 = .ok (.iconst 3, 1) := by decide +kernel
theorem dL_same_382 : decode cL_same 382 = .ok (.iadd, 1) := by decide +kernel
theorem dL_same_383 : decode cL_same 383 = .ok (.iaload, 1) := by decide +kernel
theorem dL_same_384 : decode cL_same 384 = .ok (.iconst 1, 1) := by decide +kernel
theorem dL_same_385 : decode cL_same 385 = .ok (.isub, 1) := by decide +kernel
theorem dL_same_386 : decode cL_same 386 = .ok (.if_icmp .ne 43, 3) := by decide +kernel
theorem dL_same_389 : decode cL_same 389 = .ok (.aload_n 0, 1) := by decide +kernel
theorem dL_same_390 : decode cL_same 390 = .ok (.iload 10, 2) := by decide +kernel
theorem dL_same_392 : decode cL_same 392 = .ok (.iconst 5, 1) := by decide +kernel
theorem dL_same_393 : decode cL_same 393 = .ok (.invokevirtual 85, 3) := by decide +kernel
theorem dL_same_396 : decode cL_same 396 = .ok (.aload 7, 2) := by decide +kernel
theorem dL_same_398 : decode cL_same 398 = .ok (.bipush 7, 2) := by decide +kernel
theorem dL_same_400 : decode cL_same 400 = .ok (.iload 10, 2) := by decide +kernel
theorem dL_same_402 : decode cL_same 402 = .ok (.imul, 1) := by decide +kernel
theorem dL_same_403 : decode cL_same 403 = .ok (.iconst 4, 1) := by decide +kernel
theorem dL_same_404 : decode cL_same 404 = .ok (.iadd, 1) := by decide +kernel
theorem dL_same_405 : decode cL_same 405 = .ok (.iaload, 1) := by decide +kernel
theorem dL_same_406 : decode cL_same 406 = .ok (.if_icmp .ne 23, 3) := by decide +kernel
theorem dL_same_409 : decode cL_same 409 = .ok (.aload_n 0, 1) := by decide +kernel
theorem dL_same_410 : decode cL_same 410 = .ok (.iload 10, 2) := by decide +kernel
theorem dL_same_412 : decode cL_same 412 = .ok (.invokevirtual 88, 3) := by decide +kernel
theorem dL_same_415 : decode cL_same 415 = .ok (.aload 8, 2) := by decide +kernel
theorem dL_same_417 : decode cL_same 417 = .ok (.iconst 4, 1) := by decide +kernel
theorem dL_same_418 : decode cL_same 418 = .ok (.iload 10, 2) := by decide +kernel
theorem dL_same_420 : decode cL_same 420 = .ok (.iadd, 1) := by decide +kernel
theorem dL_same_421 : decode cL_same 421 = .ok (.iaload, 1) := by decide +kernel
theorem dL_same_422 : decode cL_same 422 = .ok (.if_icmp .ne 7, 3) := by decide +kernel
theorem dL_same_425 : decode cL_same 425 = .ok (.iconst 1, 1) := by decide +kernel
theorem dL_same_426 : decode cL_same 426 = .ok (.goto 4, 3) := by decide +kernel
theorem dL_same_429 : decode cL_same 429 = .ok (.iconst 0, 1) := by decide +kernel
theorem dL_same_430 : decode cL_same 430 = .ok (.istore 9, 2) := by decide +kernel
theorem dL_same_432 : decode cL_same 432 = .ok (.iinc 10 1, 3) := by decide +kernel
theorem dL_same_435 : decode cL_same 435 = .ok (.goto (-429), 3) := by decide +kernel
theorem dL_same_438 : decode cL_same 438 = .ok (.iconst 0, 1) := by decide +kernel
theorem dL_same_439 : decode cL_same 439 = .ok (.istore 10, 2) := by decide +kernel
theorem dL_same_441 : decode cL_same 441 = .ok (.iload 10, 2) := by decide +kernel
theorem dL_same_443 : decode cL_same 443 = .ok (.bipush 6, 2) := by decide +kernel
theorem dL_same_445 : decode cL_same 445 = .ok (.if_icmp .ge 167, 3) := by decide +kernel
theorem dL_same_448 : decode cL_same 448 = .ok (.iload 9, 2) := by decide +kernel
theorem dL_same_450 : decode cL_same 450 = .ok (.ifCond .eq 162, 3) := by decide +kernel
theorem dL_same_453 : decode cL_same 453 = .ok (.aload 4, 2) := by decide +kernel
theorem dL_same_455 : decode cL_same 455 = .ok (.iload 10, 2) := by decide +kernel
theorem dL_same_457 : decode cL_same 457 = .ok (.iaload, 1) := by decide +kernel
theorem dL_same_458 : decode cL_same 458 = .ok (.aload 4, 2) := by decide +kernel
theorem dL_same_460 : decode cL_same 460 = .ok (.bipush 6, 2) := by decide +kernel
theorem dL_same_462 : decode cL_same 462 = .ok (.iload 10, 2) := by decide +kernel
theorem dL_same_464 : decode cL_same 464 = .ok (.iadd, 1) := by decide +kernel
theorem dL_same_465 : decode cL_same 465 = .ok (.iaload, 1) := by decide +kernel
theorem dL_same_466 : decode cL_same 466 = .ok (.iadd, 1) := by decide +kernel
theorem dL_same_467 : decode cL_same 467 = .ok (.aload 4, 2) := by decide +kernel
theorem dL_same_469 : decode cL_same 469 = .ok (.bipush 12, 2) := by decide +kernel
theorem dL_same_471 : decode cL_same 471 = .ok (.iload 10, 2) := by decide +kernel
theorem dL_same_473 : decode cL_same 473 = .ok (.iadd, 1) := by decide +kernel
theorem dL_same_474 : decode cL_same 474 = .ok (.iaload, 1) := by decide +kernel
theorem dL_same_475 : decode cL_same 475 = .ok (.iadd, 1) := by decide +kernel
theorem dL_same_476 : decode cL_same 476 = .ok (.aload 4, 2) := by decide +kernel
theorem dL_same_478 : decode cL_same 478 = .ok (.bipush 18, 2) := by decide +kernel
theorem dL_same_480 : decode cL_same 480 = .ok (.iload 10, 2) := by decide +kernel
theorem dL_same_482 : decode cL_same 482 = .ok (.iadd, 1) := by decide +kernel
theorem dL_same_483 : decode cL_same 483 = .ok (.iaload, 1) := by decide +kernel
theorem dL_same_484 : decode cL_same 484 = .ok (.iadd, 1) := by decide +kernel
theorem dL_same_485 : decode cL_same 485 = .ok (.istore 11, 2) := by decide +kernel
theorem dL_same_487 : decode cL_same 487 = .ok (.iconst 0, 1) := by decide +kernel
theorem dL_same_488 : decode cL_same 488 = .ok (.istore 12, 2) := by decide +kernel
theorem dL_same_490 : decode cL_same 490 = .ok (.iconst 0, 1) := by decide +kernel
theorem dL_same_491 : decode cL_same 491 = .ok (.istore 13, 2) := by decide +kernel
theorem dL_same_493 : decode cL_same 493 = .ok (.iload 13, 2) := by decide +kernel
theorem dL_same_495 : decode cL_same 495 = .ok (.bipush 12, 2) := by decide +kernel
theorem dL_same_497 : decode cL_same 497 = .ok (.if_icmp .ge 25, 3) := by decide +kernel
theorem dL_same_500 : decode cL_same 500 = .ok (.iload 12, 2) := by decide +kernel
theorem dL_same_502 : decode cL_same 502 = .ok (.iload 13, 2) := by decide +kernel
theorem dL_same_504 : decode cL_same 504 = .ok (.iload 10, 2) := by decide +kernel
theorem dL_same_506 : decode cL_same 506 = .ok (.aload 5, 2) := by decide +kernel
theorem dL_same_508 : decode cL_same 508 = .ok (.aload 6, 2) := by decide +kernel
theorem dL_same_510 : decode cL_same 510 = .ok (.invokestatic 43, 3) := by decide +kernel
theorem dL_same_513 : decode cL_same 513 = .ok (.iadd, 1) := by decide +kernel
theorem dL_same_514 : decode cL_same 514 = .ok (.istore 12, 2) := by decide +kernel
theorem dL_same_516 : decode cL_same 516 = .ok (.iinc 13 1, 3) := by decide +kernel
theorem dL_same_519 : decode cL_same 519 = .ok (.goto (-26), 3) := by decide +kernel
theorem dL_same_522 : decode cL_same 522 = .ok (.aload_n 0, 1) := by decide +kernel
theorem dL_same_523 : decode cL_same 523 = .ok (.iload 10, 2) := by decide +kernel
theorem dL_same_525 : decode cL_same 525 = .ok (.invokevirtual 91, 3) := by decide +kernel
theorem dL_same_528 : decode cL_same 528 = .ok (.aload_n 3, 1) := by decide +kernel
theorem dL_same_529 : decode cL_same 529 = .ok (.iconst 3, 1) := by decide +kernel
theorem dL_same_530 : decode cL_same 530 = .ok (.iload 10, 2) := by decide +kernel
theorem dL_same_532 : decode cL_same 532 = .ok (.imul, 1) := by decide +kernel
theorem dL_same_533 : decode cL_same 533 = .ok (.iconst 1, 1) := by decide +kernel
theorem dL_same_534 : decode cL_same 534 = .ok (.iadd, 1) := by decide +kernel
theorem dL_same_535 : decode cL_same 535 = .ok (.iaload, 1) := by decide +kernel
theorem dL_same_536 : decode cL_same 536 = .ok (.if_icmp .ne 67, 3) := by decide +kernel
theorem dL_same_539 : decode cL_same 539 = .ok (.aload_n 0, 1) := by decide +kernel
theorem dL_same_540 : decode cL_same 540 = .ok (.iload 10, 2) := by decide +kernel
theorem dL_same_542 : decode cL_same 542 = .ok (.iconst 0, 1) := by decide +kernel
theorem dL_same_543 : decode cL_same 543 = .ok (.invokevirtual 94, 3) := by decide +kernel
theorem dL_same_546 : decode cL_same 546 = .ok (.aload_n 3, 1) := by decide +kernel
theorem dL_same_547 : decode cL_same 547 = .ok (.iconst 3, 1) := by decide +kernel
theorem dL_same_548 : decode cL_same 548 = .ok (.iload 10, 2) := by decide +kernel
theorem dL_same_550 : decode cL_same 550 = .ok (.imul, 1) := by decide +kernel
theorem dL_same_551 : decode cL_same 551 = .ok (.iconst 1, 1) := by decide +kernel
theorem dL_same_552 : decode cL_same 552 = .ok (.iadd, 1) := by decide +kernel
theorem dL_same_553 : decode cL_same 553 = .ok (.iaload, 1) := by decide +kernel
theorem dL_same_554 : decode cL_same 554 = .ok (.if_icmp .ne 49, 3) := by decide +kernel
theorem dL_same_557 : decode cL_same 557 = .ok (.aload_n 0, 1) := by decide +kernel
theorem dL_same_558 : decode cL_same 558 = .ok (.iload 10, 2) := by decide +kernel
theorem dL_same_560 : decode cL_same 560 = .ok (.iconst 1, 1) := by decide +kernel
theorem dL_same_561 : decode cL_same 561 = .ok (.invokevirtual 94, 3) := by decide +kernel
theorem dL_same_564 : decode cL_same 564 = .ok (.iload 11, 2) := by decide +kernel
theorem dL_same_566 : decode cL_same 566 = .ok (.if_icmp .ne 37, 3) := by decide +kernel
theorem dL_same_569 : decode cL_same 569 = .ok (.aload_n 0, 1) := by decide +kernel
theorem dL_same_570 : decode cL_same 570 = .ok (.iload 10, 2) := by decide +kernel
theorem dL_same_572 : decode cL_same 572 = .ok (.iconst 2, 1) := by decide +kernel
theorem dL_same_573 : decode cL_same 573 = .ok (.invokevirtual 94, 3) := by decide +kernel
theorem dL_same_576 : decode cL_same 576 = .ok (.iload 12, 2) := by decide +kernel
theorem dL_same_578 : decode cL_same 578 = .ok (.if_icmp .ne 25, 3) := by decide +kernel
theorem dL_same_581 : decode cL_same 581 = .ok (.aload_n 0, 1) := by decide +kernel
theorem dL_same_582 : decode cL_same 582 = .ok (.iload 10, 2) := by decide +kernel
theorem dL_same_584 : decode cL_same 584 = .ok (.iconst 3, 1) := by decide +kernel
theorem dL_same_585 : decode cL_same 585 = .ok (.invokevirtual 94, 3) := by decide +kernel
theorem dL_same_588 : decode cL_same 588 = .ok (.aload_n 3, 1) := by decide +kernel
theorem dL_same_589 : decode cL_same 589 = .ok (.iconst 3, 1) := by decide +kernel
theorem dL_same_590 : decode cL_same 590 = .ok (.iload 10, 2) := by decide +kernel
theorem dL_same_592 : decode cL_same 592 = .ok (.imul, 1) := by decide +kernel
theorem dL_same_593 : decode cL_same 593 = .ok (.iconst 2, 1) := by decide +kernel
theorem dL_same_594 : decode cL_same 594 = .ok (.iadd, 1) := by decide +kernel
theorem dL_same_595 : decode cL_same 595 = .ok (.iaload, 1) := by decide +kernel
theorem dL_same_596 : decode cL_same 596 = .ok (.if_icmp .ne 7, 3) := by decide +kernel
theorem dL_same_599 : decode cL_same 599 = .ok (.iconst 1, 1) := by decide +kernel
theorem dL_same_600 : decode cL_same 600 = .ok (.goto 4, 3) := by decide +kernel
theorem dL_same_603 : decode cL_same 603 = .ok (.iconst 0, 1) := by decide +kernel
theorem dL_same_604 : decode cL_same 604 = .ok (.istore 9, 2) := by decide +kernel
theorem dL_same_606 : decode cL_same 606 = .ok (.iinc 10 1, 3) := by decide +kernel
theorem dL_same_609 : decode cL_same 609 = .ok (.goto (-168), 3) := by decide +kernel
theorem dL_same_612 : decode cL_same 612 = .ok (.iload_n 1, 1) := by decide +kernel
theorem dL_same_613 : decode cL_same 613 = .ok (.iconst 2, 1) := by decide +kernel
theorem dL_same_614 : decode cL_same 614 = .ok (.ishr, 1) := by decide +kernel
theorem dL_same_615 : decode cL_same 615 = .ok (.sipush 256, 3) := by decide +kernel
theorem dL_same_618 : decode cL_same 618 = .ok (.invokestatic 51, 3) := by decide +kernel
theorem dL_same_621 : decode cL_same 621 = .ok (.istore 10, 2) := by decide +kernel
theorem dL_same_623 : decode cL_same 623 = .ok (.iload_n 1, 1) := by decide +kernel
theorem dL_same_624 : decode cL_same 624 = .ok (.bipush 6, 2) := by decide +kernel
theorem dL_same_626 : decode cL_same 626 = .ok (.ishr, 1) := by decide +kernel
theorem dL_same_627 : decode cL_same 627 = .ok (.sipush 256, 3) := by decide +kernel
theorem dL_same_630 : decode cL_same 630 = .ok (.invokestatic 51, 3) := by decide +kernel
theorem dL_same_633 : decode cL_same 633 = .ok (.istore 11, 2) := by decide +kernel
theorem dL_same_635 : decode cL_same 635 = .ok (.iload_n 1, 1) := by decide +kernel
theorem dL_same_636 : decode cL_same 636 = .ok (.bipush 9, 2) := by decide +kernel
theorem dL_same_638 : decode cL_same 638 = .ok (.ishr, 1) := by decide +kernel
theorem dL_same_639 : decode cL_same 639 = .ok (.sipush 256, 3) := by decide +kernel
theorem dL_same_642 : decode cL_same 642 = .ok (.invokestatic 51, 3) := by decide +kernel
theorem dL_same_645 : decode cL_same 645 = .ok (.istore 12, 2) := by decide +kernel
theorem dL_same_647 : decode cL_same 647 = .ok (.iload 9, 2) := by decide +kernel
theorem dL_same_649 : decode cL_same 649 = .ok (.ifCond .eq 31, 3) := by decide +kernel
theorem dL_same_652 : decode cL_same 652 = .ok (.aload_n 0, 1) := by decide +kernel
theorem dL_same_653 : decode cL_same 653 = .ok (.iload 10, 2) := by decide +kernel
theorem dL_same_655 : decode cL_same 655 = .ok (.iload 11, 2) := by decide +kernel
theorem dL_same_657 : decode cL_same 657 = .ok (.iload 12, 2) := by decide +kernel
theorem dL_same_659 : decode cL_same 659 = .ok (.invokevirtual 97, 3) := by decide +kernel
theorem dL_same_662 : decode cL_same 662 = .ok (.iload 10, 2) := by decide +kernel
theorem dL_same_664 : decode cL_same 664 = .ok (.iload 11, 2) := by decide +kernel
theorem dL_same_666 : decode cL_same 666 = .ok (.iload 12, 2) := by decide +kernel
theorem dL_same_668 : decode cL_same 668 = .ok (.aload_n 2, 1) := by decide +kernel
theorem dL_same_669 : decode cL_same 669 = .ok (.aload_n 3, 1) := by decide +kernel
theorem dL_same_670 : decode cL_same 670 = .ok (.invokestatic 100, 3) := by decide +kernel
theorem dL_same_673 : decode cL_same 673 = .ok (.if_icmp .ne 7, 3) := by decide +kernel
theorem dL_same_676 : decode cL_same 676 = .ok (.iconst 1, 1) := by decide +kernel
theorem dL_same_677 : decode cL_same 677 = .ok (.goto 4, 3) := by decide +kernel
theorem dL_same_680 : decode cL_same 680 = .ok (.iconst 0, 1) := by decide +kernel
theorem dL_same_681 : decode cL_same 681 = .ok (.ireturn, 1) := by decide +kernel
end
section
theorem dL_calls_0 : decode cL_calls 0 = .ok (.iload_n 1, 1) := by decide +kernel
theorem dL_calls_1 : decode cL_calls 1 = .ok (.ifCond .ne 14, 3) := by decide +kernel
theorem dL_calls_4 : decode cL_calls 4 = .ok (.aload_n 0, 1) := by decide +kernel
theorem dL_calls_5 : decode cL_calls 5 = .ok (.iload_n 2, 1) := by decide +kernel
theorem dL_calls_6 : decode cL_calls 6 = .ok (.iload_n 3, 1) := by decide +kernel
theorem dL_calls_7 : decode cL_calls 7 = .ok (.iload 4, 2) := by decide +kernel
theorem dL_calls_9 : decode cL_calls 9 = .ok (.invokevirtual 10, 3) := by decide +kernel
theorem dL_calls_12 : decode cL_calls 12 = .ok (.goto 71, 3) := by decide +kernel
theorem dL_calls_15 : decode cL_calls 15 = .ok (.iload_n 1, 1) := by decide +kernel
theorem dL_calls_16 : decode cL_calls 16 = .ok (.iconst 1, 1) := by decide +kernel
theorem dL_calls_17 : decode cL_calls 17 = .ok (.if_icmp .ne 14, 3) := by decide +kernel
theorem dL_calls_20 : decode cL_calls 20 = .ok (.aload_n 0, 1) := by decide +kernel
theorem dL_calls_21 : decode cL_calls 21 = .ok (.iload_n 2, 1) := by decide +kernel
theorem dL_calls_22 : decode cL_calls 22 = .ok (.iload_n 3, 1) := by decide +kernel
theorem dL_calls_23 : decode cL_calls 23 = .ok (.iload 4, 2) := by decide +kernel
theorem dL_calls_25 : decode cL_calls 25 = .ok (.invokevirtual 16, 3) := by decide +kernel
theorem dL_calls_28 : decode cL_calls 28 = .ok (.goto 55, 3) := by decide +kernel
theorem dL_calls_31 : decode cL_calls 31 = .ok (.iload_n 1, 1) := by decide +kernel
theorem dL_calls_32 : decode cL_calls 32 = .ok (.iconst 2, 1) := by decide +kernel
theorem dL_calls_33 : decode cL_calls 33 = .ok (.if_icmp .ne 14, 3) := by decide +kernel
theorem dL_calls_36 : decode cL_calls 36 = .ok (.aload_n 0, 1) := by decide +kernel
theorem dL_calls_37 : decode cL_calls 37 = .ok (.iload_n 2, 1) := by decide +kernel
theorem dL_calls_38 : decode cL_calls 38 = .ok (.iload_n 3, 1) := by decide +kernel
theorem dL_calls_39 : decode cL_calls 39 = .ok (.iload 4, 2) := by decide +kernel
theorem dL_calls_41 : decode cL_calls 41 = .ok (.invokevirtual 19, 3) := by decide +kernel
theorem dL_calls_44 : decode cL_calls 44 = .ok (.goto 39, 3) := by decide +kernel
theorem dL_calls_47 : decode cL_calls 47 = .ok (.iload_n 1, 1) := by decide +kernel
theorem dL_calls_48 : decode cL_calls 48 = .ok (.iconst 3, 1) := by decide +kernel
theorem dL_calls_49 : decode cL_calls 49 = .ok (.if_icmp .ne 12, 3) := by decide +kernel
theorem dL_calls_52 : decode cL_calls 52 = .ok (.aload_n 0, 1) := by decide +kernel
theorem dL_calls_53 : decode cL_calls 53 = .ok (.iload_n 2, 1) := by decide +kernel
theorem dL_calls_54 : decode cL_calls 54 = .ok (.iload_n 3, 1) := by decide +kernel
theorem dL_calls_55 : decode cL_calls 55 = .ok (.invokevirtual 22, 3) := by decide +kernel
theorem dL_calls_58 : decode cL_calls 58 = .ok (.goto 25, 3) := by decide +kernel
theorem dL_calls_61 : decode cL_calls 61 = .ok (.iload_n 1, 1) := by decide +kernel
theorem dL_calls_62 : decode cL_calls 62 = .ok (.iconst 4, 1) := by decide +kernel
theorem dL_calls_63 : decode cL_calls 63 = .ok (.if_icmp .ne 14, 3) := by decide +kernel
theorem dL_calls_66 : decode cL_calls 66 = .ok (.aload_n 0, 1) := by decide +kernel
theorem dL_calls_67 : decode cL_calls 67 = .ok (.iload_n 2, 1) := by decide +kernel
theorem dL_calls_68 : decode cL_calls 68 = .ok (.iload_n 3, 1) := by decide +kernel
theorem dL_calls_69 : decode cL_calls 69 = .ok (.iload 4, 2) := by decide +kernel
theorem dL_calls_71 : decode cL_calls 71 = .ok (.invokevirtual 26, 3) := by decide +kernel
theorem dL_calls_74 : decode cL_calls 74 = .ok (.goto 9, 3) := by decide +kernel
theorem dL_calls_77 : decode cL_calls 77 = .ok (.aload_n 0, 1) := by decide +kernel
theorem dL_calls_78 : decode cL_calls 78 = .ok (.iload_n 2, 1) := by decide +kernel
theorem dL_calls_79 : decode cL_calls 79 = .ok (.iload_n 3, 1) := by decide +kernel
theorem dL_calls_80 : decode cL_calls 80 = .ok (.invokevirtual 29, 3) := by decide +kernel
theorem dL_calls_83 : decode cL_calls 83 = .ok (.ireturn, 1) := by decide +kernel
theorem dL_calls_84 : decode cL_calls 84 = .ok (.astore 5, 2) := by decide +kernel
theorem dL_calls_86 : decode cL_calls 86 = .ok (.sipush (-1003), 3) := by decide +kernel
theorem dL_calls_89 : decode cL_calls 89 = .ok (.ireturn, 1) := by decide +kernel
theorem dL_trades_0 : decode cL_trades 0 = .ok (.iload_n 2, 1) := by decide +kernel
theorem dL_trades_1 : decode cL_trades 1 = .ok (.iconst 4, 1) := by decide +kernel
theorem dL_trades_2 : decode cL_trades 2 = .ok (.invokestatic 51, 3) := by decide +kernel
theorem dL_trades_5 : decode cL_trades 5 = .ok (.istore 8, 2) := by decide +kernel
theorem dL_trades_7 : decode cL_trades 7 = .ok (.aload 6, 2) := by decide +kernel
theorem dL_trades_9 : decode cL_trades 9 = .ok (.bipush 7, 2) := by decide +kernel
theorem dL_trades_11 : decode cL_trades 11 = .ok (.iload 8, 2) := by decide +kernel
theorem dL_trades_13 : decode cL_trades 13 = .ok (.imul, 1) := by decide +kernel
theorem dL_trades_14 : decode cL_trades 14 = .ok (.iconst 3, 1) := by decide +kernel
theorem dL_trades_15 : decode cL_trades 15 = .ok (.iadd, 1) := by decide +kernel
theorem dL_trades_16 : decode cL_trades 16 = .ok (.iaload, 1) := by decide +kernel
theorem dL_trades_17 : decode cL_trades 17 = .ok (.ifCond .ne 7, 3) := by decide +kernel
theorem dL_trades_20 : decode cL_trades 20 = .ok (.iconst 1, 1) := by decide +kernel
theorem dL_trades_21 : decode cL_trades 21 = .ok (.goto 4, 3) := by decide +kernel
theorem dL_trades_24 : decode cL_trades 24 = .ok (.iconst 0, 1) := by decide +kernel
theorem dL_trades_25 : decode cL_trades 25 = .ok (.istore 9, 2) := by decide +kernel
theorem dL_trades_27 : decode cL_trades 27 = .ok (.iload_n 1, 1) := by decide +kernel
theorem dL_trades_28 : decode cL_trades 28 = .ok (.ifCond .ne 150, 3) := by decide +kernel
theorem dL_trades_31 : decode cL_trades 31 = .ok (.iload_n 2, 1) := by decide +kernel
theorem dL_trades_32 : decode cL_trades 32 = .ok (.iconst 2, 1) := by decide +kernel
theorem dL_trades_33 : decode cL_trades 33 = .ok (.ishr, 1) := by decide +kernel
theorem dL_trades_34 : decode cL_trades 34 = .ok (.iconst 4, 1) := by decide +kernel
theorem dL_trades_35 : decode cL_trades 35 = .ok (.invokestatic 51, 3) := by decide +kernel
theorem dL_trades_38 : decode cL_trades 38 = .ok (.istore 10, 2) := by decide +kernel
theorem dL_trades_40 : decode cL_trades 40 = .ok (.iconst 1, 1) := by decide +kernel
theorem dL_trades_41 : decode cL_trades 41 = .ok (.iload_n 2, 1) := by decide +kernel
theorem dL_trades_42 : decode cL_trades 42 = .ok (.iconst 4, 1) := by decide +kernel
theorem dL_trades_43 : decode cL_trades 43 = .ok (.ishr, 1) := by decide +kernel
theorem dL_trades_44 : decode cL_trades 44 = .ok (.bipush 9, 2) := by decide +kernel
theorem dL_trades_46 : decode cL_trades 46 = .ok (.invokestatic 51, 3) := by decide +kernel
theorem dL_trades_49 : decode cL_trades 49 = .ok (.iadd, 1) := by decide +kernel
theorem dL_trades_50 : decode cL_trades 50 = .ok (.istore 11, 2) := by decide +kernel
theorem dL_trades_52 : decode cL_trades 52 = .ok (.iload 9, 2) := by decide +kernel
theorem dL_trades_54 : decode cL_trades 54 = .ok (.ifCond .eq 22, 3) := by decide +kernel
theorem dL_trades_57 : decode cL_trades 57 = .ok (.aload 6, 2) := by decide +kernel
theorem dL_trades_59 : decode cL_trades 59 = .ok (.bipush 7, 2) := by decide +kernel
theorem dL_trades_61 : decode cL_trades 61 = .ok (.iload 8, 2) := by decide +kernel
theorem dL_trades_63 : decode cL_trades 63 = .ok (.imul, 1) := by decide +kernel
theorem dL_trades_64 : decode cL_trades 64 = .ok (.iconst 1, 1) := by decide +kernel
theorem dL_trades_65 : decode cL_trades 65 = .ok (.iadd, 1) := by decide +kernel
theorem dL_trades_66 : decode cL_trades 66 = .ok (.iaload, 1) := by decide +kernel
theorem dL_trades_67 : decode cL_trades 67 = .ok (.bipush 10, 2) := by decide +kernel
theorem dL_trades_69 : decode cL_trades 69 = .ok (.if_icmp .ge 7, 3) := by decide +kernel
theorem dL_trades_72 : decode cL_trades 72 = .ok (.iconst 1, 1) := by decide +kernel
theorem dL_trades_73 : decode cL_trades 73 = .ok (.goto 4, 3) := by decide +kernel
theorem dL_trades_76 : decode cL_trades 76 = .ok (.iconst 0, 1) := by decide +kernel
theorem dL_trades_77 : decode cL_trades 77 = .ok (.istore 12, 2) := by decide +kernel
theorem dL_trades_79 : decode cL_trades 79 = .ok (.iload 12, 2) := by decide +kernel
theorem dL_trades_81 : decode cL_trades 81 = .ok (.ifCond .eq 56, 3) := by decide +kernel
theorem dL_trades_84 : decode cL_trades 84 = .ok (.aload 6, 2) := by decide +kernel
theorem dL_trades_86 : decode cL_trades 86 = .ok (.bipush 7, 2) := by decide +kernel
theorem dL_trades_88 : decode cL_trades 88 = .ok (.iload 8, 2) := by decide +kernel
theorem dL_trades_90 : decode cL_trades 90 = .ok (.imul, 1) := by decide +kernel
theorem dL_trades_91 : decode cL_trades 91 = .ok (.iconst 3, 1) := by decide +kernel
theorem dL_trades_92 : decode cL_trades 92 = .ok (.iadd, 1) := by decide +kernel
theorem dL_trades_93 : decode cL_trades 93 = .ok (.iload 10, 2) := by decide +kernel
theorem dL_trades_95 : decode cL_trades 95 = .ok (.iconst 1, 1) := by decide +kernel
theorem dL_trades_96 : decode cL_trades 96 = .ok (.iadd, 1) := by decide +kernel
theorem dL_trades_97 : decode cL_trades 97 = .ok (.iastore, 1) := by decide +kernel
theorem dL_trades_98 : decode cL_trades 98 = .ok (.aload 6, 2) := by decide +kernel
theorem dL_trades_100 : decode cL_trades 100 = .ok (.bipush 7, 2) := by decide +kernel
theorem dL_trades_102 : decode cL_trades 102 = .ok (.iload 8, 2) := by decide +kernel
theorem dL_trades_104 : decode cL_trades 104 = .ok (.imul, 1) := by decide +kernel
theorem dL_trades_105 : decode cL_trades 105 = .ok (.iconst 4, 1) := by decide +kernel
theorem dL_trades_106 : decode cL_trades 106 = .ok (.iadd, 1) := by decide +kernel
theorem dL_trades_107 : decode cL_trades 107 = .ok (.iload 11, 2) := by decide +kernel
theorem dL_trades_109 : decode cL_trades 109 = .ok (.iastore, 1) := by decide +kernel
theorem dL_trades_110 : decode cL_trades 110 = .ok (.aload 6, 2) := by decide +kernel
theorem dL_trades_112 : decode cL_trades 112 = .ok (.bipush 7, 2) := by decide +kernel
theorem dL_trades_114 : decode cL_trades 114 = .ok (.iload 8, 2) := by decide +kernel
theorem dL_trades_116 : decode cL_trades 116 = .ok (.imul, 1) := by decide +kernel
theorem dL_trades_117 : decode cL_trades 117 = .ok (.iconst 5, 1) := by decide +kernel
theorem dL_trades_118 : decode cL_trades 118 = .ok (.iadd, 1) := by decide +kernel
theorem dL_trades_119 : decode cL_trades 119 = .ok (.iconst 1, 1) := by decide +kernel
theorem dL_trades_120 : decode cL_trades 120 = .ok (.iload 8, 2) := by decide +kernel
theorem dL_trades_122 : decode cL_trades 122 = .ok (.aload_n 3, 1) := by decide +kernel
theorem dL_trades_123 : decode cL_trades 123 = .ok (.aload 4, 2) := by decide +kernel
theorem dL_trades_125 : decode cL_trades 125 = .ok (.aload 5, 2) := by decide +kernel
theorem dL_trades_127 : decode cL_trades 127 = .ok (.aload 6, 2) := by decide +kernel
theorem dL_trades_129 : decode cL_trades 129 = .ok (.invokestatic 67, 3) := by decide +kernel
theorem dL_trades_132 : decode cL_trades 132 = .ok (.bipush 100, 2) := by decide +kernel
theorem dL_trades_134 : decode cL_trades 134 = .ok (.idiv, 1) := by decide +kernel
theorem dL_trades_135 : decode cL_trades 135 = .ok (.iadd, 1) := by decide +kernel
theorem dL_trades_136 : decode cL_trades 136 = .ok (.iastore, 1) := by decide +kernel
theorem dL_trades_137 : decode cL_trades 137 = .ok (.aload_n 0, 1) := by decide +kernel
theorem dL_trades_138 : decode cL_trades 138 = .ok (.iconst 4, 1) := by decide +kernel
theorem dL_trades_139 : decode cL_trades 139 = .ok (.iload 8, 2) := by decide +kernel
theorem dL_trades_141 : decode cL_trades 141 = .ok (.iload 10, 2) := by decide +kernel
theorem dL_trades_143 : decode cL_trades 143 = .ok (.iload 11, 2) := by decide +kernel
theorem dL_trades_145 : decode cL_trades 145 = .ok (.invokestatic 54, 3) := by decide +kernel
theorem dL_trades_148 : decode cL_trades 148 = .ok (.iload 12, 2) := by decide +kernel
theorem dL_trades_150 : decode cL_trades 150 = .ok (.ifCond .eq 16, 3) := by decide +kernel
theorem dL_trades_153 : decode cL_trades 153 = .ok (.aload 6, 2) := by decide +kernel
theorem dL_trades_155 : decode cL_trades 155 = .ok (.bipush 7, 2) := by decide +kernel
theorem dL_trades_157 : decode cL_trades 157 = .ok (.iload 8, 2) := by decide +kernel
theorem dL_trades_159 : decode cL_trades 159 = .ok (.imul, 1) := by decide +kernel
theorem dL_trades_160 : decode cL_trades 160 = .ok (.iconst 5, 1) := by decide +kernel
theorem dL_trades_161 : decode cL_trades 161 = .ok (.iadd, 1) := by decide +kernel
theorem dL_trades_162 : decode cL_trades 162 = .ok (.iaload, 1) := by decide +kernel
theorem dL_trades_163 : decode cL_trades 163 = .ok (.goto 6, 3) := by decide +kernel
theorem dL_trades_166 : decode cL_trades 166 = .ok (.sipush (-1003), 3) := by decide +kernel
theorem dL_trades_169 : decode cL_trades 169 = .ok (.if_icmp .ne 7, 3) := by decide +kernel
theorem dL_trades_172 : decode cL_trades 172 = .ok (.iconst 1, 1) := by decide +kernel
theorem dL_trades_173 : decode cL_trades 173 = .ok (.goto 4, 3) := by decide +kernel
theorem dL_trades_176 : decode cL_trades 176 = .ok (.iconst 0, 1) := by decide +kernel
theorem dL_trades_177 : decode cL_trades 177 = .ok (.ireturn, 1) := by decide +kernel
theorem dL_trades_178 : decode cL_trades 178 = .ok (.iload_n 1, 1) := by decide +kernel
theorem dL_trades_179 : decode cL_trades 179 = .ok (.iconst 1, 1) := by decide +kernel
theorem dL_trades_180 : decode cL_trades 180 = .ok (.if_icmp .ne 111, 3) := by decide +kernel
theorem dL_trades_183 : decode cL_trades 183 = .ok (.iconst 1, 1) := by decide +kernel
theorem dL_trades_184 : decode cL_trades 184 = .ok (.iload_n 2, 1) := by decide +kernel
theorem dL_trades_185 : decode cL_trades 185 = .ok (.iconst 3, 1) := by decide +kernel
theorem dL_trades_186 : decode cL_trades 186 = .ok (.ishr, 1) := by decide +kernel
theorem dL_trades_187 : decode cL_trades 187 = .ok (.sipush 9000, 3) := by decide +kernel
theorem dL_trades_190 : decode cL_trades 190 = .ok (.invokestatic 51, 3) := by decide +kernel
theorem dL_trades_193 : decode cL_trades 193 = .ok (.iadd, 1) := by decide +kernel
theorem dL_trades_194 : decode cL_trades 194 = .ok (.istore 10, 2) := by decide +kernel
theorem dL_trades_196 : decode cL_trades 196 = .ok (.iload 9, 2) := by decide +kernel
theorem dL_trades_198 : decode cL_trades 198 = .ok (.ifCond .eq 18, 3) := by decide +kernel
theorem dL_trades_201 : decode cL_trades 201 = .ok (.aload 6, 2) := by decide +kernel
theorem dL_trades_203 : decode cL_trades 203 = .ok (.bipush 7, 2) := by decide +kernel
theorem dL_trades_205 : decode cL_trades 205 = .ok (.iload 8, 2) := by decide +kernel
theorem dL_trades_207 : decode cL_trades 207 = .ok (.imul, 1) := by decide +kernel
theorem dL_trades_208 : decode cL_trades 208 = .ok (.iaload, 1) := by decide +kernel
theorem dL_trades_209 : decode cL_trades 209 = .ok (.ifCond .le 7, 3) := by decide +kernel
theorem dL_trades_212 : decode cL_trades 212 = .ok (.iconst 1, 1) := by decide +kernel
theorem dL_trades_213 : decode cL_trades 213 = .ok (.goto 4, 3) := by decide +kernel
theorem dL_trades_216 : decode cL_trades 216 = .ok (.iconst 0, 1) := by decide +kernel
theorem dL_trades_217 : decode cL_trades 217 = .ok (.istore 11, 2) := by decide +kernel
theorem dL_trades_219 : decode cL_trades 219 = .ok (.aload 6, 2) := by decide +kernel
theorem dL_trades_221 : decode cL_trades 221 = .ok (.bipush 7, 2) := by decide +kernel
theorem dL_trades_223 : decode cL_trades 223 = .ok (.iload 8, 2) := by decide +kernel
theorem dL_trades_225 : decode cL_trades 225 = .ok (.imul, 1) := by decide +kernel
theorem dL_trades_226 : decode cL_trades 226 = .ok (.iconst 2, 1) := by decide +kernel
theorem dL_trades_227 : decode cL_trades 227 = .ok (.iadd, 1) := by decide +kernel
theorem dL_trades_228 : decode cL_trades 228 = .ok (.iload 11, 2) := by decide +kernel
theorem dL_trades_230 : decode cL_trades 230 = .ok (.ifCond .eq 8, 3) := by decide +kernel
theorem dL_trades_233 : decode cL_trades 233 = .ok (.iload 10, 2) := by decide +kernel
theorem dL_trades_235 : decode cL_trades 235 = .ok (.goto 13, 3) := by decide +kernel
theorem dL_trades_238 : decode cL_trades 238 = .ok (.aload 6, 2) := by decide +kernel
theorem dL_trades_240 : decode cL_trades 240 = .ok (.bipush 7, 2) := by decide +kernel
theorem dL_trades_242 : decode cL_trades 242 = .ok (.iload 8, 2) := by decide +kernel
theorem dL_trades_244 : decode cL_trades 244 = .ok (.imul, 1) := by decide +kernel
theorem dL_trades_245 : decode cL_trades 245 = .ok (.iconst 2, 1) := by decide +kernel
theorem dL_trades_246 : decode cL_trades 246 = .ok (.iadd, 1) := by decide +kernel
theorem dL_trades_247 : decode cL_trades 247 = .ok (.iaload, 1) := by decide +kernel
theorem dL_trades_248 : decode cL_trades 248 = .ok (.iastore, 1) := by decide +kernel
theorem dL_trades_249 : decode cL_trades 249 = .ok (.aload_n 0, 1) := by decide +kernel
theorem dL_trades_250 : decode cL_trades 250 = .ok (.iconst 5, 1) := by decide +kernel
theorem dL_trades_251 : decode cL_trades 251 = .ok (.iload 8, 2) := by decide +kernel
theorem dL_trades_253 : decode cL_trades 253 = .ok (.iload 10, 2) := by decide +kernel
theorem dL_trades_255 : decode cL_trades 255 = .ok (.iconst 0, 1) := by decide +kernel
theorem dL_trades_256 : decode cL_trades 256 = .ok (.invokestatic 54, 3) := by decide +kernel
theorem dL_trades_259 : decode cL_trades 259 = .ok (.iload 11, 2) := by decide +kernel
theorem dL_trades_261 : decode cL_trades 261 = .ok (.ifCond .eq 18, 3) := by decide +kernel
theorem dL_trades_264 : decode cL_trades 264 = .ok (.iload 8, 2) := by decide +kernel
theorem dL_trades_266 : decode cL_trades 266 = .ok (.aload_n 3, 1) := by decide +kernel
theorem dL_trades_267 : decode cL_trades 267 = .ok (.aload 4, 2) := by decide +kernel
theorem dL_trades_269 : decode cL_trades 269 = .ok (.aload 5, 2) := by decide +kernel
theorem dL_trades_271 : decode cL_trades 271 = .ok (.aload 6, 2) := by decide +kernel
theorem dL_trades_273 : decode cL_trades 273 = .ok (.invokestatic 67, 3) := by decide +kernel
theorem dL_trades_276 : decode cL_trades 276 = .ok (.goto 6, 3) := by decide +kernel
theorem dL_trades_279 : decode cL_trades 279 = .ok (.sipush (-1003), 3) := by decide +kernel
theorem dL_trades_282 : decode cL_trades 282 = .ok (.if_icmp .ne 7, 3) := by decide +kernel
theorem dL_trades_285 : decode cL_trades 285 = .ok (.iconst 1, 1) := by decide +kernel
theorem dL_trades_286 : decode cL_trades 286 = .ok (.goto 4, 3) := by decide +kernel
theorem dL_trades_289 : decode cL_trades 289 = .ok (.iconst 0, 1) := by decide +kernel
theorem dL_trades_290 : decode cL_trades 290 = .ok (.ireturn, 1) := by decide +kernel
theorem dL_trades_291 : decode cL_trades 291 = .ok (.iload_n 2, 1) := by decide +kernel
theorem dL_trades_292 : decode cL_trades 292 = .ok (.iconst 4, 1) := by decide +kernel
theorem dL_trades_293 : decode cL_trades 293 = .ok (.invokestatic 51, 3) := by decide +kernel
theorem dL_trades_296 : decode cL_trades 296 = .ok (.istore 10, 2) := by decide +kernel
theorem dL_trades_298 : decode cL_trades 298 = .ok (.aload 7, 2) := by decide +kernel
theorem dL_trades_300 : decode cL_trades 300 = .ok (.iload 10, 2) := by decide +kernel
theorem dL_trades_302 : decode cL_trades 302 = .ok (.iaload, 1) := by decide +kernel
theorem dL_trades_303 : decode cL_trades 303 = .ok (.istore 11, 2) := by decide +kernel
theorem dL_trades_305 : decode cL_trades 305 = .ok (.aload 7, 2) := by decide +kernel
theorem dL_trades_307 : decode cL_trades 307 = .ok (.iload 10, 2) := by decide +kernel
theorem dL_trades_309 : decode cL_trades 309 = .ok (.bipush 30, 2) := by decide +kernel
theorem dL_trades_311 : decode cL_trades 311 = .ok (.iload_n 2, 1) := by decide +kernel
theorem dL_trades_312 : decode cL_trades 312 = .ok (.iconst 3, 1) := by decide +kernel
theorem dL_trades_313 : decode cL_trades 313 = .ok (.ishr, 1) := by decide +kernel
theorem dL_trades_314 : decode cL_trades 314 = .ok (.bipush 41, 2) := by decide +kernel
theorem dL_trades_316 : decode cL_trades 316 = .ok (.invokestatic 51, 3) := by decide +kernel
theorem dL_trades_319 : decode cL_trades 319 = .ok (.iadd, 1) := by decide +kernel
theorem dL_trades_320 : decode cL_trades 320 = .ok (.iastore, 1) := by decide +kernel
theorem dL_trades_321 : decode cL_trades 321 = .ok (.aload_n 0, 1) := by decide +kernel
theorem dL_trades_322 : decode cL_trades 322 = .ok (.iload 10, 2) := by decide +kernel
theorem dL_trades_324 : decode cL_trades 324 = .ok (.aload 7, 2) := by decide +kernel
theorem dL_trades_326 : decode cL_trades 326 = .ok (.iload 10, 2) := by decide +kernel
theorem dL_trades_328 : decode cL_trades 328 = .ok (.iaload, 1) := by decide +kernel
theorem dL_trades_329 : decode cL_trades 329 = .ok (.invokevirtual 70, 3) := by decide +kernel
theorem dL_trades_332 : decode cL_trades 332 = .ok (.iload 11, 2) := by decide +kernel
theorem dL_trades_334 : decode cL_trades 334 = .ok (.if_icmp .ne 7, 3) := by decide +kernel
theorem dL_trades_337 : decode cL_trades 337 = .ok (.iconst 1, 1) := by decide +kernel
theorem dL_trades_338 : decode cL_trades 338 = .ok (.goto 4, 3) := by decide +kernel
theorem dL_trades_341 : decode cL_trades 341 = .ok (.iconst 0, 1) := by decide +kernel
theorem dL_trades_342 : decode cL_trades 342 = .ok (.ireturn, 1) := by decide +kernel
theorem dL_day_0 : decode cL_day 0 = .ok (.iconst 0, 1) := by decide +kernel
theorem dL_day_1 : decode cL_day 1 = .ok (.istore_n 2, 1) := by decide +kernel
theorem dL_day_2 : decode cL_day 2 = .ok (.iload_n 2, 1) := by decide +kernel
theorem dL_day_3 : decode cL_day 3 = .ok (.iconst 4, 1) := by decide +kernel
theorem dL_day_4 : decode cL_day 4 = .ok (.if_icmp .ge 110, 3) := by decide +kernel
theorem dL_day_7 : decode cL_day 7 = .ok (.aload_n 0, 1) := by decide +kernel
theorem dL_day_8 : decode cL_day 8 = .ok (.bipush 7, 2) := by decide +kernel
theorem dL_day_10 : decode cL_day 10 = .ok (.iload_n 2, 1) := by decide +kernel
theorem dL_day_11 : decode cL_day 11 = .ok (.imul, 1) := by decide +kernel
theorem dL_day_12 : decode cL_day 12 = .ok (.iconst 3, 1) := by decide +kernel
theorem dL_day_13 : decode cL_day 13 = .ok (.iadd, 1) := by decide +kernel
theorem dL_day_14 : decode cL_day 14 = .ok (.iaload, 1) := by decide +kernel
theorem dL_day_15 : decode cL_day 15 = .ok (.iconst 1, 1) := by decide +kernel
theorem dL_day_16 : decode cL_day 16 = .ok (.isub, 1) := by decide +kernel
theorem dL_day_17 : decode cL_day 17 = .ok (.istore_n 3, 1) := by decide +kernel
theorem dL_day_18 : decode cL_day 18 = .ok (.iload_n 3, 1) := by decide +kernel
theorem dL_day_19 : decode cL_day 19 = .ok (.ifCond .lt 89, 3) := by decide +kernel
theorem dL_day_22 : decode cL_day 22 = .ok (.aload_n 1, 1) := by decide +kernel
theorem dL_day_23 : decode cL_day 23 = .ok (.iconst 4, 1) := by decide +kernel
theorem dL_day_24 : decode cL_day 24 = .ok (.iload_n 3, 1) := by decide +kernel
theorem dL_day_25 : decode cL_day 25 = .ok (.iadd, 1) := by decide +kernel
theorem dL_day_26 : decode cL_day 26 = .ok (.dup2, 1) := by decide +kernel
theorem dL_day_27 : decode cL_day 27 = .ok (.iaload, 1) := by decide +kernel
theorem dL_day_28 : decode cL_day 28 = .ok (.aload_n 0, 1) := by decide +kernel
theorem dL_day_29 : decode cL_day 29 = .ok (.bipush 7, 2) := by decide +kernel
theorem dL_day_31 : decode cL_day 31 = .ok (.iload_n 2, 1) := by decide +kernel
theorem dL_day_32 : decode cL_day 32 = .ok (.imul, 1) := by decide +kernel
theorem dL_day_33 : decode cL_day 33 = .ok (.iconst 5, 1) := by decide +kernel
theorem dL_day_34 : decode cL_day 34 = .ok (.iadd, 1) := by decide +kernel
theorem dL_day_35 : decode cL_day 35 = .ok (.iaload, 1) := by decide +kernel
theorem dL_day_36 : decode cL_day 36 = .ok (.iadd, 1) := by decide +kernel
theorem dL_day_37 : decode cL_day 37 = .ok (.iastore, 1) := by decide +kernel
theorem dL_day_38 : decode cL_day 38 = .ok (.aload_n 0, 1) := by decide +kernel
theorem dL_day_39 : decode cL_day 39 = .ok (.bipush 7, 2) := by decide +kernel
theorem dL_day_41 : decode cL_day 41 = .ok (.iload_n 2, 1) := by decide +kernel
theorem dL_day_42 : decode cL_day 42 = .ok (.imul, 1) := by decide +kernel
theorem dL_day_43 : decode cL_day 43 = .ok (.iconst 1, 1) := by decide +kernel
theorem dL_day_44 : decode cL_day 44 = .ok (.iadd, 1) := by decide +kernel
theorem dL_day_45 : decode cL_day 45 = .ok (.dup2, 1) := by decide +kernel
theorem dL_day_46 : decode cL_day 46 = .ok (.iaload, 1) := by decide +kernel
theorem dL_day_47 : decode cL_day 47 = .ok (.aload_n 1, 1) := by decide +kernel
theorem dL_day_48 : decode cL_day 48 = .ok (.iload_n 3, 1) := by decide +kernel
theorem dL_day_49 : decode cL_day 49 = .ok (.iaload, 1) := by decide +kernel
theorem dL_day_50 : decode cL_day 50 = .ok (.bipush 40, 2) := by decide +kernel
theorem dL_day_52 : decode cL_day 52 = .ok (.if_icmp .lt 11, 3) := by decide +kernel
theorem dL_day_55 : decode cL_day 55 = .ok (.aload_n 1, 1) := by decide +kernel
theorem dL_day_56 : decode cL_day 56 = .ok (.iload_n 3, 1) := by decide +kernel
theorem dL_day_57 : decode cL_day 57 = .ok (.iaload, 1) := by decide +kernel
theorem dL_day_58 : decode cL_day 58 = .ok (.bipush 60, 2) := by decide +kernel
theorem dL_day_60 : decode cL_day 60 = .ok (.if_icmp .le 7, 3) := by decide +kernel
theorem dL_day_63 : decode cL_day 63 = .ok (.iconst 1, 1) := by decide +kernel
theorem dL_day_64 : decode cL_day 64 = .ok (.goto 4, 3) := by decide +kernel
theorem dL_day_67 : decode cL_day 67 = .ok (.iconst 0, 1) := by decide +kernel
theorem dL_day_68 : decode cL_day 68 = .ok (.iadd, 1) := by decide +kernel
theorem dL_day_69 : decode cL_day 69 = .ok (.iastore, 1) := by decide +kernel
theorem dL_day_70 : decode cL_day 70 = .ok (.aload_n 0, 1) := by decide +kernel
theorem dL_day_71 : decode cL_day 71 = .ok (.bipush 7, 2) := by decide +kernel
theorem dL_day_73 : decode cL_day 73 = .ok (.iload_n 2, 1) := by decide +kernel
theorem dL_day_74 : decode cL_day 74 = .ok (.imul, 1) := by decide +kernel
theorem dL_day_75 : decode cL_day 75 = .ok (.iconst 4, 1) := by decide +kernel
theorem dL_day_76 : decode cL_day 76 = .ok (.iadd, 1) := by decide +kernel
theorem dL_day_77 : decode cL_day 77 = .ok (.dup2, 1) := by decide +kernel
theorem dL_day_78 : decode cL_day 78 = .ok (.iaload, 1) := by decide +kernel
theorem dL_day_79 : decode cL_day 79 = .ok (.iconst 1, 1) := by decide +kernel
theorem dL_day_80 : decode cL_day 80 = .ok (.isub, 1) := by decide +kernel
theorem dL_day_81 : decode cL_day 81 = .ok (.iastore, 1) := by decide +kernel
theorem dL_day_82 : decode cL_day 82 = .ok (.aload_n 0, 1) := by decide +kernel
theorem dL_day_83 : decode cL_day 83 = .ok (.bipush 7, 2) := by decide +kernel
theorem dL_day_85 : decode cL_day 85 = .ok (.iload_n 2, 1) := by decide +kernel
theorem dL_day_86 : decode cL_day 86 = .ok (.imul, 1) := by decide +kernel
theorem dL_day_87 : decode cL_day 87 = .ok (.iconst 3, 1) := by decide +kernel
theorem dL_day_88 : decode cL_day 88 = .ok (.iadd, 1) := by decide +kernel
theorem dL_day_89 : decode cL_day 89 = .ok (.aload_n 0, 1) := by decide +kernel
theorem dL_day_90 : decode cL_day 90 = .ok (.bipush 7, 2) := by decide +kernel
theorem dL_day_92 : decode cL_day 92 = .ok (.iload_n 2, 1) := by decide +kernel
theorem dL_day_93 : decode cL_day 93 = .ok (.imul, 1) := by decide +kernel
theorem dL_day_94 : decode cL_day 94 = .ok (.iconst 4, 1) := by decide +kernel
theorem dL_day_95 : decode cL_day 95 = .ok (.iadd, 1) := by decide +kernel
theorem dL_day_96 : decode cL_day 96 = .ok (.iaload, 1) := by decide +kernel
theorem dL_day_97 : decode cL_day 97 = .ok (.ifCond .le 9, 3) := by decide +kernel
theorem dL_day_100 : decode cL_day 100 = .ok (.iload_n 3, 1) := by decide +kernel
theorem dL_day_101 : decode cL_day 101 = .ok (.iconst 1, 1) := by decide +kernel
theorem dL_day_102 : decode cL_day 102 = .ok (.iadd, 1) := by decide +kernel
theorem dL_day_103 : decode cL_day 103 = .ok (.goto 4, 3) := by decide +kernel
theorem dL_day_106 : decode cL_day 106 = .ok (.iconst 0, 1) := by decide +kernel
theorem dL_day_107 : decode cL_day 107 = .ok (.iastore, 1) := by decide +kernel
theorem dL_day_108 : decode cL_day 108 = .ok (.iinc 2 1, 3) := by decide +kernel
theorem dL_day_111 : decode cL_day 111 = .ok (.goto (-109), 3) := by decide +kernel
theorem dL_day_114 : decode cL_day 114 = .ok (.return_, 1) := by decide +kernel
end
section
/-! The law's small methods. -/
set_option maxRecDepth 100000 in
set_option maxHeartbeats 4000000 in
theorem c_low (l : Launch) (D : va_G) (cI cJ : ClassId) (w : va_W) (v : Int32) (n a : Nat) (h0 : 0 < n) (hn : n < 2 ^ 31) (ha : lowN v n = a) : MC l yL_low wsL_low 0 0 D (tyIJ cI cJ) [.int (v), .int (nI (n))] w w none (some (.int (nI a))) 0 := by
  refine MC.ofG (cc := cL_low) (maxL := 2) (ret := (some .int)) [(0, .int (v)), (1, .int (nI (n)))] (by decide) rfl (Nat.le_of_ble_eq_true rfl) rfl ?_
  intro p e s m args below meth c C hr hout
  refine g_iload_n 0 C rfl dL_low_0 rfl ?_
  refine g_ldc 2147483647 C (by decide +kernel) dL_low_1 ?_
  refine g_iand C dL_low_3 ?_
  refine g_is (nI (v.toBitVec.toNat % 2 ^ 31)) (pk_and v 31 (by decide)) ?_
  refine g_iload_n 1 C rfl dL_low_4 rfl ?_
  refine g_iremN (v.toBitVec.toNat % 2 ^ 31) n C (by omega) (by omega) (by omega) dL_low_5 ?_
  exact g_iret C hr rfl dL_low_6 (Nat.zero_le _) (Nat.zero_le _) rfl (by rw [← ha]; rfl) rfl
set_option maxRecDepth 100000 in
set_option maxHeartbeats 4000000 in
theorem c_at (l : Launch) (D : va_G) (cI cJ : ClassId) (w : va_W) (a b : Nat) : MC l yL_at wsL_at 0 0 D (tyIJ cI cJ) [.int (nI (a)), .int (nI (b))] w w none (some (.int (nI (3 * a + b)))) 0 := by
  refine MC.ofG (cc := cL_at) (maxL := 2) (ret := (some .int)) [(0, .int (nI (a))), (1, .int (nI (b)))] (by decide) rfl (Nat.le_of_ble_eq_true rfl) rfl ?_
  intro p e s m args below meth c C hr hout
  refine g_iconst 3 C dL_at_0 (by decide) ?_
  refine g_iload_n 0 C rfl dL_at_1 rfl ?_
  refine g_imulN 3 a C dL_at_2 ?_
  refine g_iload_n 1 C rfl dL_at_3 rfl ?_
  refine g_iaddN (3 * a) b C dL_at_4 ?_
  exact g_iret C hr rfl dL_at_5 (Nat.zero_le _) (Nat.zero_le _) rfl rfl rfl
set_option maxRecDepth 100000 in
set_option maxHeartbeats 4000000 in
theorem c_shade (l : Launch) (D : va_G) (cI cJ : ClassId) (w : va_W) (x y : Int32) : MC l yL_shade wsL_shade 0 0 D (tyIJ cI cJ) [.int (x), .int (y)] w w none (some (.int (if y = 0 then -1 else x / y))) 0 := by
  refine MC.ofG (cc := cL_shade) (maxL := 2) (ret := (some .int)) [(0, .int (x)), (1, .int (y))] (by decide) rfl (Nat.le_of_ble_eq_true rfl) rfl ?_
  intro p e s m args below meth c C hr hout
  refine g_iload_n 1 C rfl dL_shade_0 rfl ?_
  refine g_if_ne 8 C dL_shade_1 (by decide) (fun c_1_1 => ?_) (fun c_1_1 => ?_)
  ·
    refine g_iload_n 0 C rfl dL_shade_8 rfl ?_
    refine g_iload_n 1 C rfl dL_shade_9 rfl ?_
    refine g_idiv C c_1_1 dL_shade_10 ?_
    exact g_iret C hr rfl dL_shade_11 (Nat.zero_le _) (Nat.zero_le _) rfl (by rw [if_neg c_1_1]) rfl
  ·
    refine g_iconst (-1) C dL_shade_4 (by decide) ?_
    refine g_goto 11 C dL_shade_5 (by decide) ?_
    exact g_iret C hr rfl dL_shade_11 (Nat.zero_le _) (Nat.zero_le _) rfl (by rw [if_pos c_1_1]) rfl
set_option maxRecDepth 100000 in
set_option maxHeartbeats 4000000 in
theorem c_grams (l : Launch) (D : va_G) (cI cJ : ClassId) (g : Nat → Nat) (τ : gS) (k t : Nat) (hk : k < 12) (ht : t < 6) : MC l yL_grams wsL_grams 0 0 D (tyIJ cI cJ) [.int (nI (k)), .int (nI (t)), .ref (g 3), .ref (g 4)] (wL cI g τ) (wL cI g τ) none (some (.int (grL τ k t))) 0 := by
  refine MC.ofG (cc := cL_grams) (maxL := 5) (ret := (some .int)) [(0, .int (nI (k))), (1, .int (nI (t))), (2, .ref (g 3)), (3, .ref (g 4))] (by decide) rfl (Nat.le_of_ble_eq_true rfl) rfl ?_
  intro p e s m args below meth c C hr hout
  refine g_iload_n 1 C rfl dL_grams_0 rfl ?_
  refine g_iconst 3 C dL_grams_1 (by decide) ?_
  refine g_icmp_ge 11 C dL_grams_2 (by decide) (fun c_2_1 => ?_) (fun c_2_1 => ?_)
  ·
    have d_2_1 : 3 ≤ t := (nI_leI (a := 3) (b := t) (by omega) (by omega)).mp c_2_1
    refine g_aload_n 3 C rfl dL_grams_11 rfl ?_
    refine g_iload_n 0 C rfl dL_grams_12 rfl ?_
    refine g_ialdN (cA := cI) (n := 12) (a := g 4) (f := τ.2 4) k 4 0 C rfl rfl (by omega) (by decide) dL_grams_13 ?_
    refine g_istore [(4, .int (τ.2 4 k)), (0, .int (nI (k))), (1, .int (nI (t))), (2, .ref (g 3)), (3, .ref (g 4))] C dL_grams_14 (by decide) rfl ?_
    refine g_iload 0 C rfl dL_grams_16 ?_
    refine g_bipush 10 C dL_grams_18 (by decide) ?_
    refine g_iload_n 2 C rfl dL_grams_20 rfl ?_
    refine g_iconst 3 C dL_grams_21 (by decide) ?_
    refine g_iremN t 3 C (by omega) (by omega) (by omega) dL_grams_22 ?_
    refine g_imulN 10 (t % 3) C dL_grams_23 ?_
    refine g_ishr C dL_grams_24 ?_
    refine g_sipush 1023 C dL_grams_25 (by decide) ?_
    refine g_iand C dL_grams_28 ?_
    exact g_iret C hr rfl dL_grams_29 (Nat.zero_le _) (Nat.zero_le _) rfl (by rw [grL, if_neg (show ¬ t < 3 by omega)]) rfl
  ·
    have d_2_1 : ¬ 3 ≤ t := fun zz => c_2_1 ((nI_leI (a := 3) (b := t) (by omega) (by omega)).mpr zz)
    refine g_aload_n 2 C rfl dL_grams_5 rfl ?_
    refine g_iload_n 0 C rfl dL_grams_6 rfl ?_
    refine g_ialdN (cA := cI) (n := 12) (a := g 3) (f := τ.2 3) k 3 0 C rfl rfl (by omega) (by decide) dL_grams_7 ?_
    refine g_goto 14 C dL_grams_8 (by decide) ?_
    refine g_istore [(4, .int (τ.2 3 k)), (0, .int (nI (k))), (1, .int (nI (t))), (2, .ref (g 3)), (3, .ref (g 4))] C dL_grams_14 (by decide) rfl ?_
    refine g_iload 0 C rfl dL_grams_16 ?_
    refine g_bipush 10 C dL_grams_18 (by decide) ?_
    refine g_iload_n 2 C rfl dL_grams_20 rfl ?_
    refine g_iconst 3 C dL_grams_21 (by decide) ?_
    refine g_iremN t 3 C (by omega) (by omega) (by omega) dL_grams_22 ?_
    refine g_imulN 10 (t % 3) C dL_grams_23 ?_
    refine g_ishr C dL_grams_24 ?_
    refine g_sipush 1023 C dL_grams_25 (by decide) ?_
    refine g_iand C dL_grams_28 ?_
    exact g_iret C hr rfl dL_grams_29 (Nat.zero_le _) (Nat.zero_le _) rfl (by rw [grL, if_pos (show t < 3 by omega)]) rfl
set_option maxRecDepth 100000 in
set_option maxHeartbeats 4000000 in
theorem c_total (l : Launch) (D : va_G) (cI cJ : ClassId) (g : Nat → Nat) (τ : gS) (x : Nat) (hx : x < 4) : MC l yL_total wsL_total 0 0 D (tyIJ cI cJ) [.int (nI (x)), .ref (g 2)] (wL cI g τ) (wL cI g τ) none (some (.int (potL τ x 6))) 0 := by
  refine MC.ofG (cc := cL_total) (maxL := 4) (ret := (some .int)) [(0, .int (nI (x))), (1, .ref (g 2))] (by decide) rfl (Nat.le_of_ble_eq_true rfl) rfl ?_
  intro p e s m args below meth c C hr hout
  refine g_iconst 0 C dL_total_0 (by decide) ?_
  refine g_istore_n [(2, .int (0)), (0, .int (nI (x))), (1, .ref (g 2))] C dL_total_1 rfl (by decide) rfl ?_
  refine g_iconst 0 C dL_total_2 (by decide) ?_
  refine g_istore_n [(3, .int (0)), (2, .int (0)), (0, .int (nI (x))), (1, .ref (g 2))] C dL_total_3 rfl (by decide) rfl ?_
  have loop_4 : ∀ (fu : Nat) (i : Nat), i ≤ 6 → 7 ≤ i + fu → G p l e ({ frames := 0, cells := 0, slots := 6 * 0, locals := 0 } : Room) s m args below meth c D (va_A (wL cI g τ) s.heap.size) 4 0 0 (gQ below D (wL cI g τ) (wL cI g τ) none (some (.int (potL τ x 6))) 0 args s) (wL cI g τ) [(0, .int (nI (x))), (1, .ref (g 2)), (2, .int (potL τ x i)), (3, .int (nI (i)))] 4 [] := by
    intro fu
    induction fu with
    | zero => intro i hi hf; exact absurd True.intro (by omega)
    | succ fu ih_4 =>
      intro i hi hf
      refine g_iload_n 3 C rfl dL_total_4 rfl ?_
      refine g_bipush 6 C dL_total_5 (by decide) ?_
      refine g_icmp_ge 27 C dL_total_7 (by decide) (fun c_7_1 => ?_) (fun c_7_1 => ?_)
      ·
        have d_7_1 : 6 ≤ i := (nI_leI (a := 6) (b := i) (by omega) (by omega)).mp c_7_1
        refine g_iload_n 2 C rfl dL_total_27 rfl ?_
        exact g_iret C hr rfl dL_total_28 (Nat.zero_le _) (Nat.zero_le _) rfl (by rw [show i = 6 by omega]) rfl
      ·
        have d_7_1 : ¬ 6 ≤ i := fun zz => c_7_1 ((nI_leI (a := 6) (b := i) (by omega) (by omega)).mpr zz)
        refine g_iload_n 2 C rfl dL_total_10 rfl ?_
        refine g_aload_n 1 C rfl dL_total_11 rfl ?_
        refine g_bipush 6 C dL_total_12 (by decide) ?_
        refine g_iload_n 0 C rfl dL_total_14 rfl ?_
        refine g_imulN 6 x C dL_total_15 ?_
        refine g_iload_n 3 C rfl dL_total_16 rfl ?_
        refine g_iaddN (6 * x) i C dL_total_17 ?_
        refine g_ialdN (cA := cI) (n := 24) (a := g 2) (f := τ.2 2) ((6 * x) + i) 2 0 C rfl rfl (by omega) (by decide) dL_total_18 ?_
        refine g_iadd C dL_total_19 ?_
        refine g_istore_n [(2, .int ((potL τ x i) + (τ.2 2 ((6 * x) + i)))), (0, .int (nI (x))), (1, .ref (g 2)), (3, .int (nI (i)))] C dL_total_20 rfl (by decide) rfl ?_
        refine g_iincN 3 i 1 [(3, .int (nI (i + 1))), (2, .int ((potL τ x i) + (τ.2 2 ((6 * x) + i)))), (0, .int (nI (x))), (1, .ref (g 2))] C dL_total_21 rfl (by decide) (by decide) rfl ?_
        refine g_goto 4 C dL_total_24 (by decide) ?_
        refine g_lv [2, 3, 1, 0] [(0, .int (nI (x))), (1, .ref (g 2)), (2, .int ((potL τ x i) + (τ.2 2 ((6 * x) + i)))), (3, .int (nI (i + 1)))] rfl ?_
        exact ih_4 (i + 1) (by omega) (by omega)
  refine g_lv [2, 3, 1, 0] [(0, .int (nI (x))), (1, .ref (g 2)), (2, .int (0)), (3, .int (0))] rfl ?_
  exact loop_4 7 0 (by omega) (by omega)
set_option maxRecDepth 100000 in
set_option maxHeartbeats 4000000 in
theorem c_flows (l : Launch) (D : va_G) (cI cJ : ClassId) (g : Nat → Nat) (τ : gS) (x n : Nat) (hx : x < 4) (hn : 1 ≤ n ∧ n ≤ 50) (hp : potOK τ x) (hS : n ≤ potN τ x 6) : MC l yL_flows wsL_flows 1 23 D (tyIJ cI cJ) [.int (nI (x)), .int (nI (n)), .ref (g 2), .ref (g 7)] (wL cI g τ) (wL cI g (sA (sA τ 7 (fillF (τ.2 7) (flN τ x n) 6)) 2 (subF (τ.2 2) (fillF (τ.2 7) (flN τ x n) 6) (6 * x) 6))) none none 0 := by
  have hP6 : potN τ x 6 ≤ 6000 := potN_le hp 6 (Nat.le_refl 6)
  have hP0 : 0 < potN τ x 6 := by omega
  refine MC.ofG (cc := cL_flows) (maxL := 9) (ret := none) [(0, .int (nI (x))), (1, .int (nI (n))), (2, .ref (g 2)), (3, .ref (g 7))] (by decide) rfl (Nat.le_of_ble_eq_true rfl) rfl ?_
  intro p e s m args below meth c C hr hout
  refine g_iload_n 0 C rfl dL_flows_0 rfl ?_
  refine g_aload_n 2 C rfl dL_flows_1 rfl ?_
  refine g_bS (na := 2) (av := [.int (nI (x)), .ref (g 2)]) (c_total l D cI cJ g τ x hx) C gL_flows_L_total rfl (by decide +kernel) rfl ⟨Nat.le_of_ble_eq_true rfl, Nat.le_of_ble_eq_true rfl⟩ rfl (Nat.le_of_ble_eq_true rfl) ⟨Nat.zero_le _, Nat.zero_le _⟩ dL_flows_2 ?_
  refine g_is (nI (potN τ x 6)) (potL_N hp 6 (Nat.le_refl 6)) ?_
  refine g_istore [(4, .int (nI (potN τ x 6))), (0, .int (nI (x))), (1, .int (nI (n))), (2, .ref (g 2)), (3, .ref (g 7))] C dL_flows_5 (by decide) rfl ?_
  refine g_iconst 0 C dL_flows_7 (by decide) ?_
  refine g_istore [(5, .int (0)), (4, .int (nI (potN τ x 6))), (0, .int (nI (x))), (1, .int (nI (n))), (2, .ref (g 2)), (3, .ref (g 7))] C dL_flows_8 (by decide) rfl ?_
  refine g_iconst 0 C dL_flows_10 (by decide) ?_
  refine g_istore [(6, .int (0)), (5, .int (0)), (4, .int (nI (potN τ x 6))), (0, .int (nI (x))), (1, .int (nI (n))), (2, .ref (g 2)), (3, .ref (g 7))] C dL_flows_11 (by decide) rfl ?_
  refine g_iconst 0 C dL_flows_13 (by decide) ?_
  refine g_istore [(7, .int (0)), (6, .int (0)), (5, .int (0)), (4, .int (nI (potN τ x 6))), (0, .int (nI (x))), (1, .int (nI (n))), (2, .ref (g 2)), (3, .ref (g 7))] C dL_flows_14 (by decide) rfl ?_
  have loop_16 : ∀ (fu : Nat) (i : Nat), i ≤ 6 → 7 ≤ i + fu → G p l e ({ frames := 1, cells := 0, slots := 6 * 0, locals := 23 } : Room) s m args below meth c D (va_A (wL cI g τ) s.heap.size) 9 0 0 (gQ below D (wL cI g τ) (wL cI g (sA (sA τ 7 (fillF (τ.2 7) (flN τ x n) 6)) 2 (subF (τ.2 2) (fillF (τ.2 7) (flN τ x n) 6) (6 * x) 6))) none none 0 args s) (wL cI g (sA τ 7 (fillF (τ.2 7) (flN τ x n) i))) [(0, .int (nI (x))), (1, .int (nI (n))), (2, .ref (g 2)), (3, .ref (g 7)), (4, .int (nI (potN τ x 6))), (5, .int (nI (potN τ x i))), (6, .int (nI (flQ τ x n i))), (7, .int (nI (i)))] 16 [] := by
    intro fu
    induction fu with
    | zero => intro i hi hf; exact absurd True.intro (by omega)
    | succ fu ih_16 =>
      intro i hi hf
      refine g_iload 7 C rfl dL_flows_16 ?_
      refine g_bipush 6 C dL_flows_18 (by decide) ?_
      refine g_icmp_ge 86 C dL_flows_20 (by decide) (fun c_20_1 => ?_) (fun c_20_1 => ?_)
      ·
        have d_20_1 : 6 ≤ i := (nI_leI (a := 6) (b := i) (by omega) (by omega)).mp c_20_1
        obtain rfl : i = 6 := by omega
        refine g_iconst 0 C dL_flows_86 (by decide) ?_
        refine g_istore [(7, .int (0)), (0, .int (nI (x))), (1, .int (nI (n))), (2, .ref (g 2)), (3, .ref (g 7)), (4, .int (nI (potN τ x 6))), (5, .int (nI (potN τ x 6))), (6, .int (nI (flQ τ x n 6)))] C dL_flows_87 (by decide) rfl ?_
        have loop_89 : ∀ (fu : Nat) (i2 : Nat), i2 ≤ 6 → 7 ≤ i2 + fu → G p l e ({ frames := 1, cells := 0, slots := 6 * 0, locals := 23 } : Room) s m args below meth c D (va_A (wL cI g τ) s.heap.size) 9 0 0 (gQ below D (wL cI g τ) (wL cI g (sA (sA τ 7 (fillF (τ.2 7) (flN τ x n) 6)) 2 (subF (τ.2 2) (fillF (τ.2 7) (flN τ x n) 6) (6 * x) 6))) none none 0 args s) (wL cI g (sA (sA τ 7 (fillF (τ.2 7) (flN τ x n) 6)) 2 (subF (τ.2 2) (fillF (τ.2 7) (flN τ x n) 6) (6 * x) i2))) [(0, .int (nI (x))), (1, .int (nI (n))), (2, .ref (g 2)), (3, .ref (g 7)), (7, .int (nI (i2)))] 89 [] := by
          intro fu
          induction fu with
          | zero => intro i2 hi2 hf2; exact absurd True.intro (by omega)
          | succ fu ih_89 =>
            intro i2 hi2 hf2
            refine g_iload 4 C rfl dL_flows_89 ?_
            refine g_bipush 6 C dL_flows_91 (by decide) ?_
            refine g_icmp_ge 118 C dL_flows_93 (by decide) (fun c_93_2 => ?_) (fun c_93_2 => ?_)
            ·
              have d_93_2 : 6 ≤ i2 := (nI_leI (a := 6) (b := i2) (by omega) (by omega)).mp c_93_2
              exact g_vret C hr dL_flows_118 (Nat.zero_le _) (Nat.zero_le _) rfl rfl (by rw [show i2 = 6 by omega])
            ·
              have d_93_2 : ¬ 6 ≤ i2 := fun zz => c_93_2 ((nI_leI (a := 6) (b := i2) (by omega) (by omega)).mpr zz)
              refine g_aload_n 2 C rfl dL_flows_96 rfl ?_
              refine g_bipush 6 C dL_flows_97 (by decide) ?_
              refine g_iload_n 0 C rfl dL_flows_99 rfl ?_
              refine g_imulN 6 x C dL_flows_100 ?_
              refine g_iload 4 C rfl dL_flows_101 ?_
              refine g_iaddN (6 * x) i2 C dL_flows_103 ?_
              refine g_dup2 C dL_flows_104 rfl rfl ?_
              refine g_ialdN (cA := cI) (n := 24) (a := g 2) (f := subF (τ.2 2) (fillF (τ.2 7) (flN τ x n) 6) (6 * x) i2) ((6 * x) + i2) 2 0 C rfl rfl (by omega) (by decide) dL_flows_105 ?_
              refine g_aload_n 3 C rfl dL_flows_106 rfl ?_
              refine g_iload 4 C rfl dL_flows_107 ?_
              refine g_ialdN (cA := cI) (n := 6) (a := g 7) (f := fillF (τ.2 7) (flN τ x n) 6) i2 7 0 C rfl rfl (by omega) (by decide) dL_flows_109 ?_
              refine g_isub C dL_flows_110 ?_
              refine g_iastN (cA := cI) (n := 24) (a := g 2) (f := subF (τ.2 2) (fillF (τ.2 7) (flN τ x n) 6) (6 * x) i2) (x := (((subF (τ.2 2) (fillF (τ.2 7) (flN τ x n) 6) (6 * x) i2) ((6 * x) + i2)) - ((fillF (τ.2 7) (flN τ x n) 6) i2))) ((6 * x) + i2) 2 0 (wL cI g (sA (sA τ 7 (fillF (τ.2 7) (flN τ x n) 6)) 2 (upd (subF (τ.2 2) (fillF (τ.2 7) (flN τ x n) 6) (6 * x) i2) ((6 * x) + i2) ((((subF (τ.2 2) (fillF (τ.2 7) (flN τ x n) 6) (6 * x) i2) ((6 * x) + i2)) - ((fillF (τ.2 7) (flN τ x n) 6) i2)))))) C rfl rfl (by omega) (by decide) rfl dL_flows_111 ?_
              refine g_iincN 4 i2 1 [(7, .int (nI (i2 + 1))), (0, .int (nI (x))), (1, .int (nI (n))), (2, .ref (g 2)), (3, .ref (g 7))] C dL_flows_112 rfl (by decide) (by decide) rfl ?_
              refine g_goto 89 C dL_flows_115 (by decide) ?_
              refine g_lv [1, 2, 3, 4, 0] [(0, .int (nI (x))), (1, .int (nI (n))), (2, .ref (g 2)), (3, .ref (g 7)), (7, .int (nI (i2 + 1)))] rfl ?_
              exact ih_89 (i2 + 1) (by omega) (by omega)
        refine g_lv [1, 2, 3, 4, 0] [(0, .int (nI (x))), (1, .int (nI (n))), (2, .ref (g 2)), (3, .ref (g 7)), (7, .int (0))] rfl ?_
        exact loop_89 7 0 (by omega) (by omega)
      ·
        have d_20_1 : ¬ 6 ≤ i := fun zz => c_20_1 ((nI_leI (a := 6) (b := i) (by omega) (by omega)).mpr zz)
        refine g_iload 5 C rfl dL_flows_23 ?_
        refine g_aload_n 2 C rfl dL_flows_25 rfl ?_
        refine g_bipush 6 C dL_flows_26 (by decide) ?_
        refine g_iload_n 0 C rfl dL_flows_28 rfl ?_
        refine g_imulN 6 x C dL_flows_29 ?_
        refine g_iload 7 C rfl dL_flows_30 ?_
        refine g_iaddN (6 * x) i C dL_flows_32 ?_
        refine g_ialdN (cA := cI) (n := 24) (a := g 2) (f := τ.2 2) ((6 * x) + i) 2 0 C rfl rfl (by omega) (by decide) dL_flows_33 ?_
        obtain ⟨a9, ha9, ea9⟩ := hp i (by omega)
        refine g_is (nI (a9)) ea9 ?_
        refine g_iaddN (potN τ x i) a9 C dL_flows_34 ?_
        refine g_is (nI (potN τ x (i + 1))) (by show nI (potN τ x i + a9) = nI (potN τ x i + cl (τ.2 2 (6 * x + i))); rw [ea9, cl_nI (by omega)]) ?_
        refine g_istore [(5, .int (nI (potN τ x (i + 1)))), (0, .int (nI (x))), (1, .int (nI (n))), (2, .ref (g 2)), (3, .ref (g 7)), (4, .int (nI (potN τ x 6))), (6, .int (nI (flQ τ x n i))), (7, .int (nI (i)))] C dL_flows_35 (by decide) rfl ?_
        have hle : flQ τ x n (i + 1) ≤ n := flQ_le (by omega) hP0
        have hup : flQ τ x n i ≤ flQ τ x n (i + 1) := flQ_up
        have hb2 : potN τ x (i + 1) * n < 2 ^ 31 := mul_lt31 (A := 6000) (B := 50) (Nat.le_trans (potN_up (i + 1) 6 (by omega)) hP6) hn.2 (by decide)
        refine g_iload 6 C rfl dL_flows_37 ?_
        refine g_istore [(8, .int (nI (flQ τ x n i))), (5, .int (nI (potN τ x (i + 1)))), (0, .int (nI (x))), (1, .int (nI (n))), (2, .ref (g 2)), (3, .ref (g 7)), (4, .int (nI (potN τ x 6))), (6, .int (nI (flQ τ x n i))), (7, .int (nI (i)))] C dL_flows_39 (by decide) rfl ?_
        have loop_41 : ∀ (fu : Nat) (j2 : Nat), j2 ≤ flQ τ x n (i + 1) → n + 1 ≤ j2 + fu → G p l e ({ frames := 1, cells := 0, slots := 6 * 0, locals := 23 } : Room) s m args below meth c D (va_A (wL cI g τ) s.heap.size) 9 0 0 (gQ below D (wL cI g τ) (wL cI g (sA (sA τ 7 (fillF (τ.2 7) (flN τ x n) 6)) 2 (subF (τ.2 2) (fillF (τ.2 7) (flN τ x n) 6) (6 * x) 6))) none none 0 args s) (wL cI g (sA τ 7 (fillF (τ.2 7) (flN τ x n) i))) [(0, .int (nI (x))), (1, .int (nI (n))), (2, .ref (g 2)), (3, .ref (g 7)), (4, .int (nI (potN τ x 6))), (5, .int (nI (potN τ x (i + 1)))), (6, .int (nI (flQ τ x n i))), (7, .int (nI (i))), (8, .int (nI (j2)))] 41 [] := by
          intro fu
          induction fu with
          | zero => intro j2 hj hf2; exact absurd True.intro (by omega)
          | succ fu ih_41 =>
            intro j2 hj hf2
            refine g_iload 8 C rfl dL_flows_41 ?_
            refine g_iload_n 1 C rfl dL_flows_43 rfl ?_
            refine g_icmp_ge 67 C dL_flows_44 (by decide) (fun c_44_3 => ?_) (fun c_44_3 => ?_)
            ·
              have d_44_3 : n ≤ j2 := (nI_leI (a := n) (b := j2) (by omega) (by omega)).mp c_44_3
              have hq2 : j2 = flQ τ x n (i + 1) := by omega
              subst hq2
              refine g_aload_n 3 C rfl dL_flows_67 rfl ?_
              refine g_iload 7 C rfl dL_flows_68 ?_
              refine g_iload 8 C rfl dL_flows_70 ?_
              refine g_iload 6 C rfl dL_flows_72 ?_
              refine g_isubN ((flQ τ x n (i + 1))) (flQ τ x n i) C (by omega) dL_flows_74 ?_
              refine g_is ((flN τ x n i)) rfl ?_
              refine g_iastN (cA := cI) (n := 6) (a := g 7) (f := fillF (τ.2 7) (flN τ x n) i) (x := (flN τ x n i)) i 7 0 (wL cI g (sA τ 7 (upd (fillF (τ.2 7) (flN τ x n) i) i ((flN τ x n i))))) C rfl rfl (by omega) (by decide) rfl dL_flows_75 ?_
              refine g_iload 8 C rfl dL_flows_76 ?_
              refine g_istore [(6, .int (nI ((flQ τ x n (i + 1))))), (0, .int (nI (x))), (1, .int (nI (n))), (2, .ref (g 2)), (3, .ref (g 7)), (4, .int (nI (potN τ x 6))), (5, .int (nI (potN τ x (i + 1)))), (7, .int (nI (i))), (8, .int (nI ((flQ τ x n (i + 1)))))] C dL_flows_78 (by decide) rfl ?_
              refine g_iincN 7 i 1 [(7, .int (nI (i + 1))), (6, .int (nI ((flQ τ x n (i + 1))))), (0, .int (nI (x))), (1, .int (nI (n))), (2, .ref (g 2)), (3, .ref (g 7)), (4, .int (nI (potN τ x 6))), (5, .int (nI (potN τ x (i + 1)))), (8, .int (nI ((flQ τ x n (i + 1)))))] C dL_flows_80 rfl (by decide) (by decide) rfl ?_
              refine g_goto 16 C dL_flows_83 (by decide) ?_
              refine g_lv [2, 3, 4, 5, 6, 7, 1, 0] [(0, .int (nI (x))), (1, .int (nI (n))), (2, .ref (g 2)), (3, .ref (g 7)), (4, .int (nI (potN τ x 6))), (5, .int (nI (potN τ x (i + 1)))), (6, .int (nI ((flQ τ x n (i + 1))))), (7, .int (nI (i + 1)))] rfl ?_
              exact ih_16 (i + 1) (by omega) (by omega)
            ·
              have d_44_3 : ¬ n ≤ j2 := fun zz => c_44_3 ((nI_leI (a := n) (b := j2) (by omega) (by omega)).mpr zz)
              have hb1 : (j2 + 1) * potN τ x 6 < 2 ^ 31 := mul_lt31 (A := 51) (B := 6000) (by omega) hP6 (by decide)
              refine g_iload 8 C rfl dL_flows_47 ?_
              refine g_iconst 1 C dL_flows_49 (by decide) ?_
              refine g_iaddN j2 1 C dL_flows_50 ?_
              refine g_iload 4 C rfl dL_flows_51 ?_
              refine g_imulN (j2 + 1) (potN τ x 6) C dL_flows_53 ?_
              refine g_iload 5 C rfl dL_flows_54 ?_
              refine g_iload_n 1 C rfl dL_flows_56 rfl ?_
              refine g_imulN (potN τ x (i + 1)) n C dL_flows_57 ?_
              refine g_icmp_gt 67 C dL_flows_58 (by decide) (fun c_58_4 => ?_) (fun c_58_4 => ?_)
              ·
                have d_58_4 : ((potN τ x (i + 1)) * n) < ((j2 + 1) * (potN τ x 6)) := (nI_ltI (a := ((potN τ x (i + 1)) * n)) (b := ((j2 + 1) * (potN τ x 6))) (by omega) (by omega)).mp c_58_4
                have hq2 : j2 = flQ τ x n (i + 1) := Nat.le_antisymm hj (flQ_out hP0 (Nat.not_le_of_lt d_58_4))
                subst hq2
                refine g_aload_n 3 C rfl dL_flows_67 rfl ?_
                refine g_iload 7 C rfl dL_flows_68 ?_
                refine g_iload 8 C rfl dL_flows_70 ?_
                refine g_iload 6 C rfl dL_flows_72 ?_
                refine g_isubN ((flQ τ x n (i + 1))) (flQ τ x n i) C (by omega) dL_flows_74 ?_
                refine g_is ((flN τ x n i)) rfl ?_
                refine g_iastN (cA := cI) (n := 6) (a := g 7) (f := fillF (τ.2 7) (flN τ x n) i) (x := (flN τ x n i)) i 7 0 (wL cI g (sA τ 7 (upd (fillF (τ.2 7) (flN τ x n) i) i ((flN τ x n i))))) C rfl rfl (by omega) (by decide) rfl dL_flows_75 ?_
                refine g_iload 8 C rfl dL_flows_76 ?_
                refine g_istore [(6, .int (nI ((flQ τ x n (i + 1))))), (0, .int (nI (x))), (1, .int (nI (n))), (2, .ref (g 2)), (3, .ref (g 7)), (4, .int (nI (potN τ x 6))), (5, .int (nI (potN τ x (i + 1)))), (7, .int (nI (i))), (8, .int (nI ((flQ τ x n (i + 1)))))] C dL_flows_78 (by decide) rfl ?_
                refine g_iincN 7 i 1 [(7, .int (nI (i + 1))), (6, .int (nI ((flQ τ x n (i + 1))))), (0, .int (nI (x))), (1, .int (nI (n))), (2, .ref (g 2)), (3, .ref (g 7)), (4, .int (nI (potN τ x 6))), (5, .int (nI (potN τ x (i + 1)))), (8, .int (nI ((flQ τ x n (i + 1)))))] C dL_flows_80 rfl (by decide) (by decide) rfl ?_
                refine g_goto 16 C dL_flows_83 (by decide) ?_
                refine g_lv [2, 3, 4, 5, 6, 7, 1, 0] [(0, .int (nI (x))), (1, .int (nI (n))), (2, .ref (g 2)), (3, .ref (g 7)), (4, .int (nI (potN τ x 6))), (5, .int (nI (potN τ x (i + 1)))), (6, .int (nI ((flQ τ x n (i + 1))))), (7, .int (nI (i + 1)))] rfl ?_
                exact ih_16 (i + 1) (by omega) (by omega)
              ·
                have d_58_4 : ¬ ((potN τ x (i + 1)) * n) < ((j2 + 1) * (potN τ x 6)) := fun zz => c_58_4 ((nI_ltI (a := ((potN τ x (i + 1)) * n)) (b := ((j2 + 1) * (potN τ x 6))) (by omega) (by omega)).mpr zz)
                have hq1 : j2 + 1 ≤ flQ τ x n (i + 1) := flQ_in hP0 (Nat.le_of_not_lt d_58_4)
                refine g_iincN 8 j2 1 [(8, .int (nI (j2 + 1))), (0, .int (nI (x))), (1, .int (nI (n))), (2, .ref (g 2)), (3, .ref (g 7)), (4, .int (nI (potN τ x 6))), (5, .int (nI (potN τ x (i + 1)))), (6, .int (nI (flQ τ x n i))), (7, .int (nI (i)))] C dL_flows_61 rfl (by decide) (by decide) rfl ?_
                refine g_goto 41 C dL_flows_64 (by decide) ?_
                refine g_lv [1, 2, 3, 4, 5, 6, 7, 8, 0] [(0, .int (nI (x))), (1, .int (nI (n))), (2, .ref (g 2)), (3, .ref (g 7)), (4, .int (nI (potN τ x 6))), (5, .int (nI (potN τ x (i + 1)))), (6, .int (nI (flQ τ x n i))), (7, .int (nI (i))), (8, .int (nI (j2 + 1)))] rfl ?_
                exact ih_41 (j2 + 1) hq1 (by omega)
        refine g_lv [2, 3, 4, 5, 6, 1, 7, 8, 0] [(0, .int (nI (x))), (1, .int (nI (n))), (2, .ref (g 2)), (3, .ref (g 7)), (4, .int (nI (potN τ x 6))), (5, .int (nI (potN τ x (i + 1)))), (6, .int (nI (flQ τ x n i))), (7, .int (nI (i))), (8, .int (nI (flQ τ x n i)))] rfl ?_
        exact loop_41 (n + 1) (flQ τ x n i) flQ_up (by omega)
  refine g_lv [4, 5, 6, 7, 3, 2, 1, 0] [(0, .int (nI (x))), (1, .int (nI (n))), (2, .ref (g 2)), (3, .ref (g 7)), (4, .int (nI (potN τ x 6))), (5, .int (0)), (6, .int (0)), (7, .int (0))] rfl ?_
  have hq0 : flQ τ x n 0 = 0 := by rw [flQ, potN, Nat.zero_mul, Nat.zero_div]
  have hl0 := loop_16 7 0 (by omega) (by omega)
  rw [hq0] at hl0
  exact hl0
end
