section
-- ===== PART A: goes FIRST, ahead of the names: the tables' words, and 'selects' of the private methods out of them =====
/-- a private method of a class that the tables say can be made, by its rows of tables_1 -/
def lw_okq (q : MethodName × Nat) : Prop := (q.1.cls ≠ "java/lang/invoke/MethodHandle" ∧ q.1.cls ≠ "java/lang/invoke/VarHandle") ∧ Cond.instantiable q.1.cls q.2 ∈ tables_1 ∧ Cond.privateMethod q.1 ∈ tables_1 ∧ Cond.instanceMethod q.1 ∈ tables_1
theorem lw_p0 : lw_okq (⟨"EventOrder$Limits", "closesBelowZero", "(I)Z"⟩, 3) := ⟨⟨by decide +kernel, by decide +kernel⟩, List.mem_of_getElem? (i := 86) (by decide +kernel), List.mem_of_getElem? (i := 181) (by decide +kernel), List.mem_of_getElem? (i := 182) (by decide +kernel)⟩
theorem lw_p1 : lw_okq (⟨"EventOrder$Limits", "shortenThrough", "(II)V"⟩, 3) := ⟨⟨by decide +kernel, by decide +kernel⟩, List.mem_of_getElem? (i := 86) (by decide +kernel), List.mem_of_getElem? (i := 185) (by decide +kernel), List.mem_of_getElem? (i := 186) (by decide +kernel)⟩
theorem lw_p2 : lw_okq (⟨"EventOrder$Ring", "stepsBack", "(III[[J)I"⟩, 3) := ⟨⟨by decide +kernel, by decide +kernel⟩, List.mem_of_getElem? (i := 107) (by decide +kernel), List.mem_of_getElem? (i := 193) (by decide +kernel), List.mem_of_getElem? (i := 194) (by decide +kernel)⟩
theorem lw_p3 : lw_okq (⟨"EventOrder$Ring", "trace", "(II[[J)V"⟩, 3) := ⟨⟨by decide +kernel, by decide +kernel⟩, List.mem_of_getElem? (i := 107) (by decide +kernel), List.mem_of_getElem? (i := 202) (by decide +kernel), List.mem_of_getElem? (i := 203) (by decide +kernel)⟩
theorem lw_p4 : lw_okq (⟨"EventOrder$Timeline", "isLater", "(II[I)Z"⟩, 3) := ⟨⟨by decide +kernel, by decide +kernel⟩, List.mem_of_getElem? (i := 126) (by decide +kernel), List.mem_of_getElem? (i := 221) (by decide +kernel), List.mem_of_getElem? (i := 222) (by decide +kernel)⟩
theorem lw_p5 : lw_okq (⟨"java/lang/Throwable", "fillInStackTrace", "(I)Ljava/lang/Throwable;"⟩, 6) := ⟨⟨by decide +kernel, by decide +kernel⟩, List.mem_of_getElem? (i := 276) (by decide +kernel), List.mem_of_getElem? (i := 274) (by decide +kernel), List.mem_of_getElem? (i := 275) (by decide +kernel)⟩
theorem lw_p6 : lw_okq (⟨"EventOrder", "checkSource", "(I)V"⟩, 7) := ⟨⟨by decide +kernel, by decide +kernel⟩, List.mem_of_getElem? (i := 17) (by decide +kernel), List.mem_of_getElem? (i := 315) (by decide +kernel), List.mem_of_getElem? (i := 316) (by decide +kernel)⟩
theorem lw_p7 : lw_okq (⟨"EventOrder", "checkEvent", "(I)V"⟩, 7) := ⟨⟨by decide +kernel, by decide +kernel⟩, List.mem_of_getElem? (i := 17) (by decide +kernel), List.mem_of_getElem? (i := 385) (by decide +kernel), List.mem_of_getElem? (i := 386) (by decide +kernel)⟩
theorem lw_p8 : lw_okq (⟨"EventOrder", "checkSettled", "()V"⟩, 7) := ⟨⟨by decide +kernel, by decide +kernel⟩, List.mem_of_getElem? (i := 17) (by decide +kernel), List.mem_of_getElem? (i := 404) (by decide +kernel), List.mem_of_getElem? (i := 405) (by decide +kernel)⟩
theorem lw_p9 : lw_okq (⟨"EventOrderModel", "refused", "(ZZZ)Z"⟩, 18) := ⟨⟨by decide +kernel, by decide +kernel⟩, List.mem_of_getElem? (i := 484) (by decide +kernel), List.mem_of_getElem? (i := 553) (by decide +kernel), List.mem_of_getElem? (i := 554) (by decide +kernel)⟩
theorem lw_p10 : lw_okq (⟨"EventOrderModel", "isSource", "(I)Z"⟩, 18) := ⟨⟨by decide +kernel, by decide +kernel⟩, List.mem_of_getElem? (i := 484) (by decide +kernel), List.mem_of_getElem? (i := 561) (by decide +kernel), List.mem_of_getElem? (i := 562) (by decide +kernel)⟩
theorem lw_p11 : lw_okq (⟨"EventOrderModel", "find", "(IIIIJ)I"⟩, 18) := ⟨⟨by decide +kernel, by decide +kernel⟩, List.mem_of_getElem? (i := 484) (by decide +kernel), List.mem_of_getElem? (i := 572) (by decide +kernel), List.mem_of_getElem? (i := 573) (by decide +kernel)⟩
theorem lw_p12 : lw_okq (⟨"EventOrderModel", "isEvent", "(I)Z"⟩, 18) := ⟨⟨by decide +kernel, by decide +kernel⟩, List.mem_of_getElem? (i := 484) (by decide +kernel), List.mem_of_getElem? (i := 580) (by decide +kernel), List.mem_of_getElem? (i := 581) (by decide +kernel)⟩
theorem lw_p13 : lw_okq (⟨"EventOrderModel", "weigh", "()V"⟩, 18) := ⟨⟨by decide +kernel, by decide +kernel⟩, List.mem_of_getElem? (i := 484) (by decide +kernel), List.mem_of_getElem? (i := 592) (by decide +kernel), List.mem_of_getElem? (i := 593) (by decide +kernel)⟩
theorem lw_p14 : lw_okq (⟨"EventOrderModel", "step", "(I)V"⟩, 18) := ⟨⟨by decide +kernel, by decide +kernel⟩, List.mem_of_getElem? (i := 484) (by decide +kernel), List.mem_of_getElem? (i := 597) (by decide +kernel), List.mem_of_getElem? (i := 598) (by decide +kernel)⟩
theorem lw_p15 : lw_okq (⟨"EventOrderModel", "tellRing", "(II)V"⟩, 18) := ⟨⟨by decide +kernel, by decide +kernel⟩, List.mem_of_getElem? (i := 484) (by decide +kernel), List.mem_of_getElem? (i := 604) (by decide +kernel), List.mem_of_getElem? (i := 605) (by decide +kernel)⟩
def lw_privs_1 : List (MethodName × Nat) := [(⟨"EventOrder$Limits", "closesBelowZero", "(I)Z"⟩, 3), (⟨"EventOrder$Limits", "shortenThrough", "(II)V"⟩, 3), (⟨"EventOrder$Ring", "stepsBack", "(III[[J)I"⟩, 3), (⟨"EventOrder$Ring", "trace", "(II[[J)V"⟩, 3), (⟨"EventOrder$Timeline", "isLater", "(II[I)Z"⟩, 3), (⟨"java/lang/Throwable", "fillInStackTrace", "(I)Ljava/lang/Throwable;"⟩, 6), (⟨"EventOrder", "checkSource", "(I)V"⟩, 7), (⟨"EventOrder", "checkEvent", "(I)V"⟩, 7), (⟨"EventOrder", "checkSettled", "()V"⟩, 7), (⟨"EventOrderModel", "refused", "(ZZZ)Z"⟩, 18), (⟨"EventOrderModel", "isSource", "(I)Z"⟩, 18), (⟨"EventOrderModel", "find", "(IIIIJ)I"⟩, 18), (⟨"EventOrderModel", "isEvent", "(I)Z"⟩, 18), (⟨"EventOrderModel", "weigh", "()V"⟩, 18), (⟨"EventOrderModel", "step", "(I)V"⟩, 18), (⟨"EventOrderModel", "tellRing", "(II)V"⟩, 18)]
theorem lw_r1 : ∀ q ∈ lw_privs_1, lw_okq q := List.forall_mem_cons.mpr ⟨lw_p0, List.forall_mem_cons.mpr ⟨lw_p1, List.forall_mem_cons.mpr ⟨lw_p2, List.forall_mem_cons.mpr ⟨lw_p3, List.forall_mem_cons.mpr ⟨lw_p4, List.forall_mem_cons.mpr ⟨lw_p5, List.forall_mem_cons.mpr ⟨lw_p6, List.forall_mem_cons.mpr ⟨lw_p7, List.forall_mem_cons.mpr ⟨lw_p8, List.forall_mem_cons.mpr ⟨lw_p9, List.forall_mem_cons.mpr ⟨lw_p10, List.forall_mem_cons.mpr ⟨lw_p11, List.forall_mem_cons.mpr ⟨lw_p12, List.forall_mem_cons.mpr ⟨lw_p13, List.forall_mem_cons.mpr ⟨lw_p14, List.forall_mem_cons.mpr ⟨lw_p15, fun _ h => absurd h List.not_mem_nil⟩⟩⟩⟩⟩⟩⟩⟩⟩⟩⟩⟩⟩⟩⟩⟩
theorem lw_p16 : lw_okq (⟨"EventOrderModel", "isOn", "(JIIII)Z"⟩, 18) := ⟨⟨by decide +kernel, by decide +kernel⟩, List.mem_of_getElem? (i := 484) (by decide +kernel), List.mem_of_getElem? (i := 608) (by decide +kernel), List.mem_of_getElem? (i := 609) (by decide +kernel)⟩
theorem lw_p17 : lw_okq (⟨"EventOrderModel", "bind", "()V"⟩, 18) := ⟨⟨by decide +kernel, by decide +kernel⟩, List.mem_of_getElem? (i := 484) (by decide +kernel), List.mem_of_getElem? (i := 612) (by decide +kernel), List.mem_of_getElem? (i := 613) (by decide +kernel)⟩
theorem lw_p18 : lw_okq (⟨"EventOrderModel", "timeOf", "(I)J"⟩, 18) := ⟨⟨by decide +kernel, by decide +kernel⟩, List.mem_of_getElem? (i := 484) (by decide +kernel), List.mem_of_getElem? (i := 633) (by decide +kernel), List.mem_of_getElem? (i := 634) (by decide +kernel)⟩
theorem lw_p19 : lw_okq (⟨"EventOrderModel", "isBefore", "(II)Z"⟩, 18) := ⟨⟨by decide +kernel, by decide +kernel⟩, List.mem_of_getElem? (i := 484) (by decide +kernel), List.mem_of_getElem? (i := 641) (by decide +kernel), List.mem_of_getElem? (i := 642) (by decide +kernel)⟩
theorem lw_p20 : lw_okq (⟨"EventOrderModel", "isImplied", "(III)Z"⟩, 18) := ⟨⟨by decide +kernel, by decide +kernel⟩, List.mem_of_getElem? (i := 484) (by decide +kernel), List.mem_of_getElem? (i := 651) (by decide +kernel), List.mem_of_getElem? (i := 652) (by decide +kernel)⟩
theorem lw_p21 : lw_okq (⟨"EventOrderModel", "outOf", "(II)I"⟩, 18) := ⟨⟨by decide +kernel, by decide +kernel⟩, List.mem_of_getElem? (i := 484) (by decide +kernel), List.mem_of_getElem? (i := 655) (by decide +kernel), List.mem_of_getElem? (i := 656) (by decide +kernel)⟩
def lw_privs_2 : List (MethodName × Nat) := [(⟨"EventOrderModel", "isOn", "(JIIII)Z"⟩, 18), (⟨"EventOrderModel", "bind", "()V"⟩, 18), (⟨"EventOrderModel", "timeOf", "(I)J"⟩, 18), (⟨"EventOrderModel", "isBefore", "(II)Z"⟩, 18), (⟨"EventOrderModel", "isImplied", "(III)Z"⟩, 18), (⟨"EventOrderModel", "outOf", "(II)I"⟩, 18)]
theorem lw_r2 : ∀ q ∈ lw_privs_2, lw_okq q := List.forall_mem_cons.mpr ⟨lw_p16, List.forall_mem_cons.mpr ⟨lw_p17, List.forall_mem_cons.mpr ⟨lw_p18, List.forall_mem_cons.mpr ⟨lw_p19, List.forall_mem_cons.mpr ⟨lw_p20, List.forall_mem_cons.mpr ⟨lw_p21, fun _ h => absurd h List.not_mem_nil⟩⟩⟩⟩⟩⟩
def lw_privs : List (MethodName × Nat) := lw_privs_1 ++ (lw_privs_2)
def lw_tbl : List Cond := k2_sels lw_privs ++ tables_1
theorem lw_privs_ok : ∀ q ∈ lw_privs, lw_okq q := by
  show ∀ q ∈ lw_privs_1 ++ (lw_privs_2), lw_okq q
  exact List.forall_mem_append.mpr ⟨lw_r1, lw_r2⟩
/-- the words that outlive a call -/
def TBL : List Cond := lw_tbl.filter goodWord
theorem TBL_good : GoodIn TBL TBL := fun w h => ⟨h, good_of_word (List.mem_filter.mp h).2⟩
/-- the words that outlive a call by the wider law -/
def TBX : List Cond := lw_tbl.filter (fun w => w.onTables && w.keepsFace)
theorem TBX_in {w : Cond} (h : w ∈ lw_tbl) (g : (w.onTables && w.keepsFace) = true) : w ∈ TBX := List.mem_filter.mpr ⟨h, g⟩
theorem TBX_at {w : Cond} (h : w ∈ TBX) {s U : State} {a a' : Array Value} (hW : s.WarmedH U.vm) (hb : w.before a s = true) : w.before a' U = true := by
  have g := (List.mem_filter.mp h).2
  rw [Bool.and_eq_true] at g
  have h3 : w.before a (s.setVm U.vm) = true := Cond.before_shiftedFace (State.Shifted.of_warmed hW) w g.2 hb
  have e : w.before a' (U.setVm U.vm) = w.before a (s.setVm U.vm) := Cond.onTables_vm U.vm w g.1
  rw [State.setVm_self] at e
  rw [e]
  exact h3
theorem TBL_in {w : Cond} (h : w ∈ lw_tbl) (g : goodWord w = true) : w ∈ TBL := List.mem_filter.mpr ⟨h, g⟩
end
section
/-! ===== BEGIN words of one list among another's, by their places ===== -/
theorem goodIn_r {big : List Cond} (ws : List Cond) (ps : List Nat) (hp : ws = ps.filterMap (fun i => big[i]?)) (h : ws.all goodWord = true) : GoodIn big ws := by
  intro w hw
  have h1 := List.all_eq_true.mp h w hw
  rw [hp] at hw
  obtain ⟨i, -, hi⟩ := List.mem_filterMap.mp hw
  have hm : w ∈ big := by first | exact List.mem_of_getElem? hi | exact List.getElem?_mem hi
  exact ⟨hm, good_of_word h1⟩
theorem goodIn_app {big a b : List Cond} (ha : GoodIn big a) (hb : GoodIn big b) : GoodIn big (a ++ b) := fun w h => (List.mem_append.mp h).elim (ha w) (hb w)
theorem goodIn_ca {big a b : List Cond} {c : Cond} (ha : GoodIn big (c :: a)) (hb : GoodIn big b) : GoodIn big (c :: (a ++ b)) := fun w h => (List.mem_cons.mp h).elim (fun e => ha w (List.mem_cons.mpr (Or.inl e))) (fun h => (List.mem_append.mp h).elim (fun h => ha w (List.mem_cons.mpr (Or.inr h))) (hb w))
theorem goodIn_sub {big ws : List Cond} (hm : ∀ w ∈ ws, w ∈ big) (h : ws.all goodWord = true) : GoodIn big ws := fun w hw => ⟨hm w hw, good_of_word (List.all_eq_true.mp h w hw)⟩
/-! ===== END ===== -/

/-! ===== BEGIN exceptions that leave a method, and their catching by the caller (launches without stack traces) ===== -/
section VXA
/-! The laws vx_back, vx_callV, vx_callS, vx_callSW, vx_throw0, vx_throwS follow proofs of the library, with one case more: JvmDerived/Free/Laws.lean (Back.of_free), Shelf42/LK1.lean (callV, callS), Shelf/KitTraced.lean (throwNew0V, throwNewS). -/
/-- where a method has thrown q: the class by its name, the cell, what was written, the world -/
def vx_T (XC : String → State → State → Prop) (st : State) (q : Addr) (t : State) (mc ms : Nat) (free : Addr → Prop) : Prop :=
  ∃ (E : String) (ce : Cell) (L : List Loc), XC E st t ∧ t.heap[q]? = some ce ∧ ce.vm = .none ∧ st.vm.findClass E = some ce.cls ∧ st.WarmedH t.vm ∧ st.sameButNew ({ t with vm := st.vm } : State) L mc ms ∧ ∀ z ∈ L, free z.base
def vx_Q (Qc : Array Value → State → Outcome → State → Prop) (XC : String → State → State → Prop) (mc ms : Nat) (free : Addr → Prop) : Array Value → State → Outcome → State → Prop := fun a st o t =>
  (Qc a st o t ∧ ∃ L, FrameEnd st o t L mc ms ∧ ∀ q ∈ L, free q.base) ∨ ∃ q, o = .threw q ∧ vx_T XC st q t mc ms free
/-- a callee that returns or throws -/
def vx_Met (l : Launch) (y : MethodName) (ws : List Cond) (rm : Room) (Pc : Array Value → State → Prop) (Qc : Array Value → State → Outcome → State → Prop) (XC : String → State → State → Prop) (mc ms : Nat) (free : Addr → Prop) : Prop :=
  MetFree l y (headSpec ws rm) Pc (fun _ _ _ _ _ => True) (vx_Q Qc XC mc ms free)
def vx_Post (XC : String → State → State → Prop) (mc ms : Nat) (free : Addr → Prop) : Pt → Array Value → Addr → Pt → Prop := fun A a q B =>
  ∃ (g : JFrame) (mk : MethodId) (t : State) (L : List Loc) (E : String) (ce : Cell), B.U.heap = t.heap ∧ B.U.vm = t.vm ∧ XC E (A.U.calling g mk a) t ∧ t.heap[q]? = some ce ∧ ce.vm = .none ∧ A.U.vm.findClass E = some ce.cls ∧ B.locs = A.locs ++ L ∧ (∀ z ∈ L, free z.base) ∧ B.cells = A.cells + mc ∧ B.slots = A.slots + ms
def vx_Back (l : Launch) (R : Room) (p : Program) (e : Env) (below : List Frame) (s : State) (sargs : Array Value) (y : MethodName) (len W9 : Nat)
    (Pre : Pt → Array Value → Prop) (Post : Pt → Array Value → Option Value → Pt → Prop) (PostX : Pt → Array Value → Addr → Pt → Prop) : Prop :=
  ∀ (m : MethodId) (meth : Method) (c : Code) (A : Pt) (g : JFrame) (ig : Instr) (mk : MethodId) (a : Array Value),
    Stand p l e R s m sargs below meth c A.U A.locs A.cells A.slots → g.method = m → g.locals.size = c.maxLocals → decode c.code g.pc = .ok (ig, len) →
    2 * g.monitorRoom + (g.stack.map fun v => v.category).sum ≤ W9 → A.U.methodNamed? y = some mk → Pre A a →
    (∃ (v : Option Value) (B : Pt), Stand p l e R s m sargs below meth c B.U B.locs B.cells B.slots ∧ Post A a v B ∧
      Steps p.tables e below (doInvoke e (A.U.setTop g) [] mk a).1 (B.U.setTop { g with pc := g.pc + len, stack := v.toList ++ g.stack })) ∨
    (∃ (q : Addr) (B : Pt), Stand p l e R s m sargs below meth c B.U B.locs B.cells B.slots ∧ PostX A a q B ∧
      Steps p.tables e below (doInvoke e (A.U.setTop g) [] mk a).1 ((B.U.setTop g).pushFrame (.throwing q)))
section Payer
variable {l : Launch} {R : Room} {p : Program} {e : Env} {below : List Frame} {s : State} {sargs : Array Value} {y : MethodName} {len W9 : Nat}
theorem vx_back {ws : List Cond} {rm : Room} {Pc : Array Value → State → Prop} {Qc : Array Value → State → Outcome → State → Prop} {XC : String → State → State → Prop} {mc ms : Nat} {free : Addr → Prop} {bytes : ByteArray} {maxL : Nat} {ret : Option FieldType}
    (hM : vx_Met l y ws rm Pc Qc XC mc ms free) (hblind : FrameBlind Pc) (hrc : rm.cells = mc) (hrs : rm.slots = ms)
    (hframes : rm.frames + 1 ≤ R.frames) (hlocals : W9 + (maxL + 11) + rm.locals ≤ R.locals)
    (hws : ∀ w ∈ ws, ∀ a' U, s.WarmedH U.vm → w.before a' U = true) (hcode : Cond.code y bytes maxL ret ∈ ws) (hinit : ∀ a' U, s.WarmedH U.vm → (Cond.initialized y.cls).before a' U = true) :
    vx_Back l R p e below s sargs y len W9 (PreOf R mc ms Pc) (PostOf Qc mc ms free) (vx_Post XC mc ms free) := by
  intro m meth c A g ig mk a X hg hsize hdg hW hn hp
  have h1 : (headSpec ws rm).pre.before a A.U = true := atoms_intro fun w hw => hws w hw _ _ X.warmed
  have h2 : (Cond.code y bytes maxL ret).before a A.U = true := hws _ hcode _ _ X.warmed
  have h3 : (Cond.initialized y.cls).before a A.U = true := hinit _ _ X.warmed
  have h4 : A.cells + (headSpec ws rm).room.cells ≤ R.cells := by rw [show (headSpec ws rm).room.cells = mc from hrc]; exact hp.1
  have h5 : A.slots + (headSpec ws rm).room.slots ≤ R.slots := by rw [show (headSpec ws rm).room.slots = ms from hrs]; exact hp.2.1
  have hPc : Pc a (A.U.calling g mk a) := hblind _ _ _ _ hp.2.2
  obtain ⟨U, Ls, c0, s0⟩ := A
  dsimp only [Pt.U, Pt.locs, Pt.cells, Pt.slots] at h1 h2 h3 h4 h5 X hn hPc ⊢
  obtain ⟨methY, cY, hmY, hcY, -, hlY, -, -, -, -⟩ := Cond.code_spec hn h2
  obtain ⟨kY, hkY, -⟩ := className_of_methodNamed hn
  have hinitY : kY.init = .initialized := Cond.initialized_spec (findClass_of_methodNamed hn) hkY h3
  have h : At U g.method c below := by rw [hg]; exact X.here
  have hlocals9 : W9 + (maxL + 11) + (headSpec ws rm).room.locals ≤ R.locals := hlocals
  have happ : (headSpec ws rm).appliesLoose y e.platform (U.calling g mk a) = true :=
    Spec.appliesLoose_calling (g := g) h hdg hn hkY hinitY
      (X.room_calling (g := g) (R' := (headSpec ws rm).room) hsize hmY hcY hframes (by rw [hlY]; omega) h4 h5) h1
  obtain ⟨mid, hmid⟩ := h.above
  have hfr : (U.setTop g).frames = (.java g :: mid) ++ below := by rw [State.frames_setTop' g h.top, hmid]; rfl
  obtain ⟨o, s₂, hsteps, -, hend, hq⟩ := Steps.callFree hM p X.admits X.cas X.clock (acts := []) hfr happ hPc trivial
  have hq' : vx_Q Qc XC mc ms free a (U.calling g mk a) o s₂ := hq
  rw [State.frames_setTop' g h.top] at hend
  obtain ⟨g₀, hg0⟩ := Option.isSome_iff_exists.mp h.top
  obtain ⟨r, hr⟩ := State.topJava?_eq_some.mp hg0
  have hr' : (({ U with heap := s₂.heap, slotsUsed := s₂.slotsUsed } : State).setVm s₂.vm).frames = .java g₀ :: r := hr
  rcases hq' with ⟨hqc, L, hfe, hL⟩ | ⟨q, rfl, E, ce, L, hx, hce, hcv, hcl, hW₂, hsm, hL⟩
  · obtain ⟨⟨v, rfl⟩, hW₂, e2, q2, q3, q4, q5, q6⟩ := id hfe
    have e3 : s₂ = ({ (U.calling g mk a).setFrames s₂.frames with heap := s₂.heap, slotsUsed := s₂.slotsUsed } : State).setVm s₂.vm := by
      have : s₂ = ({ s₂ with vm := (U.calling g mk a).vm } : State).setVm s₂.vm := rfl
      rw [e2] at this
      exact this
    obtain ⟨c₂, i₂, len₂, hc₂, hd₂, hf₂⟩ := hend
    have hW' : U.WarmedH s₂.vm := hW₂
    have hcc : c₂ = c := by
      have h1 : s₂.code? g.method = U.code? g.method := by
        rw [State.code?_eq, State.code?_eq, hW'.alike.method?]
      exact Option.some.inj (hc₂.symm.trans (h1.trans h.code))
    subst hcc
    have hlen : len₂ = len := by rw [hdg] at hd₂; cases hd₂; rfl
    subst hlen
    have hs₂ : s₂ = (({ U with heap := s₂.heap, slotsUsed := s₂.slotsUsed } : State).setVm s₂.vm).setTop { g with pc := g.pc + len₂, stack := v.toList ++ g.stack } := by
      refine e3.trans ?_
      rw [hf₂, State.calling_eq h.top, State.setFrames_setFrames, State.setTop_of_frames _ hr', hr]
      rfl
    have hsame : U.sameButNew ({ U with heap := s₂.heap, slotsUsed := s₂.slotsUsed } : State) L mc ms := by
      refine ⟨?_, q2, q3, q4, q5, q6⟩
      obtain ⟨t, ht, -⟩ := State.frames_cons hr
      show ({ U with heap := s₂.heap, slotsUsed := s₂.slotsUsed } : State) = { U.setFrames U.frames with heap := s₂.heap, slotsUsed := s₂.slotsUsed }
      rw [State.setFrames_self ht]
    subst hg
    refine Or.inl ⟨v, ⟨(({ U with heap := s₂.heap, slotsUsed := s₂.slotsUsed } : State).setVm s₂.vm), Ls ++ L, c0 + mc, s0 + ms⟩,
      ⟨X.admits, X.cas, X.clock, X.frames, X.room, X.hears, X.method, X.code, (X.here.setHeapUsed s₂.heap s₂.slotsUsed).setVm hW'.alike, X.tail, State.WarmedH.trans X.warmed hW', X.limits, X.bytes, X.same.trans (hsame.setVm s.vm)⟩,
      ⟨g, mk, s₂, L, rfl, rfl, hqc, rfl, hL, rfl, rfl⟩, ?_⟩
    show Steps p.tables e below _ ((({ U with heap := s₂.heap, slotsUsed := s₂.slotsUsed } : State).setVm s₂.vm).setTop { g with pc := g.pc + len₂, stack := v.toList ++ g.stack })
    rw [← hs₂]
    exact hsteps
  · obtain ⟨e2, q2, q3, q4, q5, q6⟩ := id hsm
    have e3 : s₂ = ({ (U.calling g mk a).setFrames s₂.frames with heap := s₂.heap, slotsUsed := s₂.slotsUsed } : State).setVm s₂.vm := by
      have : s₂ = ({ s₂ with vm := (U.calling g mk a).vm } : State).setVm s₂.vm := rfl
      rw [e2] at this
      exact this
    have hf₂ : s₂.frames = .throwing q :: .java g :: U.frames.tail := hend
    have hW' : U.WarmedH s₂.vm := hW₂
    have hs₂ : s₂ = ((({ U with heap := s₂.heap, slotsUsed := s₂.slotsUsed } : State).setVm s₂.vm).setTop g).pushFrame (.throwing q) := by
      refine e3.trans ?_
      rw [hf₂, State.calling_eq h.top, State.setFrames_setFrames, State.pushFrame, State.frames_setTop _ hr', State.setTop_of_frames _ hr', State.setFrames_setFrames, hr]
      rfl
    have hsame : U.sameButNew ({ U with heap := s₂.heap, slotsUsed := s₂.slotsUsed } : State) L mc ms := by
      refine ⟨?_, q2, q3, q4, q5, q6⟩
      obtain ⟨t, ht, -⟩ := State.frames_cons hr
      show ({ U with heap := s₂.heap, slotsUsed := s₂.slotsUsed } : State) = { U.setFrames U.frames with heap := s₂.heap, slotsUsed := s₂.slotsUsed }
      rw [State.setFrames_self ht]
    subst hg
    refine Or.inr ⟨q, ⟨(({ U with heap := s₂.heap, slotsUsed := s₂.slotsUsed } : State).setVm s₂.vm), Ls ++ L, c0 + mc, s0 + ms⟩,
      ⟨X.admits, X.cas, X.clock, X.frames, X.room, X.hears, X.method, X.code, (X.here.setHeapUsed s₂.heap s₂.slotsUsed).setVm hW'.alike, X.tail, State.WarmedH.trans X.warmed hW', X.limits, X.bytes, X.same.trans (hsame.setVm s.vm)⟩,
      ⟨g, mk, s₂, L, E, ce, rfl, rfl, hx, hce, hcv, hcl, rfl, hL, rfl, rfl⟩, ?_⟩
    show Steps p.tables e below _ (((({ U with heap := s₂.heap, slotsUsed := s₂.slotsUsed } : State).setVm s₂.vm).setTop g).pushFrame (.throwing q))
    rw [← hs₂]
    exact hsteps
end Payer
section Calls
variable {p : Program} {l : Launch} {e : Env} {R : Room} {s : State} {m : MethodId} {args : Array Value} {below : List Frame} {meth : Method} {c : Code} {T : State} {locs : List Loc} {cells slots : Nat}
theorem vx_callV (X : Stand p l e R s m args below meth c T locs cells slots) (hexec : p.tables.exec = Jvm.exec) {own C : String} {index : Nat} {y : MethodName} {bytes : ByteArray} {maxL : Nat} {ret : Option FieldType}
    (hown : s.vm.findClass own = some m.cls) (hlink : (Cond.methodLink own index y).before args s = true) (hinst : (Cond.instanceMethod y).before args s = true) (hsel : (Cond.selects C y y).before args s = true)
    (hcode : (Cond.code y bytes maxL ret).before args s = true) (hy : y.cls ≠ "java/lang/invoke/MethodHandle" ∧ y.cls ≠ "java/lang/invoke/VarHandle")
    {W9 : Nat} {Pre : Pt → Array Value → Prop} {Post : Pt → Array Value → Option Value → Pt → Prop} {PostX : Pt → Array Value → Addr → Pt → Prop} (hK : vx_Back l R p e below s args y 3 W9 Pre Post PostX)
    {b : Addr} {cellB : Cell} (hcell : T.heap[b]? = some cellB) (hobj : cellB.vm.isStatics = false) (hcls : s.vm.findClass C = some cellB.cls)
    {g : JFrame} (hg : g.method = m) (hsize : g.locals.size = c.maxLocals) {argsL rest : List Value} (hlen : ∀ sig, parseMethodDescriptor y.desc = some sig → argsL.length = sig.parameters.length)
    (hstack : g.stack = argsL.reverse ++ .ref b :: rest) (hW : 2 * g.monitorRoom + (rest.map fun v => v.category).sum ≤ W9) (hdg : decode c.code g.pc = .ok (.invokevirtual index, 3))
    (hpre : ∀ vm₁, s.WarmedH vm₁ → Pre ⟨T.setVm vm₁, locs, cells, slots⟩ (Value.ref b :: argsL).toArray) :
    (∃ (v : Option Value) (vm₁ : Vm) (B : Pt), s.WarmedH vm₁ ∧ Stand p l e R s m args below meth c B.U B.locs B.cells B.slots ∧ Post ⟨T.setVm vm₁, locs, cells, slots⟩ (Value.ref b :: argsL).toArray v B ∧
      ∀ target, Steps p.tables e below (B.U.setTop { g with pc := g.pc + 3, stack := v.toList ++ rest }) target → Steps p.tables e below (T.setTop g) target) ∨
    (∃ (q : Addr) (vm₁ : Vm) (B : Pt), s.WarmedH vm₁ ∧ Stand p l e R s m args below meth c B.U B.locs B.cells B.slots ∧ PostX ⟨T.setVm vm₁, locs, cells, slots⟩ (Value.ref b :: argsL).toArray q B ∧
      Steps p.tables e below (T.setTop g) ((B.U.setTop { g with stack := rest }).pushFrame (.throwing q))) := by
  obtain ⟨mk, methM, hnamed, hmethM, hstM, habM⟩ := Cond.instanceMethod_spec hinst
  obtain ⟨methM', cM, hmethM', -, -, -, -, -, -, hsigM⟩ := Cond.code_spec hnamed hcode
  cases hmethM.symm.trans hmethM'
  obtain ⟨c2, r2, m2, q1, q2, q3, q4, kP, hkP, hkPi⟩ := Cond.selects_spec hsel
  cases hcls.symm.trans q1
  cases (State.methodFound?_of_named hnamed hy).symm.trans q2
  cases hnamed.symm.trans q3
  have hselP : selectMethod e.platform s.vm cellB.cls mk = .method mk := by rw [Launch.admits_selectMethod X.admits]; exact q4
  obtain ⟨vm₁, X₁, hstep₁⟩ := X.invokevirtual hexec hown hlink hnamed hmethM hstM hkP hkPi hy (a := b) (cell := cellB) hcell
    (fun z h => by rw [h] at hobj; cases hobj) hselP hmethM habM hkP hkPi (g := g) hg (argsL := argsL) (rest := rest) (hlen _ hsigM) hstack hdg
  rcases hK m meth c ⟨T.setVm vm₁, locs, cells, slots⟩ { g with stack := rest } (.invokevirtual index) mk (Value.ref b :: argsL).toArray X₁ hg hsize hdg hW (X₁.named hnamed) (hpre vm₁ X₁.warmed) with ⟨v, B, X', hpost, hsteps⟩ | ⟨q, B, X', hpost, hsteps⟩
  · exact Or.inl ⟨v, vm₁, B, X₁.warmed, X', hpost, fun target h => hstep₁ _ fun acts => by rw [doInvoke_state]; exact hsteps.trans h⟩
  · exact Or.inr ⟨q, vm₁, B, X₁.warmed, X', hpost, hstep₁ _ fun acts => by rw [doInvoke_state]; exact hsteps⟩
theorem vx_callS (X : Stand p l e R s m args below meth c T locs cells slots) (hexec : p.tables.exec = Jvm.exec) {own : String} {index : Nat} {y : MethodName} {bytes : ByteArray} {maxL : Nat} {ret : Option FieldType}
    (hown : s.vm.findClass own = some m.cls) (hlink : (Cond.methodLink own index y).before args s = true) (hstat : (Cond.static y).before args s = true) (hinit : (Cond.initialized y.cls).before args s = true)
    (hcode : (Cond.code y bytes maxL ret).before args s = true) (hy : y.cls ≠ "java/lang/invoke/MethodHandle" ∧ y.cls ≠ "java/lang/invoke/VarHandle")
    {W9 : Nat} {Pre : Pt → Array Value → Prop} {Post : Pt → Array Value → Option Value → Pt → Prop} {PostX : Pt → Array Value → Addr → Pt → Prop} (hK : vx_Back l R p e below s args y 3 W9 Pre Post PostX)
    {g : JFrame} (hg : g.method = m) (hsize : g.locals.size = c.maxLocals) {argsL rest : List Value} (hlen : ∀ sig, parseMethodDescriptor y.desc = some sig → argsL.length = sig.parameters.length)
    (hstack : g.stack = argsL.reverse ++ rest) (hW : 2 * g.monitorRoom + (rest.map fun v => v.category).sum ≤ W9) (hdg : decode c.code g.pc = .ok (.invokestatic index, 3))
    (hpre : ∀ vm₁, s.WarmedH vm₁ → Pre ⟨T.setVm vm₁, locs, cells, slots⟩ argsL.toArray) :
    (∃ (v : Option Value) (vm₁ : Vm) (B : Pt), s.WarmedH vm₁ ∧ Stand p l e R s m args below meth c B.U B.locs B.cells B.slots ∧ Post ⟨T.setVm vm₁, locs, cells, slots⟩ argsL.toArray v B ∧
      ∀ target, Steps p.tables e below (B.U.setTop { g with pc := g.pc + 3, stack := v.toList ++ rest }) target → Steps p.tables e below (T.setTop g) target) ∨
    (∃ (q : Addr) (vm₁ : Vm) (B : Pt), s.WarmedH vm₁ ∧ Stand p l e R s m args below meth c B.U B.locs B.cells B.slots ∧ PostX ⟨T.setVm vm₁, locs, cells, slots⟩ argsL.toArray q B ∧
      Steps p.tables e below (T.setTop g) ((B.U.setTop { g with stack := rest }).pushFrame (.throwing q))) := by
  obtain ⟨mk, hnamed⟩ := Cond.code_named hcode
  obtain ⟨methM, cM, hmethM, -, -, -, -, -, -, hsigM⟩ := Cond.code_spec hnamed hcode
  have hstatic : methM.isStatic = true := Cond.static_spec hnamed hmethM hstat
  obtain ⟨kP, hkP, -⟩ := className_of_methodNamed hnamed
  have hinitP : kP.init = .initialized := Cond.initialized_spec (findClass_of_methodNamed hnamed) hkP hinit
  obtain ⟨vm₁, X₁, hstep₁⟩ := X.invokestatic hexec hown hlink hnamed hmethM hstatic hkP hinitP hy (g := g) hg (argsL := argsL) (rest := rest) (hlen _ hsigM) hstack hdg
  rcases hK m meth c ⟨T.setVm vm₁, locs, cells, slots⟩ { g with stack := rest } (.invokestatic index) mk argsL.toArray X₁ hg hsize hdg hW (X₁.named hnamed) (hpre vm₁ X₁.warmed) with ⟨v, B, X', hpost, hsteps⟩ | ⟨q, B, X', hpost, hsteps⟩
  · exact Or.inl ⟨v, vm₁, B, X₁.warmed, X', hpost, fun target h => hstep₁ _ fun acts => by rw [doInvoke_state]; exact hsteps.trans h⟩
  · exact Or.inr ⟨q, vm₁, B, X₁.warmed, X', hpost, hstep₁ _ fun acts => by rw [doInvoke_state]; exact hsteps⟩
end Calls
theorem vx_cls {s : State} {T : State} {vm₁ : Vm} {E : String} {k : ClassId} (hW : s.WarmedH vm₁) (h : (T.setVm vm₁).vm.findClass E = some k) : s.vm.findClass E = some k := by
  have h1 : vm₁.findClass E = some k := h
  rw [hW.alike.findClass] at h1
  exact h1
/-- the method's frame g, with q thrown over it -/
def vx_W (p : Program) (l : Launch) (e : Env) (R : Room) (s : State) (m : MethodId) (args : Array Value) (below : List Frame) (meth : Method) (c : Code) (H : Heap) (locs : List Loc) (cells slots : Nat) (Q : State → Prop) (g : JFrame) (q : Addr) : Prop :=
  ∀ T : State, T.heap = H → Stand p l e R s m args below meth c T locs cells slots → ∃ t, Steps p.tables e below ((T.setTop g).pushFrame (.throwing q)) t ∧ Q t
def vx_Run (p : Program) (l : Launch) (e : Env) (R : Room) (s : State) (m : MethodId) (args : Array Value) (below : List Frame) (meth : Method) (c : Code) (H : Heap) (locs : List Loc) (cells slots mc ms : Nat) (g : JFrame) (rest : List Value) (Qa : State → Outcome → State → Prop) (XC : String → State → State → Prop) (free : Addr → Prop) : Prop :=
  ∀ T : State, T.heap = H → Stand p l e R s m args below meth c T locs cells slots →
    (∃ (v : Option Value) (st₀ t T' : State) (L : List Loc), st₀.heap = H ∧ Stand p l e R s m args below meth c T' (locs ++ L) (cells + mc) (slots + ms) ∧ (∀ q ∈ L, free q.base) ∧ T'.heap = t.heap ∧ T'.vm = t.vm ∧ Qa st₀ (.returned v) t ∧
      Goes p e below T g T' { g with pc := g.pc + 3, stack := v.toList ++ rest }) ∨
    (∃ (q : Addr) (st₀ t T' : State) (L : List Loc) (E : String) (ce : Cell), st₀.heap = H ∧ Stand p l e R s m args below meth c T' (locs ++ L) (cells + mc) (slots + ms) ∧ (∀ z ∈ L, free z.base) ∧ T'.heap = t.heap ∧ T'.vm = t.vm ∧ XC E st₀ t ∧ t.heap[q]? = some ce ∧ ce.vm = .none ∧ s.vm.findClass E = some ce.cls ∧
      Steps p.tables e below (T.setTop g) ((T'.setTop { g with stack := rest }).pushFrame (.throwing q)))
def vx_X {S : Type} (px : S → Prop) (B : String → S → State → Prop) (A : Nat → Prop) : String → State → State → Prop := fun E st t => ∃ u : S, px u ∧ B E u t ∧ va_F A st t
section Runs
variable {p : Program} {l : Launch} {e : Env} {R : Room} {s : State} {m : MethodId} {args : Array Value} {below : List Frame} {meth : Method} {c : Code} {H : Heap} {locs : List Loc} {cells slots : Nat}
variable {y : MethodName} {bytes cc : ByteArray} {maxL nL mc ms n index : Nat} {ret : Option FieldType} {ws : List Cond} {rm : Room} {Pc : Array Value → State → Prop} {Qc : Array Value → State → Outcome → State → Prop} {XC : String → State → State → Prop} {free : Addr → Prop} {Ts : List Cond} {own C : String} {b : Addr} {As rest : List Value} {g : JFrame}
theorem vx_callBack (cb : CallB R s args own index y bytes maxL ret ws rm mc ms n) (hM : vx_Met l y ws rm Pc Qc XC mc ms free) (hbl : FrameBlind Pc) : vx_Back l R p e below s args y 3 8 (PreOf R mc ms Pc) (PostOf Qc mc ms free) (vx_Post XC mc ms free) := by
  obtain ⟨hrc, hrs, hfr, hlo, hws, hcw, -, hini, -⟩ := cb
  exact vx_back (bytes := bytes) (maxL := maxL) (ret := ret) hM hbl hrc hrs hfr hlo hws hcw (fun a' U hW => word_at hW (Or.inl (by first | rfl | simp [Cond.onTables, Cond.keeps, Cond.steady])) hini)
theorem vx_runV (S : CallFix p m c cc nL s args Ts own) (hM : vx_Met l y ws rm Pc Qc XC mc ms free) (cw : CallW R s args own C index y bytes maxL ret ws rm mc ms n) (hp : PreV s H C b Pc As)
    (hg : g.method = m) (hn : As.length = n) (hsize : g.locals.size = nL) (hstack : g.stack = As.reverse ++ .ref b :: rest) (hW : 2 * g.monitorRoom + (rest.map fun v => v.category).sum ≤ 8) (hdg : decode cc g.pc = .ok (.invokevirtual index, 3)) (hf : cells + mc ≤ R.cells ∧ slots + ms ≤ R.slots) :
    vx_Run p l e R s m args below meth c H locs cells slots mc ms g rest (Qc (Value.ref b :: As).toArray) XC free := by
  have hK : vx_Back l R p e below s args y 3 8 (PreOf R mc ms Pc) (PostOf Qc mc ms free) (vx_Post XC mc ms free) := vx_callBack cw.1 hM hp.1
  obtain ⟨⟨-, -, -, -, -, -, hcode, -, hy, hlen, hl⟩, hin, hse⟩ := cw
  obtain ⟨hx, hb, hml, ho, -⟩ := S
  obtain ⟨-, ⟨cellB, hcB, hoB, hclB⟩, hPc⟩ := hp
  intro T hT X
  rcases vx_callV X hx (C := C) (bytes := bytes) (maxL := maxL) (ret := ret) ho hl hin hse hcode hy hK (by rw [hT]; exact hcB) hoB hclB hg (hsize.trans hml.symm) (argsL := As) (rest := rest) (fun sig h => hn.trans (hlen sig h)) hstack hW (by rw [hb]; exact hdg)
    (fun vm₁ hW₁ => ⟨hf.1, hf.2, hPc (T.setVm vm₁) hT hW₁⟩) with ⟨v, vm₁, ⟨U', l2, c2, s2⟩, hW₁, X', ⟨g', mk, t, L, e1, e2, hq, h1, hL, h2, h3⟩, st⟩ | ⟨q, vm₁, ⟨U', l2, c2, s2⟩, hW₁, X', ⟨g', mk, t, L, E, ce, e1, e2, hq, hce, hcv, hcl, h1, hL, h2, h3⟩, st⟩
  · dsimp only [Pt.U, Pt.locs, Pt.cells, Pt.slots] at X' e1 e2 h1 h2 h3 st
    subst h1; subst h2; subst h3
    exact Or.inl ⟨v, (T.setVm vm₁).calling g' mk (Value.ref b :: As).toArray, t, U', L, hT, X', hL, e1, e2, hq, st⟩
  · dsimp only [Pt.U, Pt.locs, Pt.cells, Pt.slots] at X' e1 e2 h1 h2 h3 st hcl
    subst h1; subst h2; subst h3
    exact Or.inr ⟨q, (T.setVm vm₁).calling g' mk (Value.ref b :: As).toArray, t, U', L, E, ce, hT, X', hL, e1, e2, hq, hce, hcv, vx_cls hW₁ hcl, st⟩
theorem vx_runS (S : CallFix p m c cc nL s args Ts own) (hM : vx_Met l y ws rm Pc Qc XC mc ms free) (cw : CallB R s args own index y bytes maxL ret ws rm mc ms n ∧ (Cond.static y).before args s = true) (hp : PreS s H Pc As)
    (hg : g.method = m) (hn : As.length = n) (hsize : g.locals.size = nL) (hstack : g.stack = As.reverse ++ rest) (hW : 2 * g.monitorRoom + (rest.map fun v => v.category).sum ≤ 8) (hdg : decode cc g.pc = .ok (.invokestatic index, 3)) (hf : cells + mc ≤ R.cells ∧ slots + ms ≤ R.slots) :
    vx_Run p l e R s m args below meth c H locs cells slots mc ms g rest (Qc As.toArray) XC free := by
  have hK : vx_Back l R p e below s args y 3 8 (PreOf R mc ms Pc) (PostOf Qc mc ms free) (vx_Post XC mc ms free) := vx_callBack cw.1 hM hp.1
  obtain ⟨⟨-, -, -, -, -, -, hcode, hini, hy, hlen, hl⟩, hstt⟩ := cw
  obtain ⟨hx, hb, hml, ho, -⟩ := S
  intro T hT X
  rcases vx_callS X hx (bytes := bytes) (maxL := maxL) (ret := ret) ho hl hstt hini hcode hy hK hg (hsize.trans hml.symm) (argsL := As) (rest := rest) (fun sig h => hn.trans (hlen sig h)) hstack hW (by rw [hb]; exact hdg)
    (fun vm₁ hW₁ => ⟨hf.1, hf.2, hp.2 (T.setVm vm₁) hT hW₁⟩) with ⟨v, vm₁, ⟨U', l2, c2, s2⟩, hW₁, X', ⟨g', mk, t, L, e1, e2, hq, h1, hL, h2, h3⟩, st⟩ | ⟨q, vm₁, ⟨U', l2, c2, s2⟩, hW₁, X', ⟨g', mk, t, L, E, ce, e1, e2, hq, hce, hcv, hcl, h1, hL, h2, h3⟩, st⟩
  · dsimp only [Pt.U, Pt.locs, Pt.cells, Pt.slots] at X' e1 e2 h1 h2 h3 st
    subst h1; subst h2; subst h3
    exact Or.inl ⟨v, (T.setVm vm₁).calling g' mk As.toArray, t, U', L, hT, X', hL, e1, e2, hq, st⟩
  · dsimp only [Pt.U, Pt.locs, Pt.cells, Pt.slots] at X' e1 e2 h1 h2 h3 st hcl
    subst h1; subst h2; subst h3
    exact Or.inr ⟨q, (T.setVm vm₁).calling g' mk As.toArray, t, U', L, E, ce, hT, X', hL, e1, e2, hq, hce, hcv, vx_cls hW₁ hcl, st⟩
end Runs
section Rows
variable {p : Program} {l : Launch} {e : Env} {R : Room} {s : State} {m : MethodId} {args : Array Value} {below : List Frame} {meth : Method} {c : Code} {H : Heap} {locs : List Loc} {cells slots : Nat} {Q : State → Prop}
variable {mc ms : Nat} {free : Addr → Prop} {A0 A1 : Nat → Prop} {H0 : Heap} {a : Array Value} {pc : Nat} {ls : Array Slot} {st0 rest : List Value}
theorem vx_keep {st₀ t T' : State} {L : List Loc} (h0 : st₀.heap = H) (e1 : T'.heap = t.heap) (hS : va_S A0 H0 H locs) (hA : ∀ q, q < H.size → A1 q → A0 q) (hf : ∀ q, free q → A0 q) (hL : ∀ q ∈ L, free q.base) (hF : va_F A1 st₀ t) :
    H.size ≤ T'.heap.size ∧ (∀ q : Nat, q < H.size → ¬ A1 q → T'.heap[q]? = H[q]?) ∧ va_S A0 H0 T'.heap (locs ++ L) := by
  obtain ⟨hz, hk⟩ := hF
  rw [h0] at hz hk
  exact ⟨by rw [e1]; exact hz, fun q h1 h2 => by rw [e1]; exact hk q h1 h2,
    ⟨Nat.le_trans hS.1 (by rw [e1]; exact hz), fun q h1 h2 => by rw [e1, hk q (Nat.lt_of_lt_of_le h1 hS.1) (fun z => h2 (hA q (Nat.lt_of_lt_of_le h1 hS.1) z))]; exact hS.2.1 q h1 h2, fun q hq => by
      rcases List.mem_append.mp hq with h | h
      · exact hS.2.2 q h
      · exact hf _ (hL q h)⟩⟩
theorem vx_calli {S SX : Type} {post : Int32 → S → Prop} {px : SX → Prop} {B : S → State → Prop} {BX : String → SX → State → Prop} {AX : Nat → Prop} (hr : vx_Run p l e R s m args below meth c H locs cells slots mc ms (F0 m pc ls st0) rest (va_Qi post B A1 a) (vx_X px BX AX) free) (hS : va_S A0 H0 H locs) (hA : ∀ q, q < H.size → A1 q → A0 q) (hf : ∀ q, free q → A0 q) (hAX : ∀ q, q < H.size → AX q → A0 q)
    (kx : ∀ (E : String) (ce : Cell) (q9 : Addr) (u : SX) (t : State) (H1 : Heap) (locs1 : List Loc), t.heap = H1 → s.vm.Alike t.vm → px u → BX E u t → H.size ≤ H1.size → (∀ q : Nat, q < H.size → ¬ AX q → H1[q]? = H[q]?) → va_S A0 H0 H1 locs1 → H1[q9]? = some ce → ce.vm = .none → s.vm.findClass E = some ce.cls → vx_W p l e R s m args below meth c H1 locs1 (cells + mc) (slots + ms) Q (F0 m pc ls rest) q9)
    (kk : ∀ (r : Int32) (u : S) (t : State) (H1 : Heap) (locs1 : List Loc), t.heap = H1 → s.vm.Alike t.vm → post r u → B u t → H.size ≤ H1.size → (∀ q : Nat, q < H.size → ¬ A1 q → H1[q]? = H[q]?) → va_S A0 H0 H1 locs1 → W p l e R s m args below meth c H1 locs1 (cells + mc) (slots + ms) Q (F0 m (pc + 3) ls (.int r :: rest))) : W p l e R s m args below meth c H locs cells slots Q (F0 m pc ls st0) := by
  intro T hT X
  rcases hr T hT X with ⟨v, st₀, t, T', L, h0, X', hL, e1, e2, ⟨⟨r, u, hv, hp, hb⟩, hF⟩, st⟩ | ⟨q, st₀, t, T', L, E, ce, h0, X', hL, e1, e2, ⟨u, hp, hb, hF⟩, hce, hcv, hcl, st⟩
  · cases hv
    obtain ⟨k1, k2, k3⟩ := vx_keep h0 e1 hS hA hf hL hF
    obtain ⟨t2, a1, b1⟩ := kk r u t T'.heap (locs ++ L) e1.symm (by rw [← e2]; exact X'.warmed.alike) hp hb k1 k2 k3 T' rfl X'
    exact ⟨t2, st t2 a1, b1⟩
  · obtain ⟨k1, k2, k3⟩ := vx_keep h0 e1 hS hAX hf hL hF
    obtain ⟨t2, a1, b1⟩ := kx E ce q u t T'.heap (locs ++ L) e1.symm (by rw [← e2]; exact X'.warmed.alike) hp hb k1 k2 k3 (by rw [e1]; exact hce) hcv hcl T' rfl X'
    exact ⟨t2, st.trans a1, b1⟩
theorem vx_calll {S SX : Type} {post : Int64 → S → Prop} {px : SX → Prop} {B : S → State → Prop} {BX : String → SX → State → Prop} {AX : Nat → Prop} (hr : vx_Run p l e R s m args below meth c H locs cells slots mc ms (F0 m pc ls st0) rest (va_Ql post B A1 a) (vx_X px BX AX) free) (hS : va_S A0 H0 H locs) (hA : ∀ q, q < H.size → A1 q → A0 q) (hf : ∀ q, free q → A0 q) (hAX : ∀ q, q < H.size → AX q → A0 q)
    (kx : ∀ (E : String) (ce : Cell) (q9 : Addr) (u : SX) (t : State) (H1 : Heap) (locs1 : List Loc), t.heap = H1 → s.vm.Alike t.vm → px u → BX E u t → H.size ≤ H1.size → (∀ q : Nat, q < H.size → ¬ AX q → H1[q]? = H[q]?) → va_S A0 H0 H1 locs1 → H1[q9]? = some ce → ce.vm = .none → s.vm.findClass E = some ce.cls → vx_W p l e R s m args below meth c H1 locs1 (cells + mc) (slots + ms) Q (F0 m pc ls rest) q9)
    (kk : ∀ (r : Int64) (u : S) (t : State) (H1 : Heap) (locs1 : List Loc), t.heap = H1 → s.vm.Alike t.vm → post r u → B u t → H.size ≤ H1.size → (∀ q : Nat, q < H.size → ¬ A1 q → H1[q]? = H[q]?) → va_S A0 H0 H1 locs1 → W p l e R s m args below meth c H1 locs1 (cells + mc) (slots + ms) Q (F0 m (pc + 3) ls (.long r :: rest))) : W p l e R s m args below meth c H locs cells slots Q (F0 m pc ls st0) := by
  intro T hT X
  rcases hr T hT X with ⟨v, st₀, t, T', L, h0, X', hL, e1, e2, ⟨⟨r, u, hv, hp, hb⟩, hF⟩, st⟩ | ⟨q, st₀, t, T', L, E, ce, h0, X', hL, e1, e2, ⟨u, hp, hb, hF⟩, hce, hcv, hcl, st⟩
  · cases hv
    obtain ⟨k1, k2, k3⟩ := vx_keep h0 e1 hS hA hf hL hF
    obtain ⟨t2, a1, b1⟩ := kk r u t T'.heap (locs ++ L) e1.symm (by rw [← e2]; exact X'.warmed.alike) hp hb k1 k2 k3 T' rfl X'
    exact ⟨t2, st t2 a1, b1⟩
  · obtain ⟨k1, k2, k3⟩ := vx_keep h0 e1 hS hAX hf hL hF
    obtain ⟨t2, a1, b1⟩ := kx E ce q u t T'.heap (locs ++ L) e1.symm (by rw [← e2]; exact X'.warmed.alike) hp hb k1 k2 k3 (by rw [e1]; exact hce) hcv hcl T' rfl X'
    exact ⟨t2, st.trans a1, b1⟩
theorem vx_callf {S SX : Type} {post : UInt32 → S → Prop} {px : SX → Prop} {B : S → State → Prop} {BX : String → SX → State → Prop} {AX : Nat → Prop} (hr : vx_Run p l e R s m args below meth c H locs cells slots mc ms (F0 m pc ls st0) rest (va_Qf post B A1 a) (vx_X px BX AX) free) (hS : va_S A0 H0 H locs) (hA : ∀ q, q < H.size → A1 q → A0 q) (hf : ∀ q, free q → A0 q) (hAX : ∀ q, q < H.size → AX q → A0 q)
    (kx : ∀ (E : String) (ce : Cell) (q9 : Addr) (u : SX) (t : State) (H1 : Heap) (locs1 : List Loc), t.heap = H1 → s.vm.Alike t.vm → px u → BX E u t → H.size ≤ H1.size → (∀ q : Nat, q < H.size → ¬ AX q → H1[q]? = H[q]?) → va_S A0 H0 H1 locs1 → H1[q9]? = some ce → ce.vm = .none → s.vm.findClass E = some ce.cls → vx_W p l e R s m args below meth c H1 locs1 (cells + mc) (slots + ms) Q (F0 m pc ls rest) q9)
    (kk : ∀ (r : UInt32) (u : S) (t : State) (H1 : Heap) (locs1 : List Loc), t.heap = H1 → s.vm.Alike t.vm → post r u → B u t → H.size ≤ H1.size → (∀ q : Nat, q < H.size → ¬ A1 q → H1[q]? = H[q]?) → va_S A0 H0 H1 locs1 → W p l e R s m args below meth c H1 locs1 (cells + mc) (slots + ms) Q (F0 m (pc + 3) ls (.float r :: rest))) : W p l e R s m args below meth c H locs cells slots Q (F0 m pc ls st0) := by
  intro T hT X
  rcases hr T hT X with ⟨v, st₀, t, T', L, h0, X', hL, e1, e2, ⟨⟨r, u, hv, hp, hb⟩, hF⟩, st⟩ | ⟨q, st₀, t, T', L, E, ce, h0, X', hL, e1, e2, ⟨u, hp, hb, hF⟩, hce, hcv, hcl, st⟩
  · cases hv
    obtain ⟨k1, k2, k3⟩ := vx_keep h0 e1 hS hA hf hL hF
    obtain ⟨t2, a1, b1⟩ := kk r u t T'.heap (locs ++ L) e1.symm (by rw [← e2]; exact X'.warmed.alike) hp hb k1 k2 k3 T' rfl X'
    exact ⟨t2, st t2 a1, b1⟩
  · obtain ⟨k1, k2, k3⟩ := vx_keep h0 e1 hS hAX hf hL hF
    obtain ⟨t2, a1, b1⟩ := kx E ce q u t T'.heap (locs ++ L) e1.symm (by rw [← e2]; exact X'.warmed.alike) hp hb k1 k2 k3 (by rw [e1]; exact hce) hcv hcl T' rfl X'
    exact ⟨t2, st.trans a1, b1⟩
theorem vx_calld {S SX : Type} {post : UInt64 → S → Prop} {px : SX → Prop} {B : S → State → Prop} {BX : String → SX → State → Prop} {AX : Nat → Prop} (hr : vx_Run p l e R s m args below meth c H locs cells slots mc ms (F0 m pc ls st0) rest (va_Qd post B A1 a) (vx_X px BX AX) free) (hS : va_S A0 H0 H locs) (hA : ∀ q, q < H.size → A1 q → A0 q) (hf : ∀ q, free q → A0 q) (hAX : ∀ q, q < H.size → AX q → A0 q)
    (kx : ∀ (E : String) (ce : Cell) (q9 : Addr) (u : SX) (t : State) (H1 : Heap) (locs1 : List Loc), t.heap = H1 → s.vm.Alike t.vm → px u → BX E u t → H.size ≤ H1.size → (∀ q : Nat, q < H.size → ¬ AX q → H1[q]? = H[q]?) → va_S A0 H0 H1 locs1 → H1[q9]? = some ce → ce.vm = .none → s.vm.findClass E = some ce.cls → vx_W p l e R s m args below meth c H1 locs1 (cells + mc) (slots + ms) Q (F0 m pc ls rest) q9)
    (kk : ∀ (r : UInt64) (u : S) (t : State) (H1 : Heap) (locs1 : List Loc), t.heap = H1 → s.vm.Alike t.vm → post r u → B u t → H.size ≤ H1.size → (∀ q : Nat, q < H.size → ¬ A1 q → H1[q]? = H[q]?) → va_S A0 H0 H1 locs1 → W p l e R s m args below meth c H1 locs1 (cells + mc) (slots + ms) Q (F0 m (pc + 3) ls (.double r :: rest))) : W p l e R s m args below meth c H locs cells slots Q (F0 m pc ls st0) := by
  intro T hT X
  rcases hr T hT X with ⟨v, st₀, t, T', L, h0, X', hL, e1, e2, ⟨⟨r, u, hv, hp, hb⟩, hF⟩, st⟩ | ⟨q, st₀, t, T', L, E, ce, h0, X', hL, e1, e2, ⟨u, hp, hb, hF⟩, hce, hcv, hcl, st⟩
  · cases hv
    obtain ⟨k1, k2, k3⟩ := vx_keep h0 e1 hS hA hf hL hF
    obtain ⟨t2, a1, b1⟩ := kk r u t T'.heap (locs ++ L) e1.symm (by rw [← e2]; exact X'.warmed.alike) hp hb k1 k2 k3 T' rfl X'
    exact ⟨t2, st t2 a1, b1⟩
  · obtain ⟨k1, k2, k3⟩ := vx_keep h0 e1 hS hAX hf hL hF
    obtain ⟨t2, a1, b1⟩ := kx E ce q u t T'.heap (locs ++ L) e1.symm (by rw [← e2]; exact X'.warmed.alike) hp hb k1 k2 k3 (by rw [e1]; exact hce) hcv hcl T' rfl X'
    exact ⟨t2, st.trans a1, b1⟩
theorem vx_callv {S SX : Type} {post : S → Prop} {px : SX → Prop} {B : S → State → Prop} {BX : String → SX → State → Prop} {AX : Nat → Prop} (hr : vx_Run p l e R s m args below meth c H locs cells slots mc ms (F0 m pc ls st0) rest (va_Qv post B A1 a) (vx_X px BX AX) free) (hS : va_S A0 H0 H locs) (hA : ∀ q, q < H.size → A1 q → A0 q) (hf : ∀ q, free q → A0 q) (hAX : ∀ q, q < H.size → AX q → A0 q)
    (kx : ∀ (E : String) (ce : Cell) (q9 : Addr) (u : SX) (t : State) (H1 : Heap) (locs1 : List Loc), t.heap = H1 → s.vm.Alike t.vm → px u → BX E u t → H.size ≤ H1.size → (∀ q : Nat, q < H.size → ¬ AX q → H1[q]? = H[q]?) → va_S A0 H0 H1 locs1 → H1[q9]? = some ce → ce.vm = .none → s.vm.findClass E = some ce.cls → vx_W p l e R s m args below meth c H1 locs1 (cells + mc) (slots + ms) Q (F0 m pc ls rest) q9)
    (kk : ∀ (u : S) (t : State) (H1 : Heap) (locs1 : List Loc), t.heap = H1 → s.vm.Alike t.vm → post u → B u t → H.size ≤ H1.size → (∀ q : Nat, q < H.size → ¬ A1 q → H1[q]? = H[q]?) → va_S A0 H0 H1 locs1 → W p l e R s m args below meth c H1 locs1 (cells + mc) (slots + ms) Q (F0 m (pc + 3) ls (rest))) : W p l e R s m args below meth c H locs cells slots Q (F0 m pc ls st0) := by
  intro T hT X
  rcases hr T hT X with ⟨v, st₀, t, T', L, h0, X', hL, e1, e2, ⟨⟨u, hv, hp, hb⟩, hF⟩, st⟩ | ⟨q, st₀, t, T', L, E, ce, h0, X', hL, e1, e2, ⟨u, hp, hb, hF⟩, hce, hcv, hcl, st⟩
  · cases hv
    obtain ⟨k1, k2, k3⟩ := vx_keep h0 e1 hS hA hf hL hF
    obtain ⟨t2, a1, b1⟩ := kk u t T'.heap (locs ++ L) e1.symm (by rw [← e2]; exact X'.warmed.alike) hp hb k1 k2 k3 T' rfl X'
    exact ⟨t2, st t2 a1, b1⟩
  · obtain ⟨k1, k2, k3⟩ := vx_keep h0 e1 hS hAX hf hL hF
    obtain ⟨t2, a1, b1⟩ := kx E ce q u t T'.heap (locs ++ L) e1.symm (by rw [← e2]; exact X'.warmed.alike) hp hb k1 k2 k3 (by rw [e1]; exact hce) hcv hcl T' rfl X'
    exact ⟨t2, st.trans a1, b1⟩
/-- caught by the row x of this method's table; the rows ahead don't take it -/
theorem vx_catch {own name : String} {E : String} {ce : Cell} {q : Addr} (hown : s.vm.findClass own = some m.cls) (pre : List ExceptionTableEntry) (x : ExceptionTableEntry) (suf : List ExceptionTableEntry) (hsplit : c.exceptionTable.toList = pre ++ x :: suf)
    (hpass : ∀ z ∈ pre, covers z pc = false ∨ (z.catchType ≠ 0 ∧ ∃ nm : String, (Cond.classLink own z.catchType nm).before args s = true ∧ va_Nc E nm s)) (hx : covers x pc = true) (h0 : x.catchType ≠ 0)
    (hlink : (Cond.classLink own x.catchType name).before args s = true) (hcast : (Cond.castable E name).before args s = true) (hcell : H[q]? = some ce) (hv : ce.vm = .none) (hcl : s.vm.findClass E = some ce.cls)
    (kk : W p l e R s m args below meth c H locs cells slots Q (F0 m x.handlerPc ls [.ref q])) : vx_W p l e R s m args below meth c H locs cells slots Q (F0 m pc ls rest) q := by
  intro T hT X
  have hpl : e.platform.magicAccessors = ({} : Platform).magicAccessors := by rw [X.admits.platform]
  obtain ⟨c3, c4, hc3, hc4, hasg⟩ := Cond.castable_spec hcast
  cases Option.some.inj (hc3.symm.trans hcl)
  obtain ⟨c5, hc5, hcl5⟩ := Cond.classLink_spec hown hlink e.platform hpl
  cases Option.some.inj (hc4.symm.trans hc5)
  obtain ⟨vm', X', st⟩ := X.thenCaughtThrough q (g := F0 m pc ls rest) rfl (Steps.refl _) (by rw [hT]; exact hcell) (by rw [hv]; rfl) (by obtain ⟨k9, h9, -⟩ := Vm.findClass_spec hcl; exact ⟨k9, h9⟩) pre x suf hsplit
    (fun z hz => by
      rcases hpass z hz with h | ⟨hz0, nm, hl1, hn1⟩
      · exact Or.inl h
      · obtain ⟨c6, hc6, hcl6⟩ := Cond.classLink_spec hown hl1 e.platform hpl
        obtain ⟨a8, b8, h1, h2, h3⟩ := hn1
        cases Option.some.inj (h1.symm.trans hcl)
        cases Option.some.inj (h2.symm.trans hc6)
        exact Or.inr ⟨hz0, _, hcl6, h3⟩) hx (Or.inr ⟨h0, c4, hcl5, hasg⟩)
  obtain ⟨t, a1, b1⟩ := kk (T.setVm vm') hT X'
  exact ⟨t, st.trans a1, b1⟩
end Rows
section Ends
variable {p : Program} {l : Launch} {e : Env} {R : Room} {s : State} {m : MethodId} {args : Array Value} {below : List Frame} {meth : Method} {c : Code} {H : Heap} {locs : List Loc} {cells slots : Nat} {Q : State → Prop}
variable {mc ms : Nat} {free : Addr → Prop} {A0 A1 : Nat → Prop} {H0 : Heap} {a : Array Value} {ls : Array Slot} {st0 rest : List Value}
variable {Qc : Array Value → State → Outcome → State → Prop} {XC : String → State → State → Prop}
/-- what a body that may throw owes at its end -/
def vx_MQ (below : List Frame) (Qc : Array Value → State → Outcome → State → Prop) (XC : String → State → State → Prop) (a : Array Value) (s : State) (mc ms : Nat) (free : Addr → Prop) : State → Prop := fun t =>
  ∃ o, t.status = .running ∧ Ended t below o ∧ vx_Q Qc XC mc ms free a s o t
theorem vx_ret {g : JFrame} {mc ms : Nat} (k : W p l e R s m args below meth c H locs cells slots (MQ below Qc args s mc ms free) g) : W p l e R s m args below meth c H locs cells slots (vx_MQ below Qc XC args s mc ms free) g := by
  intro T hT X
  obtain ⟨t, a1, o, b1, b2, b3, b4⟩ := k T hT X
  exact ⟨t, a1, o, b1, b2, Or.inl ⟨b3, b4⟩⟩
/-- not caught here: it goes on to the caller -/
theorem vx_widen {g : JFrame} {q : Addr} {k n : Nat} (h1 : cells ≤ k) (h2 : slots ≤ n) (kk : vx_W p l e R s m args below meth c H locs k n Q g q) : vx_W p l e R s m args below meth c H locs cells slots Q g q := fun T hT X => kk T hT (stand_widen X h1 h2)
theorem vx_out {pc : Nat} {E : String} {ce : Cell} {q : Addr} {mc ms : Nat} (hout : ∀ x ∈ c.exceptionTable.toList, covers x pc = false) (hlocks : meth.locks = false) (hcell : H[q]? = some ce) (hv : ce.vm = .none) (hcl : s.vm.findClass E = some ce.cls)
    (hx : ∀ t : State, t.heap = H → s.vm.Alike t.vm → XC E s t) (hf : ∀ z ∈ locs, free z.base) (hc : cells ≤ mc) (hs : slots ≤ ms) :
    vx_W p l e R s m args below meth c H locs cells slots (vx_MQ below Qc XC args s mc ms free) (F0 m pc ls rest) q := by
  intro T hT X
  obtain ⟨st1, hrun, hend, hW, hsm⟩ := X.leaveThrown q (g := F0 m pc ls rest) rfl rfl rfl hout hlocks
  have hcell9 : (T.setFrames (.throwing q :: below)).heap[q]? = some ce := by
    show T.heap[q]? = some ce
    rw [hT]; exact hcell
  exact ⟨_, st1, .threw q, hrun, hend, Or.inr ⟨q, rfl, E, ce, locs, hx _ hT hW.alike, hcell9, hv, hcl, hW, hsm.mono hc hs, hf⟩⟩
theorem vx_frame {U : State} {k n : Nat} (h : s.sameButNew ({ U with vm := s.vm } : State) locs k n) : s.heap.size ≤ U.heap.size ∧ ∀ q : Nat, q < s.heap.size → (∀ z ∈ locs, z.base ≠ q) → U.heap[q]? = s.heap[q]? := by
  obtain ⟨-, h2, -, -, -, h6⟩ := h
  refine ⟨h2, fun q hq hz => ?_⟩
  obtain ⟨c9, e1, e2, e3, e4⟩ := h6 q _ (Array.getElem?_eq_getElem hq)
  have hs : c9.slots = (s.heap[q]).slots := Array.ext_getElem? fun i => e4 i fun hm => hz _ hm rfl
  have h9 : c9 = s.heap[q] := by
    rw [hs] at e2
    exact e2
  have e5 : U.heap[q]? = some c9 := e1
  rw [e5, h9, Array.getElem?_eq_getElem hq]
/-- the words of a throw but the four that speak of the heap -/
def vx_no (w : Cond) : Bool := decide (w ≠ .isRef (.static Bundle.tN "UNASSIGNED_STACK" Bundle.steD)) && decide (w ≠ .isRef (.static Bundle.tN "SUPPRESSED_SENTINEL" Bundle.listD)) && decide (w ≠ .laysStatic Bundle.tN "UNASSIGNED_STACK" Bundle.steD) && decide (w ≠ .laysStatic Bundle.tN "SUPPRESSED_SENTINEL" Bundle.listD)
def vx_at0 (own : String) (ic : Nat) (X : String) (names : List String) : List Cond := (Bundle.ownAtoms0 own ic X names).filter vx_no
def vx_atS (own : String) (ic : Nat) (X : String) (names : List String) : List Cond := (Bundle.ownAtoms own ic X names).filter vx_no
/-- a word that the tables alone decide, or a good one -/
def vx_ot (w : Cond) : Bool := w.onTables || goodWord w
theorem vx_ot_at {args a' : Array Value} {s U : State} {w : Cond} (hW : s.WarmedH U.vm) (hvm : s.vm = U.vm) (hg : vx_ot w = true) (h : w.before args s = true) : w.before a' U = true := by
  simp only [vx_ot, Bool.or_eq_true] at hg
  rcases hg with hg | hg
  · exact va_tabs hg hvm h
  · exact word_at hW (good_of_word hg) h
/-- a list's words: the good ones out of the method's own list, the others by premises of their own -/
theorem vx_hat {args : Array Value} {s : State} {L B : List Cond} (h1 : ∀ w ∈ L.filter goodWord, w.before args s = true) (h2 : ∀ w ∈ L.filter (fun w => !goodWord w), w ∈ B) (h3 : ∀ w ∈ B, w.before args s = true) : ∀ w ∈ L, w.before args s = true := by
  intro w hw
  by_cases g : goodWord w = true
  · exact h1 w (List.mem_filter.mpr ⟨hw, g⟩)
  · refine h3 w (h2 w (List.mem_filter.mpr ⟨hw, ?_⟩))
    show (!goodWord w) = true
    cases hgw : goodWord w
    · rfl
    · exact absurd hgw g
theorem vx_c {args : Array Value} {s : State} {w : Cond} {B : List Cond} (h : w.before args s = true) (t : ∀ w ∈ B, w.before args s = true) : ∀ w' ∈ w :: B, w'.before args s = true := fun w' h' => (List.mem_cons.mp h').elim (fun e => by rw [e]; exact h) (t w')
theorem vx_n {args : Array Value} {s : State} : ∀ w ∈ ([] : List Cond), w.before args s = true := fun _ h => nomatch h
theorem vx_own {args : Array Value} {s : State} {L : List Cond} (h1 : ∀ w ∈ L.filter vx_no, w.before args s = true)
    (hU : (Cond.isRef (.static Bundle.tN "UNASSIGNED_STACK" Bundle.steD)).before args s = true) (hN : (Cond.isRef (.static Bundle.tN "SUPPRESSED_SENTINEL" Bundle.listD)).before args s = true)
    (lU : (Cond.laysStatic Bundle.tN "UNASSIGNED_STACK" Bundle.steD).before args s = true) (lN : (Cond.laysStatic Bundle.tN "SUPPRESSED_SENTINEL" Bundle.listD).before args s = true) : ∀ w ∈ L, w.before args s = true := by
  intro w hw
  by_cases e1 : w = .isRef (.static Bundle.tN "UNASSIGNED_STACK" Bundle.steD)
  · rw [e1]; exact hU
  · by_cases e2 : w = .isRef (.static Bundle.tN "SUPPRESSED_SENTINEL" Bundle.listD)
    · rw [e2]; exact hN
    · by_cases e3 : w = .laysStatic Bundle.tN "UNASSIGNED_STACK" Bundle.steD
      · rw [e3]; exact lU
      · by_cases e4 : w = .laysStatic Bundle.tN "SUPPRESSED_SENTINEL" Bundle.listD
        · rw [e4]; exact lN
        · exact h1 w (List.mem_filter.mpr ⟨hw, by unfold vx_no; rw [decide_eq_true e1, decide_eq_true e2, decide_eq_true e3, decide_eq_true e4]; rfl⟩)
/-- where a static field lies, its class's statics cell in H -/
def vx_L (C n d : String) (A : Nat → Prop) (U : State) (H : Heap) : Prop := ∃ (c : ClassId) (k : Class) (i : Nat) (f : Field) (a : Nat) (cell : Cell), U.vm.findClass C = some c ∧ U.fieldFound? C n d = some (c, k, i, f) ∧ f.isStatic = true ∧ k.statics = some a ∧ H[a]? = some cell ∧ cell.vm.isStatics = true ∧ cell.cls = c ∧ f.slot < cell.slots.size ∧ k.staticTypes[f.slot]? = some f.type ∧ ¬ A a
theorem vx_L.moved {C n d : String} {A : Nat → Prop} {u U : State} {H : Heap} (hvm : u.vm.Alike U.vm) (h : vx_L C n d A u H) : vx_L C n d A U H := by
  obtain ⟨c, k, i, f, a, cell, h1, h2, h3, h4, h5, h6, h7, h8, h9, h10⟩ := h
  obtain ⟨k', hi', he⟩ := State.fieldFound?_setVm hvm h2
  exact ⟨c, k', i, f, a, cell, by rw [hvm.findClass]; exact h1, hi', h3, by rw [he]; exact h4, h5, h6, h7, h8, by rw [he]; exact h9, h10⟩
theorem vx_L.kept {C n d : String} {A : Nat → Prop} {U : State} {H H1 : Heap} (h : vx_L C n d A U H) (hq : ∀ a : Nat, a < H.size → ¬ A a → H1[a]? = H[a]?) : vx_L C n d A U H1 := by
  obtain ⟨c, k, i, f, a, cell, h1, h2, h3, h4, h5, h6, h7, h8, h9, h10⟩ := h
  exact ⟨c, k, i, f, a, cell, h1, h2, h3, h4, by rw [hq a (Array.getElem?_eq_some_iff.mp h5).1 h10]; exact h5, h6, h7, h8, h9, h10⟩
theorem vx_L.narrow {C n d : String} {A B : Nat → Prop} {U : State} {H : Heap} (h : vx_L C n d A U H) (hAB : ∀ q, B q → A q) : vx_L C n d B U H := by
  obtain ⟨c, k, i, f, a, cell, h1, h2, h3, h4, h5, h6, h7, h8, h9, h10⟩ := h
  exact ⟨c, k, i, f, a, cell, h1, h2, h3, h4, h5, h6, h7, h8, h9, fun z => h10 (hAB _ z)⟩
theorem vx_L.word {C n d : String} {A : Nat → Prop} {s : State} {args : Array Value} (h : vx_L C n d A s s.heap) : (Cond.laysStatic C n d).before args s = true := by
  obtain ⟨c, k, i, f, a, cell, h1, h2, h3, h4, h5, h6, h7, h8, h9, -⟩ := h
  show (Cond.laysStatic C n d).holds args s none s [] = true
  exact Cond.laysStatic_of h1 h2 h3 h4 h5 h6 h7 h8 h9
/-- .. and what it holds: null or some reference -/
def vx_Zq (C n d : String) (A : Nat → Prop) (U : State) (H : Heap) : Prop := va_Zq C n d A U H ∧ vx_L C n d A U H
theorem vx_Zq.moved {C n d : String} {A : Nat → Prop} {u U : State} {H : Heap} (hvm : u.vm.Alike U.vm) (h : vx_Zq C n d A u H) : vx_Zq C n d A U H := ⟨va_Zq.moved hvm h.1, vx_L.moved hvm h.2⟩
theorem vx_Zq.kept {C n d : String} {A : Nat → Prop} {U : State} {H H1 : Heap} (h : vx_Zq C n d A U H) (hq : ∀ a : Nat, a < H.size → ¬ A a → H1[a]? = H[a]?) : vx_Zq C n d A U H1 := ⟨va_Zq.kept h.1 hq, vx_L.kept h.2 hq⟩
theorem vx_Zq.narrow {C n d : String} {A B : Nat → Prop} {U : State} {H : Heap} (h : vx_Zq C n d A U H) (hAB : ∀ q, B q → A q) : vx_Zq C n d B U H := ⟨va_Zq.narrow h.1 hAB, vx_L.narrow h.2 hAB⟩
theorem vx_Zqof {args : Array Value} {s : State} {C n d : String} {A : Nat → Prop} (hl : (Cond.laysStatic C n d).before args s = true) (hini : (Cond.initialized C).before args s = true) (h : (Cond.isRef (.static C n d)).before args s = true) (hA : ∀ a : Nat, a < s.heap.size → ¬ A a) : vx_Zq C n d A s s.heap := by
  refine ⟨va_Zqof hl hini h hA, ?_⟩
  obtain ⟨c, k, i, f, a, cell, h1, h2, h3, h4, h5, h6, h7, h8, h9⟩ := Cond.laysStatic_spec hl
  exact ⟨c, k, i, f, a, cell, h1, h2, h3, h4, h5, h6, h7, h8, h9, hA a (Array.getElem?_eq_some_iff.mp h5).1⟩
theorem vx_isRef {C n d : String} {v : Value} {A : Nat → Prop} {s : State} {args : Array Value} (h : va_Z C n d v A s s.heap) (hv : v.isRef = true) : (Cond.isRef (.static C n d)).before args s = true := by
  obtain ⟨cf, kf, fi, f, a, cell, h1, h2, h3, h4, h5, h6, h7, -⟩ := h
  have he : (Term.static C n d).eval args s none [] s = some v := by
    simp [Term.eval, State.fieldNamed?, h1, h2, h4, h5, h6, h7]
  simp only [Cond.before, Cond.holds, Cond.value, he]
  cases v <;> simp_all [Value.isRef]
theorem vx_isRefq {C n d : String} {A : Nat → Prop} {s : State} {args : Array Value} (h : va_Zq C n d A s s.heap) : (Cond.isRef (.static C n d)).before args s = true := by
  rcases h with h | ⟨t, h⟩
  · exact vx_isRef h rfl
  · exact vx_isRef h rfl
/-- the same frame, seen from here: as if the method were called anew in this heap -/
theorem vx_rebase {T : State} (X : Stand p l e R s m args below meth c T locs cells slots) {R' : Room} (hf : R'.frames ≤ R.frames) (hl : R'.locals ≤ R.locals) (hc : cells + R'.cells ≤ R.cells) (hs : slots + R'.slots ≤ R.slots) :
    Stand p l e R' ((T.setVm s.vm).setFrames (.invoking m args :: below)) m args below meth c T [] 0 0 := by
  have htop : (T.setVm s.vm).topJava?.isSome := X.here.top
  have hF : ((T.setVm s.vm).setFrames (.invoking m args :: below)).frames = .invoking m args :: below := State.frames_setFrames _ (State.cur_lt_of_top htop)
  obtain ⟨g₀, hg0⟩ := Option.isSome_iff_exists.mp htop
  obtain ⟨r, hr⟩ := State.topJava?_eq_some.mp hg0
  have hl9 : e.platform.stackLimits (T.setVm s.vm).me = e.platform.stackLimits s.me := X.limits
  have hb9 : (T.setVm s.vm).me.stackBytes = s.me.stackBytes := X.bytes
  refine ⟨X.admits, X.cas, X.clock, hF, ?_, X.hears, X.method, X.code, X.here, X.tail, X.warmed, ?_, ?_, ?_⟩
  · have h := X.room
    have hU : ((T.setVm s.vm).setFrames (.invoking m args :: below)).localsInUse = s.localsInUse := by
      rw [State.localsInUse_invoking hF (meth := meth) (c := c) X.method X.code, State.localsInUse_invoking X.frames X.method X.code]
    simp only [State.hasRoom, Bool.and_eq_true, decide_eq_true_eq] at h ⊢
    obtain ⟨⟨⟨⟨h1, h2, h3, h4, h5, h6⟩, h7⟩, h8⟩, h9⟩ := h
    rw [X.frames, List.length_cons] at h2 h3
    have q1 := X.heapSize
    have q2 := X.used
    simp only [hF, hU, List.length_cons, State.stackLimits_setFrames, State.stackBytes_setFrames, hl9, hb9]
    refine ⟨⟨⟨⟨by omega, by omega, by omega, by omega, by omega, h6⟩, ?_⟩, ?_⟩, X.book⟩
    · show T.heap.size + R'.cells ≤ e.platform.maxCells
      omega
    · show T.slotsUsed + R'.slots ≤ e.platform.maxSlots
      omega
  · rw [State.stackLimits_setFrames]; rfl
  · rw [State.stackBytes_setFrames]; rfl
  · refine ⟨?_, Nat.le_refl _, Nat.le_refl _, ?_, ?_, fun a c9 h9 => ⟨c9, h9, rfl, rfl, fun _ _ => rfl⟩⟩
    · obtain ⟨t, ht, -⟩ := State.frames_cons hr
      show T.setVm s.vm = { ((T.setVm s.vm).setFrames (.invoking m args :: below)).setFrames (T.setVm s.vm).frames with heap := T.heap, slotsUsed := T.slotsUsed }
      rw [State.setFrames_setFrames, State.setFrames_self ht]
      rfl
    · show T.slotsUsed = T.slotsUsed + ((T.heap.toList.drop T.heap.size).map (·.slots.size)).sum
      rw [List.drop_eq_nil_of_le (Nat.le_of_eq Array.length_toList)]
      rfl
    · show ((T.heap.toList.drop T.heap.size).map (·.slots.size)).sum ≤ 0
      rw [List.drop_eq_nil_of_le (Nat.le_of_eq Array.length_toList)]
      exact Nat.le_refl _
/-- 'throw new E()': new; dup; invokespecial; athrow -/
theorem vx_throw0 {cc : ByteArray} {pc : Nat} (hexec : p.tables.exec = Jvm.exec) (hb : c.code = cc) (hl : l.stackTraces = false) {own cls : String} {names : List String} {ik ic mc ms : Nat} {A : Nat → Prop}
    (hown : s.vm.findClass own = some m.cls) (hcls : Bundle.fit cls = true) (hnames : ∀ n ∈ names, Bundle.fit n = true)
    (hk : (Cond.classLink own ik cls).before args s = true) (hini : (Cond.initialized cls).before args s = true) (hat : ∀ w ∈ vx_at0 own ic cls names, w.before args s = true)
    (hgood : ∀ w ∈ Cond.classLink own ik cls :: Cond.initialized cls :: vx_at0 own ic cls names, vx_ot w = true)
    (hU : vx_Zq Bundle.tN "UNASSIGNED_STACK" Bundle.steD A s s.heap) (hN : vx_Zq Bundle.tN "SUPPRESSED_SENTINEL" Bundle.listD A s s.heap) (hS : va_S A s.heap H locs) (hsize : ls.size = c.maxLocals)
    (d0 : decode cc pc = .ok (.new ik, 3)) (d3 : decode cc (pc + 3) = .ok (.dup, 1)) (d4 : decode cc (pc + 4) = .ok (.invokespecial ic, 3)) (d7 : decode cc (pc + 7) = .ok (.athrow, 1))
    (hout : ∀ x ∈ c.exceptionTable.toList, covers x (pc + 7) = false)
    (hRframes : names.length + 3 < R.frames) (hRlocals : (rest.map fun v => v.category).sum + (13 * (names.length + 1) + 42) ≤ R.locals) (hRcells : cells + 1 ≤ R.cells) (hRslots : slots + 6 ≤ R.slots) (hlocks : meth.locks = false)
    (hx : ∀ t : State, s.vm.Alike t.vm → H.size ≤ t.heap.size → (∀ q : Nat, q < H.size → t.heap[q]? = H[q]?) → XC cls s t)
    (hf : ∀ z ∈ locs, free z.base) (hc : cells + 1 ≤ mc) (hs : slots + 6 ≤ ms) :
    W p l e R s m args below meth c H locs cells slots (vx_MQ below Qc XC args s mc ms free) (F0 m pc ls rest) := by
  intro T hT X
  have htr : e.platform.stackTraces = false := (show e.platform.stackTraces = l.stackTraces by rw [X.admits.platform]).trans hl
  have Y := vx_rebase X (R' := { frames := R.frames, locals := R.locals, cells := 1, slots := 6 }) (Nat.le_refl _) (Nat.le_refl _) hRcells hRslots
  obtain ⟨s', hA⟩ : ∃ z, z = (T.setVm s.vm).setFrames (.invoking m args :: below) := ⟨_, rfl⟩
  rw [← hA] at Y
  have hvm : s'.vm = s.vm := by rw [hA]; rfl
  have hhp : s'.heap = H := by rw [hA]; exact hT
  have hW0 : s.WarmedH s'.vm := by rw [hvm]; exact State.WarmedH.refl s
  have hat' : ∀ w ∈ vx_at0 own ic cls names, w.before args s' = true := fun w hw => vx_ot_at hW0 hvm.symm (hgood w (List.mem_cons_of_mem _ (List.mem_cons_of_mem _ hw))) (hat w hw)
  have hk' : (Cond.classLink own ik cls).before args s' = true := vx_ot_at hW0 hvm.symm (hgood _ List.mem_cons_self) hk
  have hini' : (Cond.initialized cls).before args s' = true := vx_ot_at hW0 hvm.symm (hgood _ (List.mem_cons_of_mem _ List.mem_cons_self)) hini
  have hU' : vx_Zq Bundle.tN "UNASSIGNED_STACK" Bundle.steD A s' s'.heap := by rw [hhp]; exact vx_Zq.moved hW0.alike (hU.kept hS.2.1)
  have hN' : vx_Zq Bundle.tN "SUPPRESSED_SENTINEL" Bundle.listD A s' s'.heap := by rw [hhp]; exact vx_Zq.moved hW0.alike (hN.kept hS.2.1)
  have h : ∀ w ∈ Bundle.ownAtoms0 own ic cls names, w.before args s' = true := vx_own hat' (vx_isRefq hU'.1) (vx_isRefq hN'.1) hU'.2.word hN'.2.word
  have hown' : s'.vm.findClass own = some m.cls := by rw [hvm]; exact hown
  have hins : (Cond.instantiable cls 6).before args s' = true := h _ (by simp [Bundle.ownAtoms0])
  obtain ⟨vm₁, cX, kX, hfX, hkX, -, -, X₁, st1⟩ := Y.newCold hexec (own := own) (C := cls) (index := ik) (n := 6) hown' hk' hins hini'
    (g := F0 m pc ls rest) rfl (by rw [hb]; exact d0) (Nat.le_refl _) (Nat.le_refl _)
  generalize hT1 : (T.setVm vm₁).pushCell { cls := cX, slots := kX.instanceTypes.map defaultValue, vm := .none } = T1 at X₁ st1
  have hcat : (Value.ref T.heap.size).category = 1 := rfl
  have hcellA : T1.heap[T.heap.size]? = some (freshCell cX kX) := by rw [← hT1]; exact State.heap_pushCell_size _ _
  have d3' : decode c.code (pc + 3) = .ok (.dup, 1) := by rw [hb]; exact d3
  obtain ⟨U, hsteps, hrun, hend, hW, hsame, ce, hce, hO⟩ := X₁.ctorThrow0 hexec htr (own := own) (cls := cls) (names := names) (ic := ic) hown' hcls hnames h (fun x hx => nomatch hx) hfX hkX hcellA (by rw [hhp, hT]; exact Nat.le_refl _)
    (g := { method := m, pc := pc + 4, locals := ls, stack := .ref T.heap.size :: .ref T.heap.size :: rest, locked := none }) rfl hsize rfl rfl (rest := rest) rfl
    (by rw [hb]; exact d4) (by rw [hb]; exact d7) hout hRframes (by simp only [List.map_cons, List.sum_cons, hcat]; omega) hlocks
  obtain ⟨f1, f2⟩ := vx_frame hsame
  rw [hhp] at f1 f2
  have hWs : s.WarmedH U.vm := State.WarmedH.trans hW0 hW
  have hcl : s.vm.findClass cls = some ce.cls := by
    have h9 := hO.cls
    rw [hvm] at h9
    exact h9
  have hall : s.sameButNew ({ U with vm := s.vm } : State) locs mc ms := by
    subst hA
    obtain ⟨e1, e2⟩ := hsame
    rw [State.setFrames_setFrames] at e1
    have h2 : (T.setVm s.vm).sameButNew ({ U with vm := s.vm } : State) [] (0 + 1) (0 + 6) := ⟨e1, e2⟩
    have h3 := X.same.trans h2
    rw [List.append_nil] at h3
    exact h3.mono hc hs
  refine ⟨U, ?_, .threw T.heap.size, hrun, hend, Or.inr ⟨T.heap.size, rfl, cls, ce, locs, hx U hWs.alike f1 (fun q hq => f2 q hq (fun z hz => nomatch hz)), hce, hO.vm, hcl, hWs, hall, hf⟩⟩
  refine st1 _ ?_
  show Steps p.tables e below (T1.setTop { method := m, pc := pc + 3, locals := ls, stack := .ref T.heap.size :: rest, locked := none }) _
  jvm_step X₁.here [X₁.here.top, hexec, d3', Value.category]
  exact hsteps
/-- 'throw new E("text")': new; dup; ldc; invokespecial; athrow -/
theorem vx_throwS {cc : ByteArray} {pc : Nat} (hexec : p.tables.exec = Jvm.exec) (hb : c.code = cc) (hl : l.stackTraces = false) {own cls text : String} {names : List String} {ik is ic mc ms sa : Nat} {A : Nat → Prop}
    (hown : s.vm.findClass own = some m.cls) (hcls : Bundle.fit cls = true) (hnames : ∀ n ∈ names, Bundle.fit n = true)
    (hk : (Cond.classLink own ik cls).before args s = true) (hini : (Cond.initialized cls).before args s = true) (hstr : vk_R own is text sa s) (hat : ∀ w ∈ vx_atS own ic cls names, w.before args s = true)
    (hgood : ∀ w ∈ Cond.classLink own ik cls :: Cond.initialized cls :: vx_atS own ic cls names, vx_ot w = true)
    (hU : vx_Zq Bundle.tN "UNASSIGNED_STACK" Bundle.steD A s s.heap) (hN : vx_Zq Bundle.tN "SUPPRESSED_SENTINEL" Bundle.listD A s s.heap) (hS : va_S A s.heap H locs) (hsize : ls.size = c.maxLocals)
    (d0 : decode cc pc = .ok (.new ik, 3)) (d3 : decode cc (pc + 3) = .ok (.dup, 1)) (d4 : decode cc (pc + 4) = .ok (.ldc is, 2)) (d6 : decode cc (pc + 6) = .ok (.invokespecial ic, 3)) (d9 : decode cc (pc + 9) = .ok (.athrow, 1))
    (hout : ∀ x ∈ c.exceptionTable.toList, covers x (pc + 9) = false)
    (hRframes : names.length + 3 < R.frames) (hRlocals : (rest.map fun v => v.category).sum + (13 * (names.length + 1) + 43) ≤ R.locals) (hRcells : cells + 1 ≤ R.cells) (hRslots : slots + 6 ≤ R.slots) (hlocks : meth.locks = false)
    (hx : ∀ t : State, s.vm.Alike t.vm → H.size ≤ t.heap.size → (∀ q : Nat, q < H.size → t.heap[q]? = H[q]?) → XC cls s t)
    (hf : ∀ z ∈ locs, free z.base) (hc : cells + 1 ≤ mc) (hs : slots + 6 ≤ ms) :
    W p l e R s m args below meth c H locs cells slots (vx_MQ below Qc XC args s mc ms free) (F0 m pc ls rest) := by
  intro T hT X
  have htr : e.platform.stackTraces = false := (show e.platform.stackTraces = l.stackTraces by rw [X.admits.platform]).trans hl
  have Y := vx_rebase X (R' := { frames := R.frames, locals := R.locals, cells := 1, slots := 6 }) (Nat.le_refl _) (Nat.le_refl _) hRcells hRslots
  obtain ⟨s', hA⟩ : ∃ z, z = (T.setVm s.vm).setFrames (.invoking m args :: below) := ⟨_, rfl⟩
  rw [← hA] at Y
  have hvm : s'.vm = s.vm := by rw [hA]; rfl
  have hhp : s'.heap = H := by rw [hA]; exact hT
  have hW0 : s.WarmedH s'.vm := by rw [hvm]; exact State.WarmedH.refl s
  have hat' : ∀ w ∈ vx_atS own ic cls names, w.before args s' = true := fun w hw => vx_ot_at hW0 hvm.symm (hgood w (List.mem_cons_of_mem _ (List.mem_cons_of_mem _ hw))) (hat w hw)
  have hk' : (Cond.classLink own ik cls).before args s' = true := vx_ot_at hW0 hvm.symm (hgood _ List.mem_cons_self) hk
  have hini' : (Cond.initialized cls).before args s' = true := vx_ot_at hW0 hvm.symm (hgood _ (List.mem_cons_of_mem _ List.mem_cons_self)) hini
  have hU' : vx_Zq Bundle.tN "UNASSIGNED_STACK" Bundle.steD A s' s'.heap := by rw [hhp]; exact vx_Zq.moved hW0.alike (hU.kept hS.2.1)
  have hN' : vx_Zq Bundle.tN "SUPPRESSED_SENTINEL" Bundle.listD A s' s'.heap := by rw [hhp]; exact vx_Zq.moved hW0.alike (hN.kept hS.2.1)
  have h : ∀ w ∈ Bundle.ownAtoms own ic cls names, w.before args s' = true := vx_own hat' (vx_isRefq hU'.1) (vx_isRefq hN'.1) hU'.2.word hN'.2.word
  have hown' : s'.vm.findClass own = some m.cls := by rw [hvm]; exact hown
  have hins : (Cond.instantiable cls 6).before args s' = true := h _ (by simp [Bundle.ownAtoms])
  obtain ⟨vm₁, cX, kX, hfX, hkX, -, -, X₁, st1⟩ := Y.newCold hexec (own := own) (C := cls) (index := ik) (n := 6) hown' hk' hins hini'
    (g := F0 m pc ls rest) rfl (by rw [hb]; exact d0) (Nat.le_refl _) (Nat.le_refl _)
  generalize hT1 : (T.setVm vm₁).pushCell { cls := cX, slots := kX.instanceTypes.map defaultValue, vm := .none } = T1 at X₁ st1
  have hcat : (Value.ref T.heap.size).category = 1 := rfl
  have hcellA : T1.heap[T.heap.size]? = some (freshCell cX kX) := by rw [← hT1]; exact State.heap_pushCell_size _ _
  have d3' : decode c.code (pc + 3) = .ok (.dup, 1) := by rw [hb]; exact d3
  have d4' : decode c.code (pc + 4) = .ok (.ldc is, 2) := by rw [hb]; exact d4
  have hstr' : vk_R own is text sa s' := vk_R.warm hW0 hstr
  obtain ⟨U, hsteps, hrun, hend, hW, hsame, ce, hce, hO⟩ := X₁.ctorThrowS hexec htr (own := own) (cls := cls) (names := names) (ic := ic) hown' hcls hnames h (fun x hx => nomatch hx) hfX hkX hcellA (by rw [hhp, hT]; exact Nat.le_refl _) (msg := .ref sa) rfl
    (g := { method := m, pc := pc + 6, locals := ls, stack := .ref sa :: .ref T.heap.size :: .ref T.heap.size :: rest, locked := none }) rfl hsize rfl rfl (rest := rest) rfl
    (by rw [hb]; exact d6) (by rw [hb]; exact d9) hout hRframes (by simp only [List.map_cons, List.sum_cons, hcat]; omega) hlocks
  obtain ⟨f1, f2⟩ := vx_frame hsame
  rw [hhp] at f1 f2
  have hWs : s.WarmedH U.vm := State.WarmedH.trans hW0 hW
  have hcl : s.vm.findClass cls = some ce.cls := by
    have h9 := hO.cls
    rw [hvm] at h9
    exact h9
  have hall : s.sameButNew ({ U with vm := s.vm } : State) locs mc ms := by
    subst hA
    obtain ⟨e1, e2⟩ := hsame
    rw [State.setFrames_setFrames] at e1
    have h2 : (T.setVm s.vm).sameButNew ({ U with vm := s.vm } : State) [] (0 + 1) (0 + 6) := ⟨e1, e2⟩
    have h3 := X.same.trans h2
    rw [List.append_nil] at h3
    exact h3.mono hc hs
  refine ⟨U, ?_, .threw T.heap.size, hrun, hend, Or.inr ⟨T.heap.size, rfl, cls, ce, locs, hx U hWs.alike f1 (fun q hq => f2 q hq (fun z hz => nomatch hz)), hce, hO.vm, hcl, hWs, hall, hf⟩⟩
  refine st1 _ ?_
  show Steps p.tables e below (T1.setTop { method := m, pc := pc + 3, locals := ls, stack := .ref T.heap.size :: rest, locked := none }) _
  jvm_step X₁.here [X₁.here.top, hexec, d3', Value.category]
  exact X₁.ldcString hexec (own := own) (text := text) (index := is) (a := sa) hown' hstr'.1 hstr'.2
    (g := { method := m, pc := pc + 4, locals := ls, stack := .ref T.heap.size :: .ref T.heap.size :: rest, locked := none }) rfl d4' _ hsteps
/-- 'throw new E("text")', the text by a wide index -/
theorem vx_throwSW {cc : ByteArray} {pc : Nat} (hexec : p.tables.exec = Jvm.exec) (hb : c.code = cc) (hl : l.stackTraces = false) {own cls text : String} {names : List String} {ik is ic mc ms sa : Nat} {A : Nat → Prop}
    (hown : s.vm.findClass own = some m.cls) (hcls : Bundle.fit cls = true) (hnames : ∀ n ∈ names, Bundle.fit n = true)
    (hk : (Cond.classLink own ik cls).before args s = true) (hini : (Cond.initialized cls).before args s = true) (hstr : vk_R own is text sa s) (hat : ∀ w ∈ vx_atS own ic cls names, w.before args s = true)
    (hgood : ∀ w ∈ Cond.classLink own ik cls :: Cond.initialized cls :: vx_atS own ic cls names, vx_ot w = true)
    (hU : vx_Zq Bundle.tN "UNASSIGNED_STACK" Bundle.steD A s s.heap) (hN : vx_Zq Bundle.tN "SUPPRESSED_SENTINEL" Bundle.listD A s s.heap) (hS : va_S A s.heap H locs) (hsize : ls.size = c.maxLocals)
    (d0 : decode cc pc = .ok (.new ik, 3)) (d3 : decode cc (pc + 3) = .ok (.dup, 1)) (d4 : decode cc (pc + 4) = .ok (.ldc_w is, 3)) (d7 : decode cc (pc + 7) = .ok (.invokespecial ic, 3)) (d10 : decode cc (pc + 10) = .ok (.athrow, 1))
    (hout : ∀ x ∈ c.exceptionTable.toList, covers x (pc + 10) = false)
    (hRframes : names.length + 3 < R.frames) (hRlocals : (rest.map fun v => v.category).sum + (13 * (names.length + 1) + 43) ≤ R.locals) (hRcells : cells + 1 ≤ R.cells) (hRslots : slots + 6 ≤ R.slots) (hlocks : meth.locks = false)
    (hx : ∀ t : State, s.vm.Alike t.vm → H.size ≤ t.heap.size → (∀ q : Nat, q < H.size → t.heap[q]? = H[q]?) → XC cls s t)
    (hf : ∀ z ∈ locs, free z.base) (hc : cells + 1 ≤ mc) (hs : slots + 6 ≤ ms) :
    W p l e R s m args below meth c H locs cells slots (vx_MQ below Qc XC args s mc ms free) (F0 m pc ls rest) := by
  intro T hT X
  have htr : e.platform.stackTraces = false := (show e.platform.stackTraces = l.stackTraces by rw [X.admits.platform]).trans hl
  have Y := vx_rebase X (R' := { frames := R.frames, locals := R.locals, cells := 1, slots := 6 }) (Nat.le_refl _) (Nat.le_refl _) hRcells hRslots
  obtain ⟨s', hA⟩ : ∃ z, z = (T.setVm s.vm).setFrames (.invoking m args :: below) := ⟨_, rfl⟩
  rw [← hA] at Y
  have hvm : s'.vm = s.vm := by rw [hA]; rfl
  have hhp : s'.heap = H := by rw [hA]; exact hT
  have hW0 : s.WarmedH s'.vm := by rw [hvm]; exact State.WarmedH.refl s
  have hat' : ∀ w ∈ vx_atS own ic cls names, w.before args s' = true := fun w hw => vx_ot_at hW0 hvm.symm (hgood w (List.mem_cons_of_mem _ (List.mem_cons_of_mem _ hw))) (hat w hw)
  have hk' : (Cond.classLink own ik cls).before args s' = true := vx_ot_at hW0 hvm.symm (hgood _ List.mem_cons_self) hk
  have hini' : (Cond.initialized cls).before args s' = true := vx_ot_at hW0 hvm.symm (hgood _ (List.mem_cons_of_mem _ List.mem_cons_self)) hini
  have hU' : vx_Zq Bundle.tN "UNASSIGNED_STACK" Bundle.steD A s' s'.heap := by rw [hhp]; exact vx_Zq.moved hW0.alike (hU.kept hS.2.1)
  have hN' : vx_Zq Bundle.tN "SUPPRESSED_SENTINEL" Bundle.listD A s' s'.heap := by rw [hhp]; exact vx_Zq.moved hW0.alike (hN.kept hS.2.1)
  have h : ∀ w ∈ Bundle.ownAtoms own ic cls names, w.before args s' = true := vx_own hat' (vx_isRefq hU'.1) (vx_isRefq hN'.1) hU'.2.word hN'.2.word
  have hown' : s'.vm.findClass own = some m.cls := by rw [hvm]; exact hown
  have hins : (Cond.instantiable cls 6).before args s' = true := h _ (by simp [Bundle.ownAtoms])
  obtain ⟨vm₁, cX, kX, hfX, hkX, -, -, X₁, st1⟩ := Y.newCold hexec (own := own) (C := cls) (index := ik) (n := 6) hown' hk' hins hini'
    (g := F0 m pc ls rest) rfl (by rw [hb]; exact d0) (Nat.le_refl _) (Nat.le_refl _)
  generalize hT1 : (T.setVm vm₁).pushCell { cls := cX, slots := kX.instanceTypes.map defaultValue, vm := .none } = T1 at X₁ st1
  have hcat : (Value.ref T.heap.size).category = 1 := rfl
  have hcellA : T1.heap[T.heap.size]? = some (freshCell cX kX) := by rw [← hT1]; exact State.heap_pushCell_size _ _
  have d3' : decode c.code (pc + 3) = .ok (.dup, 1) := by rw [hb]; exact d3
  have d4' : decode c.code (pc + 4) = .ok (.ldc_w is, 3) := by rw [hb]; exact d4
  have hstr' : vk_R own is text sa s' := vk_R.warm hW0 hstr
  obtain ⟨U, hsteps, hrun, hend, hW, hsame, ce, hce, hO⟩ := X₁.ctorThrowS hexec htr (own := own) (cls := cls) (names := names) (ic := ic) hown' hcls hnames h (fun x hx => nomatch hx) hfX hkX hcellA (by rw [hhp, hT]; exact Nat.le_refl _) (msg := .ref sa) rfl
    (g := { method := m, pc := pc + 7, locals := ls, stack := .ref sa :: .ref T.heap.size :: .ref T.heap.size :: rest, locked := none }) rfl hsize rfl rfl (rest := rest) rfl
    (by rw [hb]; exact d7) (by rw [hb]; exact d10) hout hRframes (by simp only [List.map_cons, List.sum_cons, hcat]; omega) hlocks
  obtain ⟨f1, f2⟩ := vx_frame hsame
  rw [hhp] at f1 f2
  have hWs : s.WarmedH U.vm := State.WarmedH.trans hW0 hW
  have hcl : s.vm.findClass cls = some ce.cls := by
    have h9 := hO.cls
    rw [hvm] at h9
    exact h9
  have hall : s.sameButNew ({ U with vm := s.vm } : State) locs mc ms := by
    subst hA
    obtain ⟨e1, e2⟩ := hsame
    rw [State.setFrames_setFrames] at e1
    have h2 : (T.setVm s.vm).sameButNew ({ U with vm := s.vm } : State) [] (0 + 1) (0 + 6) := ⟨e1, e2⟩
    have h3 := X.same.trans h2
    rw [List.append_nil] at h3
    exact h3.mono hc hs
  refine ⟨U, ?_, .threw T.heap.size, hrun, hend, Or.inr ⟨T.heap.size, rfl, cls, ce, locs, hx U hWs.alike f1 (fun q hq => f2 q hq (fun z hz => nomatch hz)), hce, hO.vm, hcl, hWs, hall, hf⟩⟩
  refine st1 _ ?_
  show Steps p.tables e below (T1.setTop { method := m, pc := pc + 3, locals := ls, stack := .ref T.heap.size :: rest, locked := none }) _
  jvm_step X₁.here [X₁.here.top, hexec, d3', Value.category]
  exact X₁.ldcStringW hexec (own := own) (text := text) (index := is) (a := sa) hown' hstr'.1 hstr'.2
    (g := { method := m, pc := pc + 4, locals := ls, stack := .ref T.heap.size :: .ref T.heap.size :: rest, locked := none }) rfl d4' _ hsteps
end Ends
section Bodies
variable {l : Launch}
theorem vx_ofW {y : MethodName} {ws ws' : List Cond} {rm : Room} {Pc : Array Value → State → Prop} {Qc : Array Value → State → Outcome → State → Prop} {XC : String → State → State → Prop} {mc ms : Nat} {free : Addr → Prop} {cc : ByteArray} {maxL : Nat} {ret : Option FieldType}
    (hy : plainName y.cls = true) (hw : ws = Cond.code y cc maxL ret :: ws')
    (body : ∀ p e s m args below meth c s₁, BodyLoose p l y (headSpec ws rm) cc maxL ret e s m args below meth c s₁ → c.maxLocals = maxL → (∀ x ∈ c.exceptionTable.toList, False) → Pc args s →
      W p l e (headSpec ws rm).room s m args below meth c s.heap [] 0 0 (vx_MQ below Qc XC args s mc ms free) (entryFrame m args maxL)) : vx_Met l y ws rm Pc Qc XC mc ms free := by
  refine MetFree.of_bodyS (code := cc) (maxLocals := maxL) (ret := ret) hy ?_ ?_
  · intro args s m h hn
    obtain ⟨meth, c, h1, h2, h3, h4, h5, h6, -, -⟩ := Cond.code_spec hn (atoms_spec (ws := ws) h _ (by rw [hw]; exact List.mem_cons_self))
    exact ⟨meth, c, h1, h2, h3, h4, h5, h6⟩
  · intro p e s m args below meth c s₁ B hml hP _
    have hh0 : s₁.heap = s.heap := by rw [B.state]; rfl
    have ht : ∀ x ∈ c.exceptionTable.toList, False := by
      obtain ⟨meth9, c9, h1, h2, -, -, -, -, h7, -⟩ := Cond.code_spec B.named (atoms_spec (ws := ws) B.pre _ (by rw [hw]; exact List.mem_cons_self))
      cases Option.some.inj (h1.symm.trans B.method)
      cases Option.some.inj (h2.symm.trans (Stand.of_body B).code)
      intro x hx
      rw [Array.isEmpty_iff.mp h7] at hx
      cases hx
    obtain ⟨t, a1, o, b1, b2, b3⟩ := body p e s m args below meth c s₁ B hml ht hP s₁ hh0 (Stand.of_body B)
    exact ⟨t, o, a1, b1, b2, b3⟩
/-- the table of a body with handlers -/
theorem vx_table {p : Program} {x y : MethodName} {S : Spec} {cc bytes : ByteArray} {maxL maxL' : Nat} {ret ret' : Option FieldType} {e : Env} {s s₁ : State} {m : MethodId} {args : Array Value} {below : List Frame} {meth : Method} {c : Code} {hh : List (Nat × Nat × Nat × Nat)}
    (B : BodyLoose p l y S cc maxL ret e s m args below meth c s₁) (h : (Cond.codeWith y bytes maxL' ret' hh).before args s = true) : c.exceptionTable.toList = tableOf hh := by
  obtain ⟨m9, meth9, c9, hn9, h1, h2, -, -, h6, -⟩ := Cond.codeWith_spec h
  cases Option.some.inj (hn9.symm.trans B.named)
  cases Option.some.inj (h1.symm.trans B.method)
  cases Option.some.inj (h2.symm.trans (Stand.of_body B).code)
  rw [← h6, table_eq]
end Bodies
end VXA
/-! ===== END ===== -/
/-! ===== BEGIN a static call of a method with an exception table ===== -/
section VXS
variable {p : Program} {l : Launch} {e : Env} {R : Room} {s : State} {m : MethodId} {args : Array Value} {below : List Frame} {meth : Method} {c : Code} {T : State} {H : Heap} {locs : List Loc} {cells slots : Nat}
abbrev vx_CSW (R : Room) (s : State) (args : Array Value) (own : String) (index : Nat) (y : MethodName) (bytes : ByteArray) (maxL : Nat) (ret : Option FieldType) (hh : List (Nat × Nat × Nat × Nat)) (ws : List Cond) (rm : Room) (mc ms n : Nat) : Prop :=
  (rm.cells = mc ∧ rm.slots = ms ∧ rm.frames + 1 ≤ R.frames ∧ 8 + (maxL + 11) + rm.locals ≤ R.locals ∧ (∀ w ∈ ws, ∀ (a' : Array Value) (U : State), s.WarmedH U.vm → w.before a' U = true) ∧ Cond.codeWith y bytes maxL ret hh ∈ ws) ∧
  (Cond.codeWith y bytes maxL ret hh).before args s = true ∧ (Cond.initialized y.cls).before args s = true ∧ (y.cls ≠ "java/lang/invoke/MethodHandle" ∧ y.cls ≠ "java/lang/invoke/VarHandle") ∧
  (∀ sig, parseMethodDescriptor y.desc = some sig → n = sig.parameters.length) ∧ (Cond.methodLink own index y).before args s = true ∧ (Cond.static y).before args s = true
theorem vx_cwSW {own : String} {index maxL mc ms : Nat} {y : MethodName} {bytes : ByteArray} {ret : Option FieldType} {hh : List (Nat × Nat × Nat × Nat)} {Ts ws ws' : List Cond} {rm : Room} (n : Nat) (ht : ∀ w ∈ Ts, w.before args s = true) (hT : GoodIn Ts (va_wsS own index y ws)) (hw : ws = Cond.codeWith y bytes maxL ret hh :: ws') (hrc : rm.cells = mc) (hrs : rm.slots = ms)
    (hd : y.cls ≠ "java/lang/invoke/MethodHandle" ∧ y.cls ≠ "java/lang/invoke/VarHandle" ∧ (parseMethodDescriptor y.desc).map (fun d => d.parameters.length) = some n) (hR : rm.frames + 1 ≤ R.frames ∧ 8 + (maxL + 11) + rm.locals ≤ R.locals) :
    vx_CSW R s args own index y bytes maxL ret hh ws rm mc ms n := by
  have ok : ∀ w ∈ va_wsS own index y ws, w.before args s = true := fun w h => ht w (hT w h).1
  have hG : GoodIn Ts ws := fun w h => hT w (by unfold va_wsS; exact List.mem_append_right _ h)
  have hc : Cond.codeWith y bytes maxL ret hh ∈ ws := by rw [hw]; exact List.mem_cons_self
  refine ⟨⟨hrc, hrs, hR.1, hR.2, pay_in ht hG, hc⟩, ht _ (hG _ hc).1, ok _ (by simp [va_wsS]), ⟨hd.1, hd.2.1⟩, fun sig h => ?_, ok _ (by simp [va_wsS]), ok _ (by simp [va_wsS])⟩
  have h2 := hd.2.2
  rw [h] at h2
  exact (Option.some.inj h2).symm
theorem vx_callSW (X : Stand p l e R s m args below meth c T locs cells slots) (hexec : p.tables.exec = Jvm.exec) {own : String} {index : Nat} {y : MethodName} {bytes : ByteArray} {maxL : Nat} {ret : Option FieldType} {hh : List (Nat × Nat × Nat × Nat)}
    (hown : s.vm.findClass own = some m.cls) (hlink : (Cond.methodLink own index y).before args s = true) (hstat : (Cond.static y).before args s = true) (hinit : (Cond.initialized y.cls).before args s = true)
    (hcode : (Cond.codeWith y bytes maxL ret hh).before args s = true) (hy : y.cls ≠ "java/lang/invoke/MethodHandle" ∧ y.cls ≠ "java/lang/invoke/VarHandle")
    {W9 : Nat} {Pre : Pt → Array Value → Prop} {Post : Pt → Array Value → Option Value → Pt → Prop} (hK : Back l R p e below s args y 3 W9 Pre Post)
    {g : JFrame} (hg : g.method = m) (hsize : g.locals.size = c.maxLocals) {argsL rest : List Value} (hlen : ∀ sig, parseMethodDescriptor y.desc = some sig → argsL.length = sig.parameters.length)
    (hstack : g.stack = argsL.reverse ++ rest) (hW : 2 * g.monitorRoom + (rest.map fun v => v.category).sum ≤ W9) (hdg : decode c.code g.pc = .ok (.invokestatic index, 3))
    (hpre : ∀ vm₁, s.WarmedH vm₁ → Pre ⟨T.setVm vm₁, locs, cells, slots⟩ argsL.toArray) :
    ∃ (v : Option Value) (vm₁ : Vm) (B : Pt), s.WarmedH vm₁ ∧ Stand p l e R s m args below meth c B.U B.locs B.cells B.slots ∧ Post ⟨T.setVm vm₁, locs, cells, slots⟩ argsL.toArray v B ∧
      ∀ target, Steps p.tables e below (B.U.setTop { g with pc := g.pc + 3, stack := v.toList ++ rest }) target → Steps p.tables e below (T.setTop g) target := by
  obtain ⟨mk, methM, cM, hnamed, hmethM, -, -, -, -, -, -, hsigM⟩ := Cond.codeWith_spec hcode
  have hstatic : methM.isStatic = true := Cond.static_spec hnamed hmethM hstat
  obtain ⟨kP, hkP, -⟩ := className_of_methodNamed hnamed
  have hinitP : kP.init = .initialized := Cond.initialized_spec (findClass_of_methodNamed hnamed) hkP hinit
  obtain ⟨vm₁, X₁, hstep₁⟩ := X.invokestatic hexec hown hlink hnamed hmethM hstatic hkP hinitP hy (g := g) hg (argsL := argsL) (rest := rest) (hlen _ hsigM) hstack hdg
  obtain ⟨v, B, X', hpost, hsteps⟩ := hK m meth c ⟨T.setVm vm₁, locs, cells, slots⟩ { g with stack := rest } (.invokestatic index) mk argsL.toArray X₁ hg hsize hdg hW (X₁.named hnamed) (hpre vm₁ X₁.warmed)
  exact ⟨v, vm₁, B, X₁.warmed, X', hpost, fun target h => hstep₁ _ fun acts => by rw [doInvoke_state]; exact hsteps.trans h⟩
theorem vx_runSW {y : MethodName} {bytes cc : ByteArray} {maxL nL mc ms n index : Nat} {ret : Option FieldType} {hh : List (Nat × Nat × Nat × Nat)} {ws : List Cond} {rm : Room} {Pc : Array Value → State → Prop} {Qc : Array Value → State → Outcome → State → Prop} {free : Addr → Prop} {Ts : List Cond} {own : String} {As rest : List Value} {g : JFrame}
    (S : CallFix p m c cc nL s args Ts own) (hM : Met l y ws rm Pc Qc mc ms free) (cw : vx_CSW R s args own index y bytes maxL ret hh ws rm mc ms n) (hp : PreS s H Pc As)
    (hg : g.method = m) (hn : As.length = n) (hsize : g.locals.size = nL) (hstack : g.stack = As.reverse ++ rest) (hW : 2 * g.monitorRoom + (rest.map fun v => v.category).sum ≤ 8) (hdg : decode cc g.pc = .ok (.invokestatic index, 3)) (hf : cells + mc ≤ R.cells ∧ slots + ms ≤ R.slots) :
    va_Run p l e R s m args below meth c H locs cells slots mc ms g rest (Qc As.toArray) (free) := by
  obtain ⟨⟨hrc, hrs, hfr, hlo, hws, hcw⟩, hcode, hini, hy, hlen, hl, hstt⟩ := cw
  have hK : Back l R p e below s args y 3 8 (PreOf R mc ms Pc) (PostOf Qc mc ms free) := va_backW (hh := hh) (bytes := bytes) (maxL := maxL) (ret := ret) hM hp.1 hrc hrs hfr hlo hws hcw (fun a' U hW => word_at hW (Or.inl (by first | rfl | simp [Cond.onTables, Cond.keeps, Cond.steady])) hini)
  obtain ⟨hx, hb, hml, ho, -⟩ := S
  intro T hT X
  obtain ⟨v, vm₁, ⟨U', l2, c2, s2⟩, hW₁, X', ⟨g', mk, t, L, e1, e2, hq, h1, hL, h2, h3⟩, st⟩ := vx_callSW X hx (hh := hh) (bytes := bytes) (maxL := maxL) (ret := ret) ho hl hstt hini hcode hy hK hg (hsize.trans hml.symm) (argsL := As) (rest := rest) (fun sig h => hn.trans (hlen sig h)) hstack hW (by rw [hb]; exact hdg)
    (fun vm₁ hW₁ => ⟨hf.1, hf.2, hp.2 (T.setVm vm₁) hT hW₁⟩)
  dsimp only [Pt.U, Pt.locs, Pt.cells, Pt.slots] at X' e1 e2 h1 h2 h3 st
  subst h1; subst h2; subst h3
  exact ⟨v, (T.setVm vm₁).calling g' mk As.toArray, t, U', L, hT, X', hL, e1, e2, hq, st⟩
/-- not caught here, past rows that name other classes: it goes on to the caller -/
theorem vx_outP {p : Program} {l : Launch} {e : Env} {R : Room} {s : State} {m : MethodId} {args : Array Value} {below : List Frame} {meth : Method} {c : Code} {H : Heap} {locs : List Loc} {cells slots : Nat} {free : Addr → Prop} {ls : Array Slot} {rest : List Value} {Qc : Array Value → State → Outcome → State → Prop} {XC : String → State → State → Prop}
    {pc : Nat} {own E : String} {ce : Cell} {q : Addr} {mc ms : Nat} (hown : s.vm.findClass own = some m.cls) (hlocks : meth.locks = false)
    (hpass : ∀ z ∈ c.exceptionTable.toList, covers z pc = false ∨ (z.catchType ≠ 0 ∧ ∃ nm : String, (Cond.classLink own z.catchType nm).before args s = true ∧ va_Nc E nm s)) (hcell : H[q]? = some ce) (hv : ce.vm = .none) (hcl : s.vm.findClass E = some ce.cls)
    (hx : ∀ t : State, t.heap = H → s.vm.Alike t.vm → XC E s t) (hf : ∀ z ∈ locs, free z.base) (hc : cells ≤ mc) (hs : slots ≤ ms) :
    vx_W p l e R s m args below meth c H locs cells slots (vx_MQ below Qc XC args s mc ms free) (F0 m pc ls rest) q := by
  intro T hT X
  have hpl : e.platform.magicAccessors = ({} : Platform).magicAccessors := by rw [X.admits.platform]
  obtain ⟨vm', hW', X', st⟩ := X.outThrough hlocks q (g := F0 m pc ls rest) rfl rfl rfl (cell := ce) (by rw [hT]; exact hcell) (by rw [hv]; rfl)
    (by obtain ⟨k9, h9, -⟩ := Vm.findClass_spec hcl; exact ⟨k9, h9⟩) (fun z hz => by
      rcases hpass z hz with h | ⟨hz0, nm, hl1, hn1⟩
      · exact Or.inl h
      · obtain ⟨c6, hc6, hcl6⟩ := Cond.classLink_spec hown hl1 e.platform hpl
        obtain ⟨a8, b8, h1, h2, h3⟩ := hn1
        cases Option.some.inj (h1.symm.trans hcl)
        cases Option.some.inj (h2.symm.trans hc6)
        exact Or.inr ⟨hz0, _, hcl6, h3⟩)
  obtain ⟨g₀, hfr⟩ := X'.frames_eq
  have hcell9 : ((T.setVm vm').setFrames (.throwing q :: below)).heap[q]? = some ce := by
    show T.heap[q]? = some ce
    rw [hT]; exact hcell
  have hend : Ended ((T.setVm vm').setFrames (.throwing q :: below)) below (.threw q) := State.frames_setFrames _ (State.cur_lt_of_frames hfr)
  refine ⟨(T.setVm vm').setFrames (.throwing q :: below), ?_, .threw q, X'.here.running, hend, Or.inr ⟨q, rfl, E, ce, locs, hx _ hT (X'.ends _).1.alike, hcell9, hv, hcl, (X'.ends _).1, (X'.ends _).2.mono hc hs, hf⟩⟩
  rw [X.pushThrowing_eq]
  exact st
/-- a thing of a world lies in the heap -/
theorem vx_lt {D : va_G} {cl : List vw_C} {ws : va_W} {H1 : Heap} (h : va_P D cl ws H1) {k : Nat} {q : Nat × va_E} (hk : ws[k]? = some q) : q.1 < H1.size := (h k q hk).lt
end VXS
/-! ===== END ===== -/
/-! ===== BEGIN methods with a table of their own: called by a name, returning or throwing ===== -/
section VXH
/-! vx_backW, vx_callVX, vx_callSX, vx_callVW, vx_runVW, vx_runVX, vx_runSX, vx_ofWH follow the same proofs as their sisters above (Free/Laws.lean, Shelf42/LK1.lean); vx_outP calls Shelf42/NT130.lean (outThrough). -/
section
variable {l : Launch} {R : Room} {p : Program} {e : Env} {below : List Frame} {s : State} {sargs : Array Value} {y : MethodName} {len W9 : Nat}
theorem vx_backW {ws : List Cond} {rm : Room} {Pc : Array Value → State → Prop} {Qc : Array Value → State → Outcome → State → Prop} {XC : String → State → State → Prop} {mc ms : Nat} {free : Addr → Prop} {bytes : ByteArray} {maxL : Nat} {ret : Option FieldType} {hh : List (Nat × Nat × Nat × Nat)}
    (hM : vx_Met l y ws rm Pc Qc XC mc ms free) (hblind : FrameBlind Pc) (hrc : rm.cells = mc) (hrs : rm.slots = ms)
    (hframes : rm.frames + 1 ≤ R.frames) (hlocals : W9 + (maxL + 11) + rm.locals ≤ R.locals)
    (hws : ∀ w ∈ ws, ∀ a' U, s.WarmedH U.vm → w.before a' U = true) (hcode : Cond.codeWith y bytes maxL ret hh ∈ ws) (hinit : ∀ a' U, s.WarmedH U.vm → (Cond.initialized y.cls).before a' U = true) :
    vx_Back l R p e below s sargs y len W9 (PreOf R mc ms Pc) (PostOf Qc mc ms free) (vx_Post XC mc ms free) := by
  intro m meth c A g ig mk a X hg hsize hdg hW hn hp
  have h1 : (headSpec ws rm).pre.before a A.U = true := atoms_intro fun w hw => hws w hw _ _ X.warmed
  have h2 : (Cond.codeWith y bytes maxL ret hh).before a A.U = true := hws _ hcode _ _ X.warmed
  have h3 : (Cond.initialized y.cls).before a A.U = true := hinit _ _ X.warmed
  have h4 : A.cells + (headSpec ws rm).room.cells ≤ R.cells := by rw [show (headSpec ws rm).room.cells = mc from hrc]; exact hp.1
  have h5 : A.slots + (headSpec ws rm).room.slots ≤ R.slots := by rw [show (headSpec ws rm).room.slots = ms from hrs]; exact hp.2.1
  have hPc : Pc a (A.U.calling g mk a) := hblind _ _ _ _ hp.2.2
  obtain ⟨U, Ls, c0, s0⟩ := A
  dsimp only [Pt.U, Pt.locs, Pt.cells, Pt.slots] at h1 h2 h3 h4 h5 X hn hPc ⊢
  obtain ⟨m9, methY, cY, hn9, hmY, hcY, -, hlY, -⟩ := Cond.codeWith_spec h2
  cases Option.some.inj (hn9.symm.trans hn)
  obtain ⟨kY, hkY, -⟩ := className_of_methodNamed hn
  have hinitY : kY.init = .initialized := Cond.initialized_spec (findClass_of_methodNamed hn) hkY h3
  have h : At U g.method c below := by rw [hg]; exact X.here
  have hlocals9 : W9 + (maxL + 11) + (headSpec ws rm).room.locals ≤ R.locals := hlocals
  have happ : (headSpec ws rm).appliesLoose y e.platform (U.calling g mk a) = true :=
    Spec.appliesLoose_calling (g := g) h hdg hn hkY hinitY
      (X.room_calling (g := g) (R' := (headSpec ws rm).room) hsize hmY hcY hframes (by rw [hlY]; omega) h4 h5) h1
  obtain ⟨mid, hmid⟩ := h.above
  have hfr : (U.setTop g).frames = (.java g :: mid) ++ below := by rw [State.frames_setTop' g h.top, hmid]; rfl
  obtain ⟨o, s₂, hsteps, -, hend, hq⟩ := Steps.callFree hM p X.admits X.cas X.clock (acts := []) hfr happ hPc trivial
  have hq' : vx_Q Qc XC mc ms free a (U.calling g mk a) o s₂ := hq
  rw [State.frames_setTop' g h.top] at hend
  obtain ⟨g₀, hg0⟩ := Option.isSome_iff_exists.mp h.top
  obtain ⟨r, hr⟩ := State.topJava?_eq_some.mp hg0
  have hr' : (({ U with heap := s₂.heap, slotsUsed := s₂.slotsUsed } : State).setVm s₂.vm).frames = .java g₀ :: r := hr
  rcases hq' with ⟨hqc, L, hfe, hL⟩ | ⟨q, rfl, E, ce, L, hx, hce, hcv, hcl, hW₂, hsm, hL⟩
  · obtain ⟨⟨v, rfl⟩, hW₂, e2, q2, q3, q4, q5, q6⟩ := id hfe
    have e3 : s₂ = ({ (U.calling g mk a).setFrames s₂.frames with heap := s₂.heap, slotsUsed := s₂.slotsUsed } : State).setVm s₂.vm := by
      have : s₂ = ({ s₂ with vm := (U.calling g mk a).vm } : State).setVm s₂.vm := rfl
      rw [e2] at this
      exact this
    obtain ⟨c₂, i₂, len₂, hc₂, hd₂, hf₂⟩ := hend
    have hW' : U.WarmedH s₂.vm := hW₂
    have hcc : c₂ = c := by
      have h1 : s₂.code? g.method = U.code? g.method := by
        rw [State.code?_eq, State.code?_eq, hW'.alike.method?]
      exact Option.some.inj (hc₂.symm.trans (h1.trans h.code))
    subst hcc
    have hlen : len₂ = len := by rw [hdg] at hd₂; cases hd₂; rfl
    subst hlen
    have hs₂ : s₂ = (({ U with heap := s₂.heap, slotsUsed := s₂.slotsUsed } : State).setVm s₂.vm).setTop { g with pc := g.pc + len₂, stack := v.toList ++ g.stack } := by
      refine e3.trans ?_
      rw [hf₂, State.calling_eq h.top, State.setFrames_setFrames, State.setTop_of_frames _ hr', hr]
      rfl
    have hsame : U.sameButNew ({ U with heap := s₂.heap, slotsUsed := s₂.slotsUsed } : State) L mc ms := by
      refine ⟨?_, q2, q3, q4, q5, q6⟩
      obtain ⟨t, ht, -⟩ := State.frames_cons hr
      show ({ U with heap := s₂.heap, slotsUsed := s₂.slotsUsed } : State) = { U.setFrames U.frames with heap := s₂.heap, slotsUsed := s₂.slotsUsed }
      rw [State.setFrames_self ht]
    subst hg
    refine Or.inl ⟨v, ⟨(({ U with heap := s₂.heap, slotsUsed := s₂.slotsUsed } : State).setVm s₂.vm), Ls ++ L, c0 + mc, s0 + ms⟩,
      ⟨X.admits, X.cas, X.clock, X.frames, X.room, X.hears, X.method, X.code, (X.here.setHeapUsed s₂.heap s₂.slotsUsed).setVm hW'.alike, X.tail, State.WarmedH.trans X.warmed hW', X.limits, X.bytes, X.same.trans (hsame.setVm s.vm)⟩,
      ⟨g, mk, s₂, L, rfl, rfl, hqc, rfl, hL, rfl, rfl⟩, ?_⟩
    show Steps p.tables e below _ ((({ U with heap := s₂.heap, slotsUsed := s₂.slotsUsed } : State).setVm s₂.vm).setTop { g with pc := g.pc + len₂, stack := v.toList ++ g.stack })
    rw [← hs₂]
    exact hsteps
  · obtain ⟨e2, q2, q3, q4, q5, q6⟩ := id hsm
    have e3 : s₂ = ({ (U.calling g mk a).setFrames s₂.frames with heap := s₂.heap, slotsUsed := s₂.slotsUsed } : State).setVm s₂.vm := by
      have : s₂ = ({ s₂ with vm := (U.calling g mk a).vm } : State).setVm s₂.vm := rfl
      rw [e2] at this
      exact this
    have hf₂ : s₂.frames = .throwing q :: .java g :: U.frames.tail := hend
    have hW' : U.WarmedH s₂.vm := hW₂
    have hs₂ : s₂ = ((({ U with heap := s₂.heap, slotsUsed := s₂.slotsUsed } : State).setVm s₂.vm).setTop g).pushFrame (.throwing q) := by
      refine e3.trans ?_
      rw [hf₂, State.calling_eq h.top, State.setFrames_setFrames, State.pushFrame, State.frames_setTop _ hr', State.setTop_of_frames _ hr', State.setFrames_setFrames, hr]
      rfl
    have hsame : U.sameButNew ({ U with heap := s₂.heap, slotsUsed := s₂.slotsUsed } : State) L mc ms := by
      refine ⟨?_, q2, q3, q4, q5, q6⟩
      obtain ⟨t, ht, -⟩ := State.frames_cons hr
      show ({ U with heap := s₂.heap, slotsUsed := s₂.slotsUsed } : State) = { U.setFrames U.frames with heap := s₂.heap, slotsUsed := s₂.slotsUsed }
      rw [State.setFrames_self ht]
    subst hg
    refine Or.inr ⟨q, ⟨(({ U with heap := s₂.heap, slotsUsed := s₂.slotsUsed } : State).setVm s₂.vm), Ls ++ L, c0 + mc, s0 + ms⟩,
      ⟨X.admits, X.cas, X.clock, X.frames, X.room, X.hears, X.method, X.code, (X.here.setHeapUsed s₂.heap s₂.slotsUsed).setVm hW'.alike, X.tail, State.WarmedH.trans X.warmed hW', X.limits, X.bytes, X.same.trans (hsame.setVm s.vm)⟩,
      ⟨g, mk, s₂, L, E, ce, rfl, rfl, hx, hce, hcv, hcl, rfl, hL, rfl, rfl⟩, ?_⟩
    show Steps p.tables e below _ (((({ U with heap := s₂.heap, slotsUsed := s₂.slotsUsed } : State).setVm s₂.vm).setTop g).pushFrame (.throwing q))
    rw [← hs₂]
    exact hsteps
end
variable {p : Program} {l : Launch} {e : Env} {R : Room} {s : State} {m : MethodId} {args : Array Value} {below : List Frame} {meth : Method} {c : Code} {T : State} {H : Heap} {locs : List Loc} {cells slots : Nat}
theorem vx_callVX (X : Stand p l e R s m args below meth c T locs cells slots) (hexec : p.tables.exec = Jvm.exec) {own C : String} {index : Nat} {y : MethodName} {bytes : ByteArray} {maxL : Nat} {ret : Option FieldType} {hh : List (Nat × Nat × Nat × Nat)}
    (hown : s.vm.findClass own = some m.cls) (hlink : (Cond.methodLink own index y).before args s = true) (hinst : (Cond.instanceMethod y).before args s = true) (hsel : (Cond.selects C y y).before args s = true)
    (hcode : (Cond.codeWith y bytes maxL ret hh).before args s = true) (hy : y.cls ≠ "java/lang/invoke/MethodHandle" ∧ y.cls ≠ "java/lang/invoke/VarHandle")
    {W9 : Nat} {Pre : Pt → Array Value → Prop} {Post : Pt → Array Value → Option Value → Pt → Prop} {PostX : Pt → Array Value → Addr → Pt → Prop} (hK : vx_Back l R p e below s args y 3 W9 Pre Post PostX)
    {b : Addr} {cellB : Cell} (hcell : T.heap[b]? = some cellB) (hobj : cellB.vm.isStatics = false) (hcls : s.vm.findClass C = some cellB.cls)
    {g : JFrame} (hg : g.method = m) (hsize : g.locals.size = c.maxLocals) {argsL rest : List Value} (hlen : ∀ sig, parseMethodDescriptor y.desc = some sig → argsL.length = sig.parameters.length)
    (hstack : g.stack = argsL.reverse ++ .ref b :: rest) (hW : 2 * g.monitorRoom + (rest.map fun v => v.category).sum ≤ W9) (hdg : decode c.code g.pc = .ok (.invokevirtual index, 3))
    (hpre : ∀ vm₁, s.WarmedH vm₁ → Pre ⟨T.setVm vm₁, locs, cells, slots⟩ (Value.ref b :: argsL).toArray) :
    (∃ (v : Option Value) (vm₁ : Vm) (B : Pt), s.WarmedH vm₁ ∧ Stand p l e R s m args below meth c B.U B.locs B.cells B.slots ∧ Post ⟨T.setVm vm₁, locs, cells, slots⟩ (Value.ref b :: argsL).toArray v B ∧
      ∀ target, Steps p.tables e below (B.U.setTop { g with pc := g.pc + 3, stack := v.toList ++ rest }) target → Steps p.tables e below (T.setTop g) target) ∨
    (∃ (q : Addr) (vm₁ : Vm) (B : Pt), s.WarmedH vm₁ ∧ Stand p l e R s m args below meth c B.U B.locs B.cells B.slots ∧ PostX ⟨T.setVm vm₁, locs, cells, slots⟩ (Value.ref b :: argsL).toArray q B ∧
      Steps p.tables e below (T.setTop g) ((B.U.setTop { g with stack := rest }).pushFrame (.throwing q))) := by
  obtain ⟨mk, methM, hnamed, hmethM, hstM, habM⟩ := Cond.instanceMethod_spec hinst
  obtain ⟨m8, methM', cM, hn8, hmethM', -, -, -, -, -, -, hsigM⟩ := Cond.codeWith_spec hcode
  cases Option.some.inj (hn8.symm.trans hnamed)
  cases hmethM.symm.trans hmethM'
  obtain ⟨c2, r2, m2, q1, q2, q3, q4, kP, hkP, hkPi⟩ := Cond.selects_spec hsel
  cases hcls.symm.trans q1
  cases (State.methodFound?_of_named hnamed hy).symm.trans q2
  cases hnamed.symm.trans q3
  have hselP : selectMethod e.platform s.vm cellB.cls mk = .method mk := by rw [Launch.admits_selectMethod X.admits]; exact q4
  obtain ⟨vm₁, X₁, hstep₁⟩ := X.invokevirtual hexec hown hlink hnamed hmethM hstM hkP hkPi hy (a := b) (cell := cellB) hcell
    (fun z h => by rw [h] at hobj; cases hobj) hselP hmethM habM hkP hkPi (g := g) hg (argsL := argsL) (rest := rest) (hlen _ hsigM) hstack hdg
  rcases hK m meth c ⟨T.setVm vm₁, locs, cells, slots⟩ { g with stack := rest } (.invokevirtual index) mk (Value.ref b :: argsL).toArray X₁ hg hsize hdg hW (X₁.named hnamed) (hpre vm₁ X₁.warmed) with ⟨v, B, X', hpost, hsteps⟩ | ⟨q, B, X', hpost, hsteps⟩
  · exact Or.inl ⟨v, vm₁, B, X₁.warmed, X', hpost, fun target h => hstep₁ _ fun acts => by rw [doInvoke_state]; exact hsteps.trans h⟩
  · exact Or.inr ⟨q, vm₁, B, X₁.warmed, X', hpost, hstep₁ _ fun acts => by rw [doInvoke_state]; exact hsteps⟩
theorem vx_callSX (X : Stand p l e R s m args below meth c T locs cells slots) (hexec : p.tables.exec = Jvm.exec) {own : String} {index : Nat} {y : MethodName} {bytes : ByteArray} {maxL : Nat} {ret : Option FieldType} {hh : List (Nat × Nat × Nat × Nat)}
    (hown : s.vm.findClass own = some m.cls) (hlink : (Cond.methodLink own index y).before args s = true) (hstat : (Cond.static y).before args s = true) (hinit : (Cond.initialized y.cls).before args s = true)
    (hcode : (Cond.codeWith y bytes maxL ret hh).before args s = true) (hy : y.cls ≠ "java/lang/invoke/MethodHandle" ∧ y.cls ≠ "java/lang/invoke/VarHandle")
    {W9 : Nat} {Pre : Pt → Array Value → Prop} {Post : Pt → Array Value → Option Value → Pt → Prop} {PostX : Pt → Array Value → Addr → Pt → Prop} (hK : vx_Back l R p e below s args y 3 W9 Pre Post PostX)
    {g : JFrame} (hg : g.method = m) (hsize : g.locals.size = c.maxLocals) {argsL rest : List Value} (hlen : ∀ sig, parseMethodDescriptor y.desc = some sig → argsL.length = sig.parameters.length)
    (hstack : g.stack = argsL.reverse ++ rest) (hW : 2 * g.monitorRoom + (rest.map fun v => v.category).sum ≤ W9) (hdg : decode c.code g.pc = .ok (.invokestatic index, 3))
    (hpre : ∀ vm₁, s.WarmedH vm₁ → Pre ⟨T.setVm vm₁, locs, cells, slots⟩ argsL.toArray) :
    (∃ (v : Option Value) (vm₁ : Vm) (B : Pt), s.WarmedH vm₁ ∧ Stand p l e R s m args below meth c B.U B.locs B.cells B.slots ∧ Post ⟨T.setVm vm₁, locs, cells, slots⟩ argsL.toArray v B ∧
      ∀ target, Steps p.tables e below (B.U.setTop { g with pc := g.pc + 3, stack := v.toList ++ rest }) target → Steps p.tables e below (T.setTop g) target) ∨
    (∃ (q : Addr) (vm₁ : Vm) (B : Pt), s.WarmedH vm₁ ∧ Stand p l e R s m args below meth c B.U B.locs B.cells B.slots ∧ PostX ⟨T.setVm vm₁, locs, cells, slots⟩ argsL.toArray q B ∧
      Steps p.tables e below (T.setTop g) ((B.U.setTop { g with stack := rest }).pushFrame (.throwing q))) := by
  obtain ⟨mk, methM, cM, hnamed, hmethM, -, -, -, -, -, -, hsigM⟩ := Cond.codeWith_spec hcode
  have hstatic : methM.isStatic = true := Cond.static_spec hnamed hmethM hstat
  obtain ⟨kP, hkP, -⟩ := className_of_methodNamed hnamed
  have hinitP : kP.init = .initialized := Cond.initialized_spec (findClass_of_methodNamed hnamed) hkP hinit
  obtain ⟨vm₁, X₁, hstep₁⟩ := X.invokestatic hexec hown hlink hnamed hmethM hstatic hkP hinitP hy (g := g) hg (argsL := argsL) (rest := rest) (hlen _ hsigM) hstack hdg
  rcases hK m meth c ⟨T.setVm vm₁, locs, cells, slots⟩ { g with stack := rest } (.invokestatic index) mk argsL.toArray X₁ hg hsize hdg hW (X₁.named hnamed) (hpre vm₁ X₁.warmed) with ⟨v, B, X', hpost, hsteps⟩ | ⟨q, B, X', hpost, hsteps⟩
  · exact Or.inl ⟨v, vm₁, B, X₁.warmed, X', hpost, fun target h => hstep₁ _ fun acts => by rw [doInvoke_state]; exact hsteps.trans h⟩
  · exact Or.inr ⟨q, vm₁, B, X₁.warmed, X', hpost, hstep₁ _ fun acts => by rw [doInvoke_state]; exact hsteps⟩
theorem vx_callVW (X : Stand p l e R s m args below meth c T locs cells slots) (hexec : p.tables.exec = Jvm.exec) {own C : String} {index : Nat} {y : MethodName} {bytes : ByteArray} {maxL : Nat} {ret : Option FieldType} {hh : List (Nat × Nat × Nat × Nat)}
    (hown : s.vm.findClass own = some m.cls) (hlink : (Cond.methodLink own index y).before args s = true) (hinst : (Cond.instanceMethod y).before args s = true) (hsel : (Cond.selects C y y).before args s = true)
    (hcode : (Cond.codeWith y bytes maxL ret hh).before args s = true) (hy : y.cls ≠ "java/lang/invoke/MethodHandle" ∧ y.cls ≠ "java/lang/invoke/VarHandle")
    {W9 : Nat} {Pre : Pt → Array Value → Prop} {Post : Pt → Array Value → Option Value → Pt → Prop} (hK : Back l R p e below s args y 3 W9 Pre Post)
    {b : Addr} {cellB : Cell} (hcell : T.heap[b]? = some cellB) (hobj : cellB.vm.isStatics = false) (hcls : s.vm.findClass C = some cellB.cls)
    {g : JFrame} (hg : g.method = m) (hsize : g.locals.size = c.maxLocals) {argsL rest : List Value} (hlen : ∀ sig, parseMethodDescriptor y.desc = some sig → argsL.length = sig.parameters.length)
    (hstack : g.stack = argsL.reverse ++ .ref b :: rest) (hW : 2 * g.monitorRoom + (rest.map fun v => v.category).sum ≤ W9) (hdg : decode c.code g.pc = .ok (.invokevirtual index, 3))
    (hpre : ∀ vm₁, s.WarmedH vm₁ → Pre ⟨T.setVm vm₁, locs, cells, slots⟩ (Value.ref b :: argsL).toArray) :
    ∃ (v : Option Value) (vm₁ : Vm) (B : Pt), s.WarmedH vm₁ ∧ Stand p l e R s m args below meth c B.U B.locs B.cells B.slots ∧ Post ⟨T.setVm vm₁, locs, cells, slots⟩ (Value.ref b :: argsL).toArray v B ∧
      ∀ target, Steps p.tables e below (B.U.setTop { g with pc := g.pc + 3, stack := v.toList ++ rest }) target → Steps p.tables e below (T.setTop g) target := by
  obtain ⟨mk, methM, hnamed, hmethM, hstM, habM⟩ := Cond.instanceMethod_spec hinst
  obtain ⟨m8, methM', cM, hn8, hmethM', -, -, -, -, -, -, hsigM⟩ := Cond.codeWith_spec hcode
  cases Option.some.inj (hn8.symm.trans hnamed)
  cases hmethM.symm.trans hmethM'
  obtain ⟨c2, r2, m2, q1, q2, q3, q4, kP, hkP, hkPi⟩ := Cond.selects_spec hsel
  cases hcls.symm.trans q1
  cases (State.methodFound?_of_named hnamed hy).symm.trans q2
  cases hnamed.symm.trans q3
  have hselP : selectMethod e.platform s.vm cellB.cls mk = .method mk := by rw [Launch.admits_selectMethod X.admits]; exact q4
  obtain ⟨vm₁, X₁, hstep₁⟩ := X.invokevirtual hexec hown hlink hnamed hmethM hstM hkP hkPi hy (a := b) (cell := cellB) hcell
    (fun z h => by rw [h] at hobj; cases hobj) hselP hmethM habM hkP hkPi (g := g) hg (argsL := argsL) (rest := rest) (hlen _ hsigM) hstack hdg
  obtain ⟨v, B, X', hpost, hsteps⟩ := hK m meth c ⟨T.setVm vm₁, locs, cells, slots⟩ { g with stack := rest } (.invokevirtual index) mk (Value.ref b :: argsL).toArray X₁ hg hsize hdg hW (X₁.named hnamed) (hpre vm₁ X₁.warmed)
  exact ⟨v, vm₁, B, X₁.warmed, X', hpost, fun target h => hstep₁ _ fun acts => by rw [doInvoke_state]; exact hsteps.trans h⟩
abbrev vx_CVW (R : Room) (s : State) (args : Array Value) (own C : String) (index : Nat) (y : MethodName) (bytes : ByteArray) (maxL : Nat) (ret : Option FieldType) (hh : List (Nat × Nat × Nat × Nat)) (ws : List Cond) (rm : Room) (mc ms n : Nat) : Prop :=
  (rm.cells = mc ∧ rm.slots = ms ∧ rm.frames + 1 ≤ R.frames ∧ 8 + (maxL + 11) + rm.locals ≤ R.locals ∧ (∀ w ∈ ws, ∀ (a' : Array Value) (U : State), s.WarmedH U.vm → w.before a' U = true) ∧ Cond.codeWith y bytes maxL ret hh ∈ ws) ∧
  (Cond.codeWith y bytes maxL ret hh).before args s = true ∧ (Cond.initialized y.cls).before args s = true ∧ (y.cls ≠ "java/lang/invoke/MethodHandle" ∧ y.cls ≠ "java/lang/invoke/VarHandle") ∧
  (∀ sig, parseMethodDescriptor y.desc = some sig → n = sig.parameters.length) ∧ (Cond.methodLink own index y).before args s = true ∧ (Cond.instanceMethod y).before args s = true ∧ (Cond.selects C y y).before args s = true
theorem vx_cwVW {own C : String} {index maxL mc ms : Nat} {y : MethodName} {bytes : ByteArray} {ret : Option FieldType} {hh : List (Nat × Nat × Nat × Nat)} {Ts ws ws' : List Cond} {rm : Room} (n : Nat) (ht : ∀ w ∈ Ts, w.before args s = true) (hT : GoodIn Ts (wsV own index C y ws)) (hw : ws = Cond.codeWith y bytes maxL ret hh :: ws') (hrc : rm.cells = mc) (hrs : rm.slots = ms)
    (hd : y.cls = C ∧ y.cls ≠ "java/lang/invoke/MethodHandle" ∧ y.cls ≠ "java/lang/invoke/VarHandle" ∧ (parseMethodDescriptor y.desc).map (fun d => d.parameters.length) = some n) (hR : rm.frames + 1 ≤ R.frames ∧ 8 + (maxL + 11) + rm.locals ≤ R.locals) :
    vx_CVW R s args own C index y bytes maxL ret hh ws rm mc ms n := by
  obtain ⟨hC, hd⟩ := hd
  subst hC
  have ok : ∀ w ∈ wsV own index y.cls y ws, w.before args s = true := fun w h => ht w (hT w h).1
  have hG : GoodIn Ts ws := fun w h => hT w (by unfold wsV; exact List.mem_append_right _ h)
  have hc : Cond.codeWith y bytes maxL ret hh ∈ ws := by rw [hw]; exact List.mem_cons_self
  refine ⟨⟨hrc, hrs, hR.1, hR.2, pay_in ht hG, hc⟩, ht _ (hG _ hc).1, ok _ (by simp [wsV]), ⟨hd.1, hd.2.1⟩, fun sig h => ?_, ok _ (by simp [wsV]), ok _ (by simp [wsV]), ok _ (by simp [wsV])⟩
  have h2 := hd.2.2
  rw [h] at h2
  exact (Option.some.inj h2).symm
theorem vx_runVW {y : MethodName} {bytes cc : ByteArray} {maxL nL mc ms n index : Nat} {ret : Option FieldType} {hh : List (Nat × Nat × Nat × Nat)} {ws : List Cond} {rm : Room} {Pc : Array Value → State → Prop} {Qc : Array Value → State → Outcome → State → Prop} {free : Addr → Prop} {Ts : List Cond} {own C : String} {b : Addr} {As rest : List Value} {g : JFrame}
    (S : CallFix p m c cc nL s args Ts own) (hM : Met l y ws rm Pc Qc mc ms free) (cw : vx_CVW R s args own C index y bytes maxL ret hh ws rm mc ms n) (hp : PreV s H C b Pc As)
    (hg : g.method = m) (hn : As.length = n) (hsize : g.locals.size = nL) (hstack : g.stack = As.reverse ++ .ref b :: rest) (hW : 2 * g.monitorRoom + (rest.map fun v => v.category).sum ≤ 8) (hdg : decode cc g.pc = .ok (.invokevirtual index, 3)) (hf : cells + mc ≤ R.cells ∧ slots + ms ≤ R.slots) :
    va_Run p l e R s m args below meth c H locs cells slots mc ms g rest (Qc (Value.ref b :: As).toArray) free := by
  obtain ⟨⟨hrc, hrs, hfr, hlo, hws, hcw⟩, hcode, hini, hy, hlen, hl, hin, hse⟩ := cw
  have hK : Back l R p e below s args y 3 8 (PreOf R mc ms Pc) (PostOf Qc mc ms free) := va_backW (hh := hh) (bytes := bytes) (maxL := maxL) (ret := ret) hM hp.1 hrc hrs hfr hlo hws hcw (fun a' U hW => word_at hW (Or.inl (by first | rfl | simp [Cond.onTables, Cond.keeps, Cond.steady])) hini)
  obtain ⟨hx, hb, hml, ho, -⟩ := S
  obtain ⟨-, ⟨cellB, hcB, hoB, hclB⟩, hPc⟩ := hp
  intro T hT X
  obtain ⟨v, vm₁, ⟨U', l2, c2, s2⟩, hW₁, X', ⟨g', mk, t, L, e1, e2, hq, h1, hL, h2, h3⟩, st⟩ := vx_callVW X hx (C := C) (hh := hh) (bytes := bytes) (maxL := maxL) (ret := ret) ho hl hin hse hcode hy hK (by rw [hT]; exact hcB) hoB hclB hg (hsize.trans hml.symm) (argsL := As) (rest := rest) (fun sig h => hn.trans (hlen sig h)) hstack hW (by rw [hb]; exact hdg)
    (fun vm₁ hW₁ => ⟨hf.1, hf.2, hPc (T.setVm vm₁) hT hW₁⟩)
  dsimp only [Pt.U, Pt.locs, Pt.cells, Pt.slots] at X' e1 e2 h1 h2 h3 st
  subst h1; subst h2; subst h3
  exact ⟨v, (T.setVm vm₁).calling g' mk (Value.ref b :: As).toArray, t, U', L, hT, X', hL, e1, e2, hq, st⟩
section
variable {y : MethodName} {bytes cc : ByteArray} {maxL nL mc ms n index : Nat} {ret : Option FieldType} {ws : List Cond} {rm : Room} {Pc : Array Value → State → Prop} {Qc : Array Value → State → Outcome → State → Prop} {XC : String → State → State → Prop} {free : Addr → Prop} {Ts : List Cond} {own C : String} {b : Addr} {As rest : List Value} {g : JFrame}
theorem vx_runVX {hh : List (Nat × Nat × Nat × Nat)} (S : CallFix p m c cc nL s args Ts own) (hM : vx_Met l y ws rm Pc Qc XC mc ms free) (cw : vx_CVW R s args own C index y bytes maxL ret hh ws rm mc ms n) (hp : PreV s H C b Pc As)
    (hg : g.method = m) (hn : As.length = n) (hsize : g.locals.size = nL) (hstack : g.stack = As.reverse ++ .ref b :: rest) (hW : 2 * g.monitorRoom + (rest.map fun v => v.category).sum ≤ 8) (hdg : decode cc g.pc = .ok (.invokevirtual index, 3)) (hf : cells + mc ≤ R.cells ∧ slots + ms ≤ R.slots) :
    vx_Run p l e R s m args below meth c H locs cells slots mc ms g rest (Qc (Value.ref b :: As).toArray) XC free := by
  obtain ⟨⟨hrc, hrs, hfr, hlo, hws, hcw⟩, hcode, hini, hy, hlen, hl, hin, hse⟩ := cw
  have hK : vx_Back l R p e below s args y 3 8 (PreOf R mc ms Pc) (PostOf Qc mc ms free) (vx_Post XC mc ms free) := vx_backW (hh := hh) (bytes := bytes) (maxL := maxL) (ret := ret) hM hp.1 hrc hrs hfr hlo hws hcw (fun a' U hW => word_at hW (Or.inl (by first | rfl | simp [Cond.onTables, Cond.keeps, Cond.steady])) hini)
  obtain ⟨hx, hb, hml, ho, -⟩ := S
  obtain ⟨-, ⟨cellB, hcB, hoB, hclB⟩, hPc⟩ := hp
  intro T hT X
  rcases vx_callVX X hx (C := C) (hh := hh) (bytes := bytes) (maxL := maxL) (ret := ret) ho hl hin hse hcode hy hK (by rw [hT]; exact hcB) hoB hclB hg (hsize.trans hml.symm) (argsL := As) (rest := rest) (fun sig h => hn.trans (hlen sig h)) hstack hW (by rw [hb]; exact hdg)
    (fun vm₁ hW₁ => ⟨hf.1, hf.2, hPc (T.setVm vm₁) hT hW₁⟩) with ⟨v, vm₁, ⟨U', l2, c2, s2⟩, hW₁, X', ⟨g', mk, t, L, e1, e2, hq, h1, hL, h2, h3⟩, st⟩ | ⟨q, vm₁, ⟨U', l2, c2, s2⟩, hW₁, X', ⟨g', mk, t, L, E, ce, e1, e2, hq, hce, hcv, hcl, h1, hL, h2, h3⟩, st⟩
  · dsimp only [Pt.U, Pt.locs, Pt.cells, Pt.slots] at X' e1 e2 h1 h2 h3 st
    subst h1; subst h2; subst h3
    exact Or.inl ⟨v, (T.setVm vm₁).calling g' mk (Value.ref b :: As).toArray, t, U', L, hT, X', hL, e1, e2, hq, st⟩
  · dsimp only [Pt.U, Pt.locs, Pt.cells, Pt.slots] at X' e1 e2 h1 h2 h3 st hcl
    subst h1; subst h2; subst h3
    exact Or.inr ⟨q, (T.setVm vm₁).calling g' mk (Value.ref b :: As).toArray, t, U', L, E, ce, hT, X', hL, e1, e2, hq, hce, hcv, vx_cls hW₁ hcl, st⟩
theorem vx_runSX {hh : List (Nat × Nat × Nat × Nat)} (S : CallFix p m c cc nL s args Ts own) (hM : vx_Met l y ws rm Pc Qc XC mc ms free) (cw : vx_CSW R s args own index y bytes maxL ret hh ws rm mc ms n) (hp : PreS s H Pc As)
    (hg : g.method = m) (hn : As.length = n) (hsize : g.locals.size = nL) (hstack : g.stack = As.reverse ++ rest) (hW : 2 * g.monitorRoom + (rest.map fun v => v.category).sum ≤ 8) (hdg : decode cc g.pc = .ok (.invokestatic index, 3)) (hf : cells + mc ≤ R.cells ∧ slots + ms ≤ R.slots) :
    vx_Run p l e R s m args below meth c H locs cells slots mc ms g rest (Qc As.toArray) XC free := by
  obtain ⟨⟨hrc, hrs, hfr, hlo, hws, hcw⟩, hcode, hini, hy, hlen, hl, hstt⟩ := cw
  have hK : vx_Back l R p e below s args y 3 8 (PreOf R mc ms Pc) (PostOf Qc mc ms free) (vx_Post XC mc ms free) := vx_backW (hh := hh) (bytes := bytes) (maxL := maxL) (ret := ret) hM hp.1 hrc hrs hfr hlo hws hcw (fun a' U hW => word_at hW (Or.inl (by first | rfl | simp [Cond.onTables, Cond.keeps, Cond.steady])) hini)
  obtain ⟨hx, hb, hml, ho, -⟩ := S
  intro T hT X
  rcases vx_callSX X hx (hh := hh) (bytes := bytes) (maxL := maxL) (ret := ret) ho hl hstt hini hcode hy hK hg (hsize.trans hml.symm) (argsL := As) (rest := rest) (fun sig h => hn.trans (hlen sig h)) hstack hW (by rw [hb]; exact hdg)
    (fun vm₁ hW₁ => ⟨hf.1, hf.2, hp.2 (T.setVm vm₁) hT hW₁⟩) with ⟨v, vm₁, ⟨U', l2, c2, s2⟩, hW₁, X', ⟨g', mk, t, L, e1, e2, hq, h1, hL, h2, h3⟩, st⟩ | ⟨q, vm₁, ⟨U', l2, c2, s2⟩, hW₁, X', ⟨g', mk, t, L, E, ce, e1, e2, hq, hce, hcv, hcl, h1, hL, h2, h3⟩, st⟩
  · dsimp only [Pt.U, Pt.locs, Pt.cells, Pt.slots] at X' e1 e2 h1 h2 h3 st
    subst h1; subst h2; subst h3
    exact Or.inl ⟨v, (T.setVm vm₁).calling g' mk As.toArray, t, U', L, hT, X', hL, e1, e2, hq, st⟩
  · dsimp only [Pt.U, Pt.locs, Pt.cells, Pt.slots] at X' e1 e2 h1 h2 h3 st hcl
    subst h1; subst h2; subst h3
    exact Or.inr ⟨q, (T.setVm vm₁).calling g' mk As.toArray, t, U', L, E, ce, hT, X', hL, e1, e2, hq, hce, hcv, vx_cls hW₁ hcl, st⟩
end
end VXH
theorem vx_ofWH {l : Launch} {y : MethodName} {ws ws' : List Cond} {rm : Room} {Pc : Array Value → State → Prop} {Qc : Array Value → State → Outcome → State → Prop} {XC : String → State → State → Prop} {mc ms : Nat} {free : Addr → Prop} {cc : ByteArray} {maxL : Nat} {ret : Option FieldType} {hh : List (Nat × Nat × Nat × Nat)}
    (hy : plainName y.cls = true) (hw : ws = Cond.codeWith y cc maxL ret hh :: ws')
    (body : ∀ p e s m args below meth c s₁, BodyLoose p l y (headSpec ws rm) cc maxL ret e s m args below meth c s₁ → c.maxLocals = maxL → Pc args s →
      W p l e (headSpec ws rm).room s m args below meth c s.heap [] 0 0 (vx_MQ below Qc XC args s mc ms free) (entryFrame m args maxL)) : vx_Met l y ws rm Pc Qc XC mc ms free := by
  refine MetFree.of_bodyS (code := cc) (maxLocals := maxL) (ret := ret) hy ?_ ?_
  · intro args s m h hn
    obtain ⟨m9, meth, c, hn9, h1, h2, h3, h4, -, h5, h6, -⟩ := Cond.codeWith_spec (atoms_spec (ws := ws) h _ (by rw [hw]; exact List.mem_cons_self))
    cases hn.symm.trans hn9
    exact ⟨meth, c, h1, h2, h3, h4, h5, h6⟩
  · intro p e s m args below meth c s₁ B hml hP _
    have hh0 : s₁.heap = s.heap := by rw [B.state]; rfl
    obtain ⟨t, a1, o, b1, b2, b3⟩ := body p e s m args below meth c s₁ B hml hP s₁ hh0 (Stand.of_body B)
    exact ⟨t, o, a1, b1, b2, b3⟩
/-! ===== END ===== -/
end
section
/-- the exceptions, by numbers -/
def x_ex (k : Nat) : String := match k with
  | 0 => "java/lang/IndexOutOfBoundsException"
  | 1 => "java/lang/IllegalArgumentException"
  | 2 => "java/lang/IllegalStateException"
  | _ => "java/lang/UnsupportedOperationException"
def x_up : List String := ["java/lang/RuntimeException", "java/lang/Exception"]
/-- the texts of the exceptions: class, entry, text -/
def x_strs : List (String × Nat × String) := [("EventOrder", 56, "no room for a source"), ("EventOrder", 83, "no room for an event"), ("EventOrder", 94, "an event cannot be before itself"), ("EventOrder", 98, "no room for a need"), ("EventOrder", 155, "no such bag"), ("EventOrder", 158, "no such item that is no bag"), ("EventOrder", 182, "no such kind of question"), ("EventOrder", 184, "no such source"), ("EventOrder", 186, "no such event"), ("EventOrder", 190, "not settled without a ring"), ("EventOrder", 193, "no such item"), ("EventOrder", 195, "kind out of range"), ("EventOrder", 197, "place out of range"), ("EventOrder", 199, "only an item that is no bag goes into or out of a bag"), ("EventOrder", 205, "clock out of range")]
theorem x_up_fit : ∀ n ∈ x_up, Bundle.fit n = true := by decide +kernel
section XR
variable {p : Program} {l : Launch} {e : Env} {R : Room} {s : State} {m : MethodId} {args : Array Value} {below : List Frame} {meth : Method} {c : Code} {Q : State → Prop} {cells slots : Nat}
variable {D : va_G} {cl : List vw_C} {tys : List (ClassId × FieldType)} {A : Nat → Prop} {nL : Nat} {cc : ByteArray} {TB : List Cond} {own : String}
variable {ws ws' : va_W} {pc : Nat} {lv lv' : List (Nat × Value)} {st : List Value}

/-- what a throw needs of the machine's start: two statics of Throwable that nobody writes, the texts -/
def XEn (A : Nat → Prop) (U : State) (H : Heap) : Prop := vx_Zq Bundle.tN "UNASSIGNED_STACK" Bundle.steD A U H ∧ vx_Zq Bundle.tN "SUPPRESSED_SENTINEL" Bundle.listD A U H ∧ (∀ w ∈ TBX, w.before #[] U = true) ∧ ∀ q ∈ x_strs, ∃ a : Nat, vk_R q.1 q.2.1 q.2.2 a U
theorem XEn.kept {U : State} {H H1 : Heap} (h : XEn A U H) (hq : ∀ a : Nat, a < H.size → ¬ A a → H1[a]? = H[a]?) : XEn A U H1 := ⟨h.1.kept hq, h.2.1.kept hq, h.2.2⟩
theorem XEn.narrow {B : Nat → Prop} {U : State} {H : Heap} (h : XEn A U H) (hAB : ∀ q, B q → A q) : XEn B U H := ⟨h.1.narrow hAB, h.2.1.narrow hAB, h.2.2⟩
theorem XEn.moved {U : State} {H : Heap} (h : XEn A s H) (hW : s.WarmedH U.vm) : XEn A U H := ⟨vx_Zq.moved hW.alike h.1, vx_Zq.moved hW.alike h.2.1, fun w hw => TBX_at hw hW (h.2.2.1 w hw), fun q hq => by obtain ⟨a, ha⟩ := h.2.2.2 q hq; exact ⟨a, ha.warm hW⟩⟩
theorem XEn.same {U : State} {H : Heap} (h : XEn A s H) (hv : U.vm = s.vm) : XEn A U H := ⟨vx_Zq.moved (by rw [hv]; exact Vm.Alike.refl _) h.1, vx_Zq.moved (by rw [hv]; exact Vm.Alike.refl _) h.2.1, fun w hw => TBX_at hw (by rw [hv]; exact State.WarmedH.refl s) (h.2.2.1 w hw), fun q hq => by obtain ⟨a, ha⟩ := h.2.2.2 q hq; exact ⟨a, ha.same hv⟩⟩
/-- the abstract state: any heap that holds the world, any locals that hold the list -/
def XW (p : Program) (l : Launch) (e : Env) (R : Room) (s : State) (m : MethodId) (args : Array Value) (below : List Frame) (meth : Method) (c : Code) (D : va_G) (cl : List vw_C) (A : Nat → Prop) (nL : Nat) (Q : State → Prop) (cells slots : Nat) (ws : va_W) (pc : Nat) (lv : List (Nat × Value)) (st : List Value) : Prop :=
  ∀ (H : Heap) (locs : List Loc) (ls : Array Slot), va_P D cl ws H → va_D A ws → va_S A s.heap H locs → lv_has ls nL lv → W p l e R s m args below meth c H locs cells slots Q (F0 m pc ls st)
/-- what stays the same through a method's body -/
def XC (p : Program) (s : State) (m : MethodId) (args : Array Value) (c : Code) (D : va_G) (cl : List vw_C) (tys : List (ClassId × FieldType)) (A : Nat → Prop) (nL : Nat) (cc : ByteArray) (TB : List Cond) (own : String) : Prop :=
  CallFix p m c cc nL s args TB own ∧ va_K D cl tys s ∧ (∀ q : Nat, s.heap.size ≤ q → A q) ∧ GoodIn TB TB ∧ XEn A s s.heap
/-- the start of a contract, the world behind it, the world behind a throw -/
def XP (D : va_G) (cl : List vw_C) (tys : List (ClassId × FieldType)) (ws : va_W) (sz : Nat) (U : State) : Prop := U.heap.size = sz ∧ va_P D cl ws U.heap ∧ va_K D cl tys U ∧ va_D (fun _ => True) ws ∧ XEn (va_A ws sz) U U.heap
def XB (D : va_G) (cl : List vw_C) (tys : List (ClassId × FieldType)) (A : Nat → Prop) (ws : va_W) (t : State) : Prop := va_P D cl ws t.heap ∧ va_K D cl tys t ∧ va_D A ws
def XT (D : va_G) (cl : List vw_C) (tys : List (ClassId × FieldType)) (A : Nat → Prop) (ws : va_W) (Qt : Nat → Prop) : String → State → State → Prop := vx_X Qt (fun E k t => E = x_ex k ∧ XB D cl tys A ws t) A
def x_bool (v : Int32) : Prop := v = 0 ∨ v = 1
theorem x_bool_nar {v : Int32} (h : x_bool v) : narrow .boolean (.int v) = .int v := by rcases h with rfl | rfl <;> rfl
theorem x_bool_fit {v : Int32} (h : x_bool v) : fits .boolean (.int v) = true := by rcases h with rfl | rfl <;> rfl
theorem x_in_lt {i : Int32} {n : Nat} (h : vp_in i n) : i.toNatClampNeg < n := Nat.not_le.mp fun q => h (Or.inr q)
theorem XC.ts (hC : XC p s m args c D cl tys A nL cc TB own) {w : Cond} (h : w ∈ TB) : w.before args s = true := hC.1.2.2.2.2 w h
theorem XC.free (hC : XC p s m args c D cl tys A nL cc TB own) {H : Heap} {locs : List Loc} (hD : va_D A ws) (hS : va_S A s.heap H locs) : ∀ q, va_A ws H.size q → A q := by
  intro q h
  rcases h with ⟨k, e, h⟩ | h
  · exact hD.2 k (q, e) h
  · exact hC.2.2.1 q (Nat.le_trans hS.1 h)
theorem x_lv (ks : List Nat) (h : lv_pick lv ks = lv') (k : XW p l e R s m args below meth c D cl A nL Q cells slots ws pc lv'  st) : XW p l e R s m args below meth c D cl A nL Q cells slots ws pc lv st := fun H locs ls hP hD hS hl => k H locs ls hP hD hS (lv_sub hl ks h)
theorem x_lvr (h : ∀ q ∈ lv', q ∈ lv) (k : XW p l e R s m args below meth c D cl A nL Q cells slots ws pc lv'  st) : XW p l e R s m args below meth c D cl A nL Q cells slots ws pc lv st := fun H locs ls hP hD hS hl => k H locs ls hP hD hS ⟨hl.1, hl.2.1, fun q hq => hl.2.2 q (h q hq)⟩
theorem x_iconst (hC : XC p s m args c D cl tys A nL cc TB own) {n : Int} {v : Int32} (hd : decode cc pc = .ok (.iconst n, 1)) (hv : Int32.ofInt n = v) (k : XW p l e R s m args below meth c D cl A nL Q cells slots ws (pc + 1) lv (.int v :: st)) : XW p l e R s m args below meth c D cl A nL Q cells slots ws pc lv st := fun H locs ls hP hD hS hl => lv_iconst hC.1.1 hC.1.2.1 hd hv (k H locs ls hP hD hS hl)
theorem x_bipush (hC : XC p s m args c D cl tys A nL cc TB own) {n : Int} {v : Int32} (hd : decode cc pc = .ok (.bipush n, 2)) (hv : (Int8.ofInt n).toInt32 = v) (k : XW p l e R s m args below meth c D cl A nL Q cells slots ws (pc + 2) lv (.int v :: st)) : XW p l e R s m args below meth c D cl A nL Q cells slots ws pc lv st := fun H locs ls hP hD hS hl => lv_bipush hC.1.1 hC.1.2.1 hd hv (k H locs ls hP hD hS hl)
theorem x_sipush (hC : XC p s m args c D cl tys A nL cc TB own) {n : Int} {v : Int32} (hd : decode cc pc = .ok (.sipush n, 3)) (hv : (Int16.ofInt n).toInt32 = v) (k : XW p l e R s m args below meth c D cl A nL Q cells slots ws (pc + 3) lv (.int v :: st)) : XW p l e R s m args below meth c D cl A nL Q cells slots ws pc lv st := fun H locs ls hP hD hS hl => lv_sipush hC.1.1 hC.1.2.1 hd hv (k H locs ls hP hD hS hl)
theorem x_lconst (hC : XC p s m args c D cl tys A nL cc TB own) {n : Fin 2} {v : Int64} (hd : decode cc pc = .ok (.lconst n, 1)) (hv : Int64.ofNat (n : Nat) = v) (k : XW p l e R s m args below meth c D cl A nL Q cells slots ws (pc + 1) lv (.long v :: st)) : XW p l e R s m args below meth c D cl A nL Q cells slots ws pc lv st := fun H locs ls hP hD hS hl => lv_lconst hC.1.1 hC.1.2.1 hd hv (k H locs ls hP hD hS hl)
theorem x_iload_n (hC : XC p s m args c D cl tys A nL cc TB own) {n : Fin 4} {i : Nat} {x : Int32} (hd : decode cc pc = .ok (.iload_n n, 1)) (hi : (n : Nat) = i) (q : Nat) (hq : lv[q]? = some (i, .int x)) (k : XW p l e R s m args below meth c D cl A nL Q cells slots ws (pc + 1) lv (.int x :: st)) : XW p l e R s m args below meth c D cl A nL Q cells slots ws pc lv st := fun H locs ls hP hD hS hl => lv_iload_n hC.1.1 hC.1.2.1 hd hi (lv_at hl q hq) (k H locs ls hP hD hS hl)
theorem x_iload (hC : XC p s m args c D cl tys A nL cc TB own) {i : Nat} {x : Int32} (hd : decode cc pc = .ok (.iload i, 2)) (q : Nat) (hq : lv[q]? = some (i, .int x)) (k : XW p l e R s m args below meth c D cl A nL Q cells slots ws (pc + 2) lv (.int x :: st)) : XW p l e R s m args below meth c D cl A nL Q cells slots ws pc lv st := fun H locs ls hP hD hS hl => lv_iload hC.1.1 hC.1.2.1 hd (lv_at hl q hq) (k H locs ls hP hD hS hl)
theorem x_lload_n (hC : XC p s m args c D cl tys A nL cc TB own) {n : Fin 4} {i : Nat} {x : Int64} (hd : decode cc pc = .ok (.lload_n n, 1)) (hi : (n : Nat) = i) (q : Nat) (hq : lv[q]? = some (i, .long x)) (k : XW p l e R s m args below meth c D cl A nL Q cells slots ws (pc + 1) lv (.long x :: st)) : XW p l e R s m args below meth c D cl A nL Q cells slots ws pc lv st := fun H locs ls hP hD hS hl => lv_lload_n hC.1.1 hC.1.2.1 hd hi (lv_at hl q hq) (k H locs ls hP hD hS hl)
theorem x_lload (hC : XC p s m args c D cl tys A nL cc TB own) {i : Nat} {x : Int64} (hd : decode cc pc = .ok (.lload i, 2)) (q : Nat) (hq : lv[q]? = some (i, .long x)) (k : XW p l e R s m args below meth c D cl A nL Q cells slots ws (pc + 2) lv (.long x :: st)) : XW p l e R s m args below meth c D cl A nL Q cells slots ws pc lv st := fun H locs ls hP hD hS hl => lv_lload hC.1.1 hC.1.2.1 hd (lv_at hl q hq) (k H locs ls hP hD hS hl)
theorem x_aload_n (hC : XC p s m args c D cl tys A nL cc TB own) {n : Fin 4} {i : Nat} {x : Nat} (hd : decode cc pc = .ok (.aload_n n, 1)) (hi : (n : Nat) = i) (q : Nat) (hq : lv[q]? = some (i, .ref x)) (k : XW p l e R s m args below meth c D cl A nL Q cells slots ws (pc + 1) lv (.ref x :: st)) : XW p l e R s m args below meth c D cl A nL Q cells slots ws pc lv st := fun H locs ls hP hD hS hl => lv_aload_n hC.1.1 hC.1.2.1 hd hi (lv_at hl q hq) (k H locs ls hP hD hS hl)
theorem x_aload (hC : XC p s m args c D cl tys A nL cc TB own) {i : Nat} {x : Nat} (hd : decode cc pc = .ok (.aload i, 2)) (q : Nat) (hq : lv[q]? = some (i, .ref x)) (k : XW p l e R s m args below meth c D cl A nL Q cells slots ws (pc + 2) lv (.ref x :: st)) : XW p l e R s m args below meth c D cl A nL Q cells slots ws pc lv st := fun H locs ls hP hD hS hl => lv_aload hC.1.1 hC.1.2.1 hd (lv_at hl q hq) (k H locs ls hP hD hS hl)
theorem x_istore_n (hC : XC p s m args c D cl tys A nL cc TB own) {n : Fin 4} {i : Nat} {x : Int32} (hd : decode cc pc = .ok (.istore_n n, 1)) (hi : (n : Nat) = i) (hn : i < nL) (h : (i, Value.int x) :: lv.filter (fun q => !(q.1 == i) && !(q.1 + 1 == i && q.2.category == 2)) = lv') (k : XW p l e R s m args below meth c D cl A nL Q cells slots ws (pc + 1) lv'  st) : XW p l e R s m args below meth c D cl A nL Q cells slots ws pc lv (.int x :: st) := fun H locs ls hP hD hS hl => lv_istore_n hC.1.1 hC.1.2.1 hd hi hl hn h (fun ls' hl' => k H locs ls' hP hD hS hl')
theorem x_istore (hC : XC p s m args c D cl tys A nL cc TB own) {i : Nat} {x : Int32} (hd : decode cc pc = .ok (.istore i, 2)) (hn : i < nL) (h : (i, Value.int x) :: lv.filter (fun q => !(q.1 == i) && !(q.1 + 1 == i && q.2.category == 2)) = lv') (k : XW p l e R s m args below meth c D cl A nL Q cells slots ws (pc + 2) lv'  st) : XW p l e R s m args below meth c D cl A nL Q cells slots ws pc lv (.int x :: st) := fun H locs ls hP hD hS hl => lv_istore hC.1.1 hC.1.2.1 hd hl hn h (fun ls' hl' => k H locs ls' hP hD hS hl')
theorem x_lstore_n (hC : XC p s m args c D cl tys A nL cc TB own) {n : Fin 4} {i : Nat} {x : Int64} (hd : decode cc pc = .ok (.lstore_n n, 1)) (hi : (n : Nat) = i) (hn : i + 1 < nL) (h : (i, Value.long x) :: lv.filter (fun q => !(q.1 == i) && (!(q.1 == i + 1) && !(q.1 + 1 == i && q.2.category == 2))) = lv') (k : XW p l e R s m args below meth c D cl A nL Q cells slots ws (pc + 1) lv'  st) : XW p l e R s m args below meth c D cl A nL Q cells slots ws pc lv (.long x :: st) := fun H locs ls hP hD hS hl => lv_lstore_n hC.1.1 hC.1.2.1 hd hi hl hn h (fun ls' hl' => k H locs ls' hP hD hS hl')
theorem x_lstore (hC : XC p s m args c D cl tys A nL cc TB own) {i : Nat} {x : Int64} (hd : decode cc pc = .ok (.lstore i, 2)) (hn : i + 1 < nL) (h : (i, Value.long x) :: lv.filter (fun q => !(q.1 == i) && (!(q.1 == i + 1) && !(q.1 + 1 == i && q.2.category == 2))) = lv') (k : XW p l e R s m args below meth c D cl A nL Q cells slots ws (pc + 2) lv'  st) : XW p l e R s m args below meth c D cl A nL Q cells slots ws pc lv (.long x :: st) := fun H locs ls hP hD hS hl => lv_lstore hC.1.1 hC.1.2.1 hd hl hn h (fun ls' hl' => k H locs ls' hP hD hS hl')
theorem x_astore_n (hC : XC p s m args c D cl tys A nL cc TB own) {n : Fin 4} {i : Nat} {x : Nat} (hd : decode cc pc = .ok (.astore_n n, 1)) (hi : (n : Nat) = i) (hn : i < nL) (h : (i, Value.ref x) :: lv.filter (fun q => !(q.1 == i) && !(q.1 + 1 == i && q.2.category == 2)) = lv') (k : XW p l e R s m args below meth c D cl A nL Q cells slots ws (pc + 1) lv'  st) : XW p l e R s m args below meth c D cl A nL Q cells slots ws pc lv (.ref x :: st) := fun H locs ls hP hD hS hl => lv_astore_n hC.1.1 hC.1.2.1 hd hi hl hn h (fun ls' hl' => k H locs ls' hP hD hS hl')
theorem x_astore (hC : XC p s m args c D cl tys A nL cc TB own) {i : Nat} {x : Nat} (hd : decode cc pc = .ok (.astore i, 2)) (hn : i < nL) (h : (i, Value.ref x) :: lv.filter (fun q => !(q.1 == i) && !(q.1 + 1 == i && q.2.category == 2)) = lv') (k : XW p l e R s m args below meth c D cl A nL Q cells slots ws (pc + 2) lv'  st) : XW p l e R s m args below meth c D cl A nL Q cells slots ws pc lv (.ref x :: st) := fun H locs ls hP hD hS hl => lv_astore hC.1.1 hC.1.2.1 hd hl hn h (fun ls' hl' => k H locs ls' hP hD hS hl')
theorem x_iinc (hC : XC p s m args c D cl tys A nL cc TB own) {i : Nat} {n : Int} {x v : Int32} (hd : decode cc pc = .ok (.iinc i n, 3)) (q : Nat) (hq : lv[q]? = some (i, .int x)) (hv : x + Int32.ofInt n = v) (hn : i < nL) (h : (i, Value.int v) :: lv.filter (fun q => !(q.1 == i) && !(q.1 + 1 == i && q.2.category == 2)) = lv') (k : XW p l e R s m args below meth c D cl A nL Q cells slots ws (pc + 3) lv'  st) : XW p l e R s m args below meth c D cl A nL Q cells slots ws pc lv st := fun H locs ls hP hD hS hl => lv_iinc hC.1.1 hC.1.2.1 hd hl hq hv hn h (fun ls' hl' => k H locs ls' hP hD hS hl')
theorem x_iadd (hC : XC p s m args c D cl tys A nL cc TB own) {x y : Int32} (hd : decode cc pc = .ok (.iadd, 1))  (k : XW p l e R s m args below meth c D cl A nL Q cells slots ws (pc + 1) lv (.int (x + y) :: st)) : XW p l e R s m args below meth c D cl A nL Q cells slots ws pc lv (.int y :: .int x :: st) := fun H locs ls hP hD hS hl => lv_iadd hC.1.1 hC.1.2.1 hd  (k H locs ls hP hD hS hl)
theorem x_isub (hC : XC p s m args c D cl tys A nL cc TB own) {x y : Int32} (hd : decode cc pc = .ok (.isub, 1))  (k : XW p l e R s m args below meth c D cl A nL Q cells slots ws (pc + 1) lv (.int (x - y) :: st)) : XW p l e R s m args below meth c D cl A nL Q cells slots ws pc lv (.int y :: .int x :: st) := fun H locs ls hP hD hS hl => lv_isub hC.1.1 hC.1.2.1 hd  (k H locs ls hP hD hS hl)
theorem x_imul (hC : XC p s m args c D cl tys A nL cc TB own) {x y : Int32} (hd : decode cc pc = .ok (.imul, 1))  (k : XW p l e R s m args below meth c D cl A nL Q cells slots ws (pc + 1) lv (.int (x * y) :: st)) : XW p l e R s m args below meth c D cl A nL Q cells slots ws pc lv (.int y :: .int x :: st) := fun H locs ls hP hD hS hl => lv_imul hC.1.1 hC.1.2.1 hd  (k H locs ls hP hD hS hl)
theorem x_iand (hC : XC p s m args c D cl tys A nL cc TB own) {x y : Int32} (hd : decode cc pc = .ok (.iand, 1))  (k : XW p l e R s m args below meth c D cl A nL Q cells slots ws (pc + 1) lv (.int (x &&& y) :: st)) : XW p l e R s m args below meth c D cl A nL Q cells slots ws pc lv (.int y :: .int x :: st) := fun H locs ls hP hD hS hl => lv_iand hC.1.1 hC.1.2.1 hd  (k H locs ls hP hD hS hl)
theorem x_ior (hC : XC p s m args c D cl tys A nL cc TB own) {x y : Int32} (hd : decode cc pc = .ok (.ior, 1))  (k : XW p l e R s m args below meth c D cl A nL Q cells slots ws (pc + 1) lv (.int (x ||| y) :: st)) : XW p l e R s m args below meth c D cl A nL Q cells slots ws pc lv (.int y :: .int x :: st) := fun H locs ls hP hD hS hl => lv_ior hC.1.1 hC.1.2.1 hd  (k H locs ls hP hD hS hl)
theorem x_ixor (hC : XC p s m args c D cl tys A nL cc TB own) {x y : Int32} (hd : decode cc pc = .ok (.ixor, 1))  (k : XW p l e R s m args below meth c D cl A nL Q cells slots ws (pc + 1) lv (.int (x ^^^ y) :: st)) : XW p l e R s m args below meth c D cl A nL Q cells slots ws pc lv (.int y :: .int x :: st) := fun H locs ls hP hD hS hl => lv_ixor hC.1.1 hC.1.2.1 hd  (k H locs ls hP hD hS hl)
theorem x_ladd (hC : XC p s m args c D cl tys A nL cc TB own) {x y : Int64} (hd : decode cc pc = .ok (.ladd, 1))  (k : XW p l e R s m args below meth c D cl A nL Q cells slots ws (pc + 1) lv (.long (x + y) :: st)) : XW p l e R s m args below meth c D cl A nL Q cells slots ws pc lv (.long y :: .long x :: st) := fun H locs ls hP hD hS hl => lv_ladd hC.1.1 hC.1.2.1 hd  (k H locs ls hP hD hS hl)
theorem x_lsub (hC : XC p s m args c D cl tys A nL cc TB own) {x y : Int64} (hd : decode cc pc = .ok (.lsub, 1))  (k : XW p l e R s m args below meth c D cl A nL Q cells slots ws (pc + 1) lv (.long (x - y) :: st)) : XW p l e R s m args below meth c D cl A nL Q cells slots ws pc lv (.long y :: .long x :: st) := fun H locs ls hP hD hS hl => lv_lsub hC.1.1 hC.1.2.1 hd  (k H locs ls hP hD hS hl)
theorem x_lmul (hC : XC p s m args c D cl tys A nL cc TB own) {x y : Int64} (hd : decode cc pc = .ok (.lmul, 1))  (k : XW p l e R s m args below meth c D cl A nL Q cells slots ws (pc + 1) lv (.long (x * y) :: st)) : XW p l e R s m args below meth c D cl A nL Q cells slots ws pc lv (.long y :: .long x :: st) := fun H locs ls hP hD hS hl => lv_lmul hC.1.1 hC.1.2.1 hd  (k H locs ls hP hD hS hl)
theorem x_land (hC : XC p s m args c D cl tys A nL cc TB own) {x y : Int64} (hd : decode cc pc = .ok (.land, 1))  (k : XW p l e R s m args below meth c D cl A nL Q cells slots ws (pc + 1) lv (.long (x &&& y) :: st)) : XW p l e R s m args below meth c D cl A nL Q cells slots ws pc lv (.long y :: .long x :: st) := fun H locs ls hP hD hS hl => lv_land hC.1.1 hC.1.2.1 hd  (k H locs ls hP hD hS hl)
theorem x_lor (hC : XC p s m args c D cl tys A nL cc TB own) {x y : Int64} (hd : decode cc pc = .ok (.lor, 1))  (k : XW p l e R s m args below meth c D cl A nL Q cells slots ws (pc + 1) lv (.long (x ||| y) :: st)) : XW p l e R s m args below meth c D cl A nL Q cells slots ws pc lv (.long y :: .long x :: st) := fun H locs ls hP hD hS hl => lv_lor hC.1.1 hC.1.2.1 hd  (k H locs ls hP hD hS hl)
theorem x_idiv (hC : XC p s m args c D cl tys A nL cc TB own) {x y : Int32} (hd : decode cc pc = .ok (.idiv, 1)) (hne : ¬ y = 0) (k : XW p l e R s m args below meth c D cl A nL Q cells slots ws (pc + 1) lv (.int (x / y) :: st)) : XW p l e R s m args below meth c D cl A nL Q cells slots ws pc lv (.int y :: .int x :: st) := fun H locs ls hP hD hS hl => lv_idiv hC.1.1 hC.1.2.1 hd hne (k H locs ls hP hD hS hl)
theorem x_irem (hC : XC p s m args c D cl tys A nL cc TB own) {x y : Int32} (hd : decode cc pc = .ok (.irem, 1)) (hne : ¬ y = 0) (k : XW p l e R s m args below meth c D cl A nL Q cells slots ws (pc + 1) lv (.int (x - x / y * y) :: st)) : XW p l e R s m args below meth c D cl A nL Q cells slots ws pc lv (.int y :: .int x :: st) := fun H locs ls hP hD hS hl => lv_irem hC.1.1 hC.1.2.1 hd hne (k H locs ls hP hD hS hl)
theorem x_ineg (hC : XC p s m args c D cl tys A nL cc TB own) {x : Int32} (hd : decode cc pc = .ok (.ineg, 1))  (k : XW p l e R s m args below meth c D cl A nL Q cells slots ws (pc + 1) lv (.int (-x) :: st)) : XW p l e R s m args below meth c D cl A nL Q cells slots ws pc lv (.int x :: st) := fun H locs ls hP hD hS hl => lv_ineg hC.1.1 hC.1.2.1 hd  (k H locs ls hP hD hS hl)
theorem x_lneg (hC : XC p s m args c D cl tys A nL cc TB own) {x : Int64} (hd : decode cc pc = .ok (.lneg, 1))  (k : XW p l e R s m args below meth c D cl A nL Q cells slots ws (pc + 1) lv (.long (-x) :: st)) : XW p l e R s m args below meth c D cl A nL Q cells slots ws pc lv (.long x :: st) := fun H locs ls hP hD hS hl => lv_lneg hC.1.1 hC.1.2.1 hd  (k H locs ls hP hD hS hl)
theorem x_i2l (hC : XC p s m args c D cl tys A nL cc TB own) {x : Int32} {v : Int64} (hd : decode cc pc = .ok (.i2l, 1)) (hv : x.toInt64 = v) (k : XW p l e R s m args below meth c D cl A nL Q cells slots ws (pc + 1) lv (.long v :: st)) : XW p l e R s m args below meth c D cl A nL Q cells slots ws pc lv (.int x :: st) := fun H locs ls hP hD hS hl => lv_i2l hC.1.1 hC.1.2.1 hd hv (k H locs ls hP hD hS hl)
theorem x_l2i (hC : XC p s m args c D cl tys A nL cc TB own) {x : Int64} {v : Int32} (hd : decode cc pc = .ok (.l2i, 1)) (hv : x.toInt32 = v) (k : XW p l e R s m args below meth c D cl A nL Q cells slots ws (pc + 1) lv (.int v :: st)) : XW p l e R s m args below meth c D cl A nL Q cells slots ws pc lv (.long x :: st) := fun H locs ls hP hD hS hl => lv_l2i hC.1.1 hC.1.2.1 hd hv (k H locs ls hP hD hS hl)
theorem x_lshl (hC : XC p s m args c D cl tys A nL cc TB own) {x v : Int64} {y : Int32} (hd : decode cc pc = .ok (.lshl, 1)) (hv : x <<< (y.toInt64 &&& 63) = v) (k : XW p l e R s m args below meth c D cl A nL Q cells slots ws (pc + 1) lv (.long v :: st)) : XW p l e R s m args below meth c D cl A nL Q cells slots ws pc lv (.int y :: .long x :: st) := fun H locs ls hP hD hS hl => lv_lshl hC.1.1 hC.1.2.1 hd hv (k H locs ls hP hD hS hl)
theorem x_dup (hC : XC p s m args c D cl tys A nL cc TB own) {va : Value} (hd : decode cc pc = .ok (.dup, 1)) (hv : va.category = 1) (k : XW p l e R s m args below meth c D cl A nL Q cells slots ws (pc + 1) lv (va :: va :: st)) : XW p l e R s m args below meth c D cl A nL Q cells slots ws pc lv (va :: st) := fun H locs ls hP hD hS hl => lv_dup hC.1.1 hC.1.2.1 hd hv (k H locs ls hP hD hS hl)
theorem x_pop (hC : XC p s m args c D cl tys A nL cc TB own) {va : Value} (hd : decode cc pc = .ok (.pop, 1)) (hv : va.category = 1) (k : XW p l e R s m args below meth c D cl A nL Q cells slots ws (pc + 1) lv st) : XW p l e R s m args below meth c D cl A nL Q cells slots ws pc lv (va :: st) := fun H locs ls hP hD hS hl => lv_pop hC.1.1 hC.1.2.1 hd hv (k H locs ls hP hD hS hl)
theorem x_dup2_11 (hC : XC p s m args c D cl tys A nL cc TB own) {va vb : Value} (hd : decode cc pc = .ok (.dup2, 1)) (hv : va.category = 1) (hw : vb.category = 1) (k : XW p l e R s m args below meth c D cl A nL Q cells slots ws (pc + 1) lv (va :: vb :: va :: vb :: st)) : XW p l e R s m args below meth c D cl A nL Q cells slots ws pc lv (va :: vb :: st) := fun H locs ls hP hD hS hl => lv_dup2_11 hC.1.1 hC.1.2.1 hd hv hw (k H locs ls hP hD hS hl)
theorem x_if_eq (hC : XC p s m args c D cl tys A nL cc TB own) {x : Int32} {off : Int} {tgt : Nat} (hd : decode cc pc = .ok (.ifCond .eq off, 3)) (ht : (pc : Int) + off = (tgt : Int)) (kt : x = 0 → XW p l e R s m args below meth c D cl A nL Q cells slots ws tgt lv st) (kf : ¬ x = 0 → XW p l e R s m args below meth c D cl A nL Q cells slots ws (pc + 3) lv st) : XW p l e R s m args below meth c D cl A nL Q cells slots ws pc lv (.int x :: st) := fun H locs ls hP hD hS hl => lv_if_eq hC.1.1 hC.1.2.1 hd ht (fun h => kt h H locs ls hP hD hS hl) (fun h => kf h H locs ls hP hD hS hl)
theorem x_icmp_eq (hC : XC p s m args c D cl tys A nL cc TB own) {x y : Int32} {off : Int} {tgt : Nat} (hd : decode cc pc = .ok (.if_icmp .eq off, 3)) (ht : (pc : Int) + off = (tgt : Int)) (kt : x = y → XW p l e R s m args below meth c D cl A nL Q cells slots ws tgt lv st) (kf : ¬ x = y → XW p l e R s m args below meth c D cl A nL Q cells slots ws (pc + 3) lv st) : XW p l e R s m args below meth c D cl A nL Q cells slots ws pc lv (.int y :: .int x :: st) := fun H locs ls hP hD hS hl => lv_icmp_eq hC.1.1 hC.1.2.1 hd ht (fun h => kt h H locs ls hP hD hS hl) (fun h => kf h H locs ls hP hD hS hl)
theorem x_if_ne (hC : XC p s m args c D cl tys A nL cc TB own) {x : Int32} {off : Int} {tgt : Nat} (hd : decode cc pc = .ok (.ifCond .ne off, 3)) (ht : (pc : Int) + off = (tgt : Int)) (kt : ¬ x = 0 → XW p l e R s m args below meth c D cl A nL Q cells slots ws tgt lv st) (kf : x = 0 → XW p l e R s m args below meth c D cl A nL Q cells slots ws (pc + 3) lv st) : XW p l e R s m args below meth c D cl A nL Q cells slots ws pc lv (.int x :: st) := fun H locs ls hP hD hS hl => lv_if_ne hC.1.1 hC.1.2.1 hd ht (fun h => kt h H locs ls hP hD hS hl) (fun h => kf h H locs ls hP hD hS hl)
theorem x_icmp_ne (hC : XC p s m args c D cl tys A nL cc TB own) {x y : Int32} {off : Int} {tgt : Nat} (hd : decode cc pc = .ok (.if_icmp .ne off, 3)) (ht : (pc : Int) + off = (tgt : Int)) (kt : ¬ x = y → XW p l e R s m args below meth c D cl A nL Q cells slots ws tgt lv st) (kf : x = y → XW p l e R s m args below meth c D cl A nL Q cells slots ws (pc + 3) lv st) : XW p l e R s m args below meth c D cl A nL Q cells slots ws pc lv (.int y :: .int x :: st) := fun H locs ls hP hD hS hl => lv_icmp_ne hC.1.1 hC.1.2.1 hd ht (fun h => kt h H locs ls hP hD hS hl) (fun h => kf h H locs ls hP hD hS hl)
theorem x_if_lt (hC : XC p s m args c D cl tys A nL cc TB own) {x : Int32} {off : Int} {tgt : Nat} (hd : decode cc pc = .ok (.ifCond .lt off, 3)) (ht : (pc : Int) + off = (tgt : Int)) (kt : x < 0 → XW p l e R s m args below meth c D cl A nL Q cells slots ws tgt lv st) (kf : ¬ x < 0 → XW p l e R s m args below meth c D cl A nL Q cells slots ws (pc + 3) lv st) : XW p l e R s m args below meth c D cl A nL Q cells slots ws pc lv (.int x :: st) := fun H locs ls hP hD hS hl => lv_if_lt hC.1.1 hC.1.2.1 hd ht (fun h => kt h H locs ls hP hD hS hl) (fun h => kf h H locs ls hP hD hS hl)
theorem x_icmp_lt (hC : XC p s m args c D cl tys A nL cc TB own) {x y : Int32} {off : Int} {tgt : Nat} (hd : decode cc pc = .ok (.if_icmp .lt off, 3)) (ht : (pc : Int) + off = (tgt : Int)) (kt : x < y → XW p l e R s m args below meth c D cl A nL Q cells slots ws tgt lv st) (kf : ¬ x < y → XW p l e R s m args below meth c D cl A nL Q cells slots ws (pc + 3) lv st) : XW p l e R s m args below meth c D cl A nL Q cells slots ws pc lv (.int y :: .int x :: st) := fun H locs ls hP hD hS hl => lv_icmp_lt hC.1.1 hC.1.2.1 hd ht (fun h => kt h H locs ls hP hD hS hl) (fun h => kf h H locs ls hP hD hS hl)
theorem x_if_ge (hC : XC p s m args c D cl tys A nL cc TB own) {x : Int32} {off : Int} {tgt : Nat} (hd : decode cc pc = .ok (.ifCond .ge off, 3)) (ht : (pc : Int) + off = (tgt : Int)) (kt : 0 ≤ x → XW p l e R s m args below meth c D cl A nL Q cells slots ws tgt lv st) (kf : ¬ 0 ≤ x → XW p l e R s m args below meth c D cl A nL Q cells slots ws (pc + 3) lv st) : XW p l e R s m args below meth c D cl A nL Q cells slots ws pc lv (.int x :: st) := fun H locs ls hP hD hS hl => lv_if_ge hC.1.1 hC.1.2.1 hd ht (fun h => kt h H locs ls hP hD hS hl) (fun h => kf h H locs ls hP hD hS hl)
theorem x_icmp_ge (hC : XC p s m args c D cl tys A nL cc TB own) {x y : Int32} {off : Int} {tgt : Nat} (hd : decode cc pc = .ok (.if_icmp .ge off, 3)) (ht : (pc : Int) + off = (tgt : Int)) (kt : y ≤ x → XW p l e R s m args below meth c D cl A nL Q cells slots ws tgt lv st) (kf : ¬ y ≤ x → XW p l e R s m args below meth c D cl A nL Q cells slots ws (pc + 3) lv st) : XW p l e R s m args below meth c D cl A nL Q cells slots ws pc lv (.int y :: .int x :: st) := fun H locs ls hP hD hS hl => lv_icmp_ge hC.1.1 hC.1.2.1 hd ht (fun h => kt h H locs ls hP hD hS hl) (fun h => kf h H locs ls hP hD hS hl)
theorem x_if_gt (hC : XC p s m args c D cl tys A nL cc TB own) {x : Int32} {off : Int} {tgt : Nat} (hd : decode cc pc = .ok (.ifCond .gt off, 3)) (ht : (pc : Int) + off = (tgt : Int)) (kt : 0 < x → XW p l e R s m args below meth c D cl A nL Q cells slots ws tgt lv st) (kf : ¬ 0 < x → XW p l e R s m args below meth c D cl A nL Q cells slots ws (pc + 3) lv st) : XW p l e R s m args below meth c D cl A nL Q cells slots ws pc lv (.int x :: st) := fun H locs ls hP hD hS hl => lv_if_gt hC.1.1 hC.1.2.1 hd ht (fun h => kt h H locs ls hP hD hS hl) (fun h => kf h H locs ls hP hD hS hl)
theorem x_icmp_gt (hC : XC p s m args c D cl tys A nL cc TB own) {x y : Int32} {off : Int} {tgt : Nat} (hd : decode cc pc = .ok (.if_icmp .gt off, 3)) (ht : (pc : Int) + off = (tgt : Int)) (kt : y < x → XW p l e R s m args below meth c D cl A nL Q cells slots ws tgt lv st) (kf : ¬ y < x → XW p l e R s m args below meth c D cl A nL Q cells slots ws (pc + 3) lv st) : XW p l e R s m args below meth c D cl A nL Q cells slots ws pc lv (.int y :: .int x :: st) := fun H locs ls hP hD hS hl => lv_icmp_gt hC.1.1 hC.1.2.1 hd ht (fun h => kt h H locs ls hP hD hS hl) (fun h => kf h H locs ls hP hD hS hl)
theorem x_if_le (hC : XC p s m args c D cl tys A nL cc TB own) {x : Int32} {off : Int} {tgt : Nat} (hd : decode cc pc = .ok (.ifCond .le off, 3)) (ht : (pc : Int) + off = (tgt : Int)) (kt : x ≤ 0 → XW p l e R s m args below meth c D cl A nL Q cells slots ws tgt lv st) (kf : ¬ x ≤ 0 → XW p l e R s m args below meth c D cl A nL Q cells slots ws (pc + 3) lv st) : XW p l e R s m args below meth c D cl A nL Q cells slots ws pc lv (.int x :: st) := fun H locs ls hP hD hS hl => lv_if_le hC.1.1 hC.1.2.1 hd ht (fun h => kt h H locs ls hP hD hS hl) (fun h => kf h H locs ls hP hD hS hl)
theorem x_icmp_le (hC : XC p s m args c D cl tys A nL cc TB own) {x y : Int32} {off : Int} {tgt : Nat} (hd : decode cc pc = .ok (.if_icmp .le off, 3)) (ht : (pc : Int) + off = (tgt : Int)) (kt : x ≤ y → XW p l e R s m args below meth c D cl A nL Q cells slots ws tgt lv st) (kf : ¬ x ≤ y → XW p l e R s m args below meth c D cl A nL Q cells slots ws (pc + 3) lv st) : XW p l e R s m args below meth c D cl A nL Q cells slots ws pc lv (.int y :: .int x :: st) := fun H locs ls hP hD hS hl => lv_icmp_le hC.1.1 hC.1.2.1 hd ht (fun h => kt h H locs ls hP hD hS hl) (fun h => kf h H locs ls hP hD hS hl)
theorem x_lcmp_eq (hC : XC p s m args c D cl tys A nL cc TB own) {x y : Int64} {off : Int} {tgt : Nat} (hd0 : decode cc pc = .ok (.lcmp, 1)) (hd : decode cc (pc + 1) = .ok (.ifCond .eq off, 3)) (ht : ((pc + 1 : Nat) : Int) + off = (tgt : Int)) (kt : x = y → XW p l e R s m args below meth c D cl A nL Q cells slots ws tgt lv st) (kf : ¬ x = y → XW p l e R s m args below meth c D cl A nL Q cells slots ws (pc + 1 + 3) lv st) : XW p l e R s m args below meth c D cl A nL Q cells slots ws pc lv (.long y :: .long x :: st) := fun H locs ls hP hD hS hl => W.lcmp hC.1.1 hC.1.2.1 hd0 (lv_if_eq hC.1.1 hC.1.2.1 hd ht (fun h => kt ((lg_cmp_eq x y).mp h) H locs ls hP hD hS hl) (fun h => kf (fun z => h ((lg_cmp_eq x y).mpr z)) H locs ls hP hD hS hl))
theorem x_lcmp_ne (hC : XC p s m args c D cl tys A nL cc TB own) {x y : Int64} {off : Int} {tgt : Nat} (hd0 : decode cc pc = .ok (.lcmp, 1)) (hd : decode cc (pc + 1) = .ok (.ifCond .ne off, 3)) (ht : ((pc + 1 : Nat) : Int) + off = (tgt : Int)) (kt : ¬ x = y → XW p l e R s m args below meth c D cl A nL Q cells slots ws tgt lv st) (kf : x = y → XW p l e R s m args below meth c D cl A nL Q cells slots ws (pc + 1 + 3) lv st) : XW p l e R s m args below meth c D cl A nL Q cells slots ws pc lv (.long y :: .long x :: st) := fun H locs ls hP hD hS hl => W.lcmp hC.1.1 hC.1.2.1 hd0 (lv_if_ne hC.1.1 hC.1.2.1 hd ht (fun h => kt (fun z => h ((lg_cmp_eq x y).mpr z)) H locs ls hP hD hS hl) (fun h => kf ((lg_cmp_eq x y).mp h) H locs ls hP hD hS hl))
theorem x_lcmp_lt (hC : XC p s m args c D cl tys A nL cc TB own) {x y : Int64} {off : Int} {tgt : Nat} (hd0 : decode cc pc = .ok (.lcmp, 1)) (hd : decode cc (pc + 1) = .ok (.ifCond .lt off, 3)) (ht : ((pc + 1 : Nat) : Int) + off = (tgt : Int)) (kt : x < y → XW p l e R s m args below meth c D cl A nL Q cells slots ws tgt lv st) (kf : ¬ x < y → XW p l e R s m args below meth c D cl A nL Q cells slots ws (pc + 1 + 3) lv st) : XW p l e R s m args below meth c D cl A nL Q cells slots ws pc lv (.long y :: .long x :: st) := fun H locs ls hP hD hS hl => W.lcmp hC.1.1 hC.1.2.1 hd0 (lv_if_lt hC.1.1 hC.1.2.1 hd ht (fun h => kt ((lg_cmp_lt x y).mp h) H locs ls hP hD hS hl) (fun h => kf (fun z => h ((lg_cmp_lt x y).mpr z)) H locs ls hP hD hS hl))
theorem x_lcmp_ge (hC : XC p s m args c D cl tys A nL cc TB own) {x y : Int64} {off : Int} {tgt : Nat} (hd0 : decode cc pc = .ok (.lcmp, 1)) (hd : decode cc (pc + 1) = .ok (.ifCond .ge off, 3)) (ht : ((pc + 1 : Nat) : Int) + off = (tgt : Int)) (kt : y ≤ x → XW p l e R s m args below meth c D cl A nL Q cells slots ws tgt lv st) (kf : ¬ y ≤ x → XW p l e R s m args below meth c D cl A nL Q cells slots ws (pc + 1 + 3) lv st) : XW p l e R s m args below meth c D cl A nL Q cells slots ws pc lv (.long y :: .long x :: st) := fun H locs ls hP hD hS hl => W.lcmp hC.1.1 hC.1.2.1 hd0 (lv_if_ge hC.1.1 hC.1.2.1 hd ht (fun h => kt ((lg_cmp_ge x y).mp h) H locs ls hP hD hS hl) (fun h => kf (fun z => h ((lg_cmp_ge x y).mpr z)) H locs ls hP hD hS hl))
theorem x_lcmp_gt (hC : XC p s m args c D cl tys A nL cc TB own) {x y : Int64} {off : Int} {tgt : Nat} (hd0 : decode cc pc = .ok (.lcmp, 1)) (hd : decode cc (pc + 1) = .ok (.ifCond .gt off, 3)) (ht : ((pc + 1 : Nat) : Int) + off = (tgt : Int)) (kt : y < x → XW p l e R s m args below meth c D cl A nL Q cells slots ws tgt lv st) (kf : ¬ y < x → XW p l e R s m args below meth c D cl A nL Q cells slots ws (pc + 1 + 3) lv st) : XW p l e R s m args below meth c D cl A nL Q cells slots ws pc lv (.long y :: .long x :: st) := fun H locs ls hP hD hS hl => W.lcmp hC.1.1 hC.1.2.1 hd0 (lv_if_gt hC.1.1 hC.1.2.1 hd ht (fun h => kt ((lg_cmp_gt x y).mp h) H locs ls hP hD hS hl) (fun h => kf (fun z => h ((lg_cmp_gt x y).mpr z)) H locs ls hP hD hS hl))
theorem x_lcmp_le (hC : XC p s m args c D cl tys A nL cc TB own) {x y : Int64} {off : Int} {tgt : Nat} (hd0 : decode cc pc = .ok (.lcmp, 1)) (hd : decode cc (pc + 1) = .ok (.ifCond .le off, 3)) (ht : ((pc + 1 : Nat) : Int) + off = (tgt : Int)) (kt : x ≤ y → XW p l e R s m args below meth c D cl A nL Q cells slots ws tgt lv st) (kf : ¬ x ≤ y → XW p l e R s m args below meth c D cl A nL Q cells slots ws (pc + 1 + 3) lv st) : XW p l e R s m args below meth c D cl A nL Q cells slots ws pc lv (.long y :: .long x :: st) := fun H locs ls hP hD hS hl => W.lcmp hC.1.1 hC.1.2.1 hd0 (lv_if_le hC.1.1 hC.1.2.1 hd ht (fun h => kt ((lg_cmp_le x y).mp h) H locs ls hP hD hS hl) (fun h => kf (fun z => h ((lg_cmp_le x y).mpr z)) H locs ls hP hD hS hl))
theorem x_goto (hC : XC p s m args c D cl tys A nL cc TB own) {off : Int} {tgt : Nat} (hd : decode cc pc = .ok (.goto off, 3)) (ht : (pc : Int) + off = (tgt : Int)) (k : XW p l e R s m args below meth c D cl A nL Q cells slots ws tgt lv st) : XW p l e R s m args below meth c D cl A nL Q cells slots ws pc lv st := fun H locs ls hP hD hS hl => lv_goto hC.1.1 hC.1.2.1 hd ht (k H locs ls hP hD hS hl)
theorem x_ldc2 (hC : XC p s m args c D cl tys A nL cc TB own) {index : Nat} {v : Int64} (hw : Jvm.Cond.constantLong own index v ∈ TB) (hd : decode cc pc = .ok (.ldc2_w index, 3)) (k : XW p l e R s m args below meth c D cl A nL Q cells slots ws (pc + 3) lv (.long v :: st)) : XW p l e R s m args below meth c D cl A nL Q cells slots ws pc lv st := fun H locs ls hP hD hS hl => lv_ldc2 hC.1.1 hC.1.2.1 hC.1.2.2.2.1 (hC.ts hw) hd (k H locs ls hP hD hS hl)
theorem x_ldc (hC : XC p s m args c D cl tys A nL cc TB own) {index : Nat} {v : Int32} (hw : Jvm.Cond.constant own index v ∈ TB) (hd : decode cc pc = .ok (.ldc index, 2)) (k : XW p l e R s m args below meth c D cl A nL Q cells slots ws (pc + 2) lv (.int v :: st)) : XW p l e R s m args below meth c D cl A nL Q cells slots ws pc lv st := fun H locs ls hP hD hS hl => lv_ldc hC.1.1 hC.1.2.1 hC.1.2.2.2.1 (hC.ts hw) hd (k H locs ls hP hD hS hl)
theorem x_get (hC : XC p s m args c D cl tys A nL cc TB own) {ref C : String} {T : u_T} {N ci index a : Nat} (hin : ∀ w ∈ u_ws C T N, w ∈ TB) (q0 : Nat) {fs : List Value} (he : ws[q0]? = some (a, .inr (ci, fs))) (hc : cl[ci]? = some (C, T, N)) (i : Nat) (hi : i < N) (hlink : Cond.fieldLink own index ref (T i).2.1 (T i).2.2.1 ∈ TB) (hsame : ref = (T i).1) {v : Value} (hv : fs[i]? = some v) (hd : decode cc pc = .ok (.getfield index, 3)) (k : XW p l e R s m args below meth c D cl A nL Q cells slots ws (pc + 3) lv (v :: st)) : XW p l e R s m args below meth c D cl A nL Q cells slots ws pc lv (.ref a :: st) := fun H locs ls hP hD hS hl => va_get hC.1.1 hC.1.2.1 hC.1.2.2.2.2 hin hC.1.2.2.2.1 hC.2.1 hP q0 he hc i hi (hC.ts hlink) (fun x hx => by rw [hsame]; exact hx) hv hd (k H locs ls hP hD hS hl)
theorem x_put (hC : XC p s m args c D cl tys A nL cc TB own) {ref C : String} {T : u_T} {N ci index a : Nat} (hin : ∀ w ∈ u_ws C T N, w ∈ TB) (q0 : Nat) {fs : List Value} (he : ws[q0]? = some (a, .inr (ci, fs))) (hc : cl[ci]? = some (C, T, N)) (i : Nat) (hi : i < N) (hlink : Cond.fieldLink own index ref (T i).2.1 (T i).2.2.1 ∈ TB) (hsame : ref = (T i).1) (ty0 : Nat → FieldType) (hty : ∀ k, k < N → parseFieldDescriptor (T k).2.2.1 = some (ty0 k)) (hnm : ∀ a, a < N → ∀ b, b < N → a ≠ b → (T a).2.1 ≠ (T b).2.1) (hfin : (T i).2.2.2 = false) {ty : FieldType} {v : Value} (hdt : parseFieldDescriptor (T i).2.2.1 = some ty) (hn : narrow ty v = v) (hfit : fits ty v = true) (hl0 : i < fs.length) (hset : ws.set q0 (a, .inr (ci, fs.set i v)) = ws') (hd : decode cc pc = .ok (.putfield index, 3)) (k : XW p l e R s m args below meth c D cl A nL Q cells slots ws'  (pc + 3) lv st) : XW p l e R s m args below meth c D cl A nL Q cells slots ws pc lv (v :: .ref a :: st) := by
  subst hset
  exact fun H locs ls hP hD hS hl => va_put hC.1.1 hC.1.2.1 hC.1.2.2.2.2 hin ty0 hty hnm hC.1.2.2.2.1 hC.2.1 hP hD hS q0 he hc i hi (hC.ts hlink) (fun x hx => by rw [hsame]; exact hx) hfin hdt hn hfit hl0 hd (fun H1 locs1 hP1 hD1 hS1 => k H1 locs1 ls hP1 hD1 hS1 hl)
theorem x_putF (hC : XC p s m args c D cl tys A nL cc TB own) {ref C : String} {T : u_T} {N ci index a : Nat} (hin : ∀ w ∈ u_ws C T N, w ∈ TB) (q0 : Nat) {fs : List Value} (he : ws[q0]? = some (a, .inr (ci, fs))) (hc : cl[ci]? = some (C, T, N)) (i : Nat) (hi : i < N) (hlink : Cond.fieldLink own index ref (T i).2.1 (T i).2.2.1 ∈ TB) (hsame : ref = (T i).1) (ty0 : Nat → FieldType) (hty : ∀ k, k < N → parseFieldDescriptor (T k).2.2.1 = some (ty0 k)) (hnm : ∀ a, a < N → ∀ b, b < N → a ≠ b → (T a).2.1 ≠ (T b).2.1) (hfin : (T i).2.2.2 = true) (hin2 : meth.name = "<init>") (hdecl : (T i).1 = own) {ty : FieldType} {v : Value} (hdt : parseFieldDescriptor (T i).2.2.1 = some ty) (hn : narrow ty v = v) (hfit : fits ty v = true) (hl0 : i < fs.length) (hset : ws.set q0 (a, .inr (ci, fs.set i v)) = ws') (hd : decode cc pc = .ok (.putfield index, 3)) (k : XW p l e R s m args below meth c D cl A nL Q cells slots ws'  (pc + 3) lv st) : XW p l e R s m args below meth c D cl A nL Q cells slots ws pc lv (v :: .ref a :: st) := by
  subst hset
  exact fun H locs ls hP hD hS hl => va_putF hC.1.1 hC.1.2.1 hC.1.2.2.2.2 hin ty0 hty hnm hC.1.2.2.2.1 hC.2.1 hP hD hS q0 he hc i hi (hC.ts hlink) (fun x hx => by rw [hsame]; exact hx) hfin hin2 hdecl hdt hn hfit hl0 hd (fun H1 locs1 hP1 hD1 hS1 => k H1 locs1 ls hP1 hD1 hS1 hl)
theorem x_iald (hC : XC p s m args c D cl tys A nL cc TB own) {a : Nat} (q0 t0 : Nat) {cA : ClassId} {n : Nat} {f : Nat → Int32} (ha : ws[q0]? = some (a, .inl (cA, n, .inl f))) (ht : tys[t0]? = some (cA, .int)) {i : Int32} (hin : vp_in i n) (hd : decode cc pc = .ok (.iaload, 1)) (k : XW p l e R s m args below meth c D cl A nL Q cells slots ws (pc + 1) lv (.int (f i.toNatClampNeg) :: st)) : XW p l e R s m args below meth c D cl A nL Q cells slots ws pc lv (.int i :: .ref a :: st) := fun H locs ls hP hD hS hl => va_iald hC.1.1 hC.1.2.1 hC.2.1 hP q0 t0 ha ht hin hd (k H locs ls hP hD hS hl)
theorem x_iast (hC : XC p s m args c D cl tys A nL cc TB own) {a : Nat} (q0 t0 : Nat) {cA : ClassId} {n : Nat} {f : Nat → Int32} (ha : ws[q0]? = some (a, .inl (cA, n, .inl f))) (ht : tys[t0]? = some (cA, .int)) {i : Int32} {x : Int32} (hin : vp_in i n) (hset : ws.set q0 (a, .inl (cA, n, .inl (upd f i.toNatClampNeg x))) = ws') (hd : decode cc pc = .ok (.iastore, 1)) (k : XW p l e R s m args below meth c D cl A nL Q cells slots ws'  (pc + 1) lv st) : XW p l e R s m args below meth c D cl A nL Q cells slots ws pc lv (.int x :: .int i :: .ref a :: st) := by
  subst hset
  exact fun H locs ls hP hD hS hl => va_iast hC.1.1 hC.1.2.1 hC.2.1 hP hD hS q0 t0 ha ht hin hd (fun H1 locs1 hP1 hD1 hS1 => k H1 locs1 ls hP1 hD1 hS1 hl)
theorem x_lald (hC : XC p s m args c D cl tys A nL cc TB own) {a : Nat} (q0 t0 : Nat) {cA : ClassId} {n : Nat} {f : Nat → Int64} (ha : ws[q0]? = some (a, .inl (cA, n, .inr (.inl f)))) (ht : tys[t0]? = some (cA, .long)) {i : Int32} (hin : vp_in i n) (hd : decode cc pc = .ok (.laload, 1)) (k : XW p l e R s m args below meth c D cl A nL Q cells slots ws (pc + 1) lv (.long (f i.toNatClampNeg) :: st)) : XW p l e R s m args below meth c D cl A nL Q cells slots ws pc lv (.int i :: .ref a :: st) := fun H locs ls hP hD hS hl => va_lald hC.1.1 hC.1.2.1 hC.2.1 hP q0 t0 ha ht hin hd (k H locs ls hP hD hS hl)
theorem x_last (hC : XC p s m args c D cl tys A nL cc TB own) {a : Nat} (q0 t0 : Nat) {cA : ClassId} {n : Nat} {f : Nat → Int64} (ha : ws[q0]? = some (a, .inl (cA, n, .inr (.inl f)))) (ht : tys[t0]? = some (cA, .long)) {i : Int32} {x : Int64} (hin : vp_in i n) (hset : ws.set q0 (a, .inl (cA, n, .inr (.inl (vp_updL f i.toNatClampNeg x)))) = ws') (hd : decode cc pc = .ok (.lastore, 1)) (k : XW p l e R s m args below meth c D cl A nL Q cells slots ws'  (pc + 1) lv st) : XW p l e R s m args below meth c D cl A nL Q cells slots ws pc lv (.long x :: .int i :: .ref a :: st) := by
  subst hset
  exact fun H locs ls hP hD hS hl => va_last hC.1.1 hC.1.2.1 hC.2.1 hP hD hS q0 t0 ha ht hin hd (fun H1 locs1 hP1 hD1 hS1 => k H1 locs1 ls hP1 hD1 hS1 hl)
theorem x_aald (hC : XC p s m args c D cl tys A nL cc TB own) {a : Nat} (q0 t0 : Nat) {cA : ClassId} {n : Nat} {f : Nat → Option Nat} {ty : FieldType} (ha : ws[q0]? = some (a, .inl (cA, n, .inr (.inr (.inr (.inr f)))))) (ht : tys[t0]? = some (cA, ty)) (hr : ty.isReference = true) {i : Int32} (hin : vp_in i n) {y : Nat} (hy : f i.toNatClampNeg = some y) (hd : decode cc pc = .ok (.aaload, 1)) (k : XW p l e R s m args below meth c D cl A nL Q cells slots ws (pc + 1) lv (.ref y :: st)) : XW p l e R s m args below meth c D cl A nL Q cells slots ws pc lv (.int i :: .ref a :: st) := by
  intro H locs ls hP hD hS hl
  have hlt : i.toNatClampNeg < n := Nat.not_le.mp fun q => hin (Or.inr q)
  exact W.aald (v := .ref y) (ty := ty) hC.1.1 hC.1.2.1 (hP q0 _ ha) ((hC.2.1.2 t0 _ ht).1 n (fun j => va_rf (f j))) hr (fun q => by cases q) (by show ¬ (i < 0 ∨ (arrV _ _ _).slots.size ≤ _); rw [arrV_size]; exact hin) (by show (arrV _ _ _).slots[_]? = _; rw [arrV_read _ _ hlt, hy]; rfl) rfl rfl hd (k H locs ls hP hD hS hl)
theorem x_alen (hC : XC p s m args c D cl tys A nL cc TB own) {a : Nat} (q0 t0 : Nat) {cA : ClassId} {x : vp_A} {ty : FieldType} (ha : ws[q0]? = some (a, .inl (cA, x))) (ht : tys[t0]? = some (cA, ty)) {v : Int32} (hv : Int32.ofNat x.1 = v) (hd : decode cc pc = .ok (.arraylength, 1)) (k : XW p l e R s m args below meth c D cl A nL Q cells slots ws (pc + 1) lv (.int v :: st)) : XW p l e R s m args below meth c D cl A nL Q cells slots ws pc lv (.ref a :: st) := fun H locs ls hP hD hS hl => va_alen hC.1.1 hC.1.2.1 hC.2.1 hP q0 t0 ha ht hv hd (k H locs ls hP hD hS hl)
theorem x_mminl (hC : XC p s m args c D cl tys A nL cc TB own) {index : Nat} {x y : Int64} (hlink : Cond.methodLink own index Lib.MathLoose.min_long.x ∈ TB) (hstat : Cond.static Lib.MathLoose.min_long.x ∈ TB) (hini : Cond.initialized "java/lang/Math" ∈ TB) (hcode : Cond.code Lib.MathLoose.min_long.x Lib.MathLoose.min_long.code 4 (some .long) ∈ TB) (hfr : 1 ≤ R.frames) (hlo : (st.map fun v => v.category).sum + 15 ≤ R.locals) (hce : cells ≤ R.cells) (hsl : slots ≤ R.slots) (hd : decode cc pc = .ok (.invokestatic index, 3)) (k : XW p l e R s m args below meth c D cl A nL Q cells slots ws (pc + 3) lv (.long (if y < x then y else x) :: st)) : XW p l e R s m args below meth c D cl A nL Q cells slots ws pc lv (.long y :: .long x :: st) := fun H locs ls hP hD hS hl => va_mmin_long hC.1.1 hC.1.2.1 (hC.1.2.2.1.trans hl.1.symm) hC.1.2.2.2.1 (hC.ts hlink) (hC.ts hstat) (hC.ts hini) (hC.ts hcode) hfr hlo hce hsl hd (k H locs ls hP hD hS hl)
theorem x_mmaxl (hC : XC p s m args c D cl tys A nL cc TB own) {index : Nat} {x y : Int64} (hlink : Cond.methodLink own index Lib.MathLoose.max_long.x ∈ TB) (hstat : Cond.static Lib.MathLoose.max_long.x ∈ TB) (hini : Cond.initialized "java/lang/Math" ∈ TB) (hcode : Cond.code Lib.MathLoose.max_long.x Lib.MathLoose.max_long.code 4 (some .long) ∈ TB) (hfr : 1 ≤ R.frames) (hlo : (st.map fun v => v.category).sum + 15 ≤ R.locals) (hce : cells ≤ R.cells) (hsl : slots ≤ R.slots) (hd : decode cc pc = .ok (.invokestatic index, 3)) (k : XW p l e R s m args below meth c D cl A nL Q cells slots ws (pc + 3) lv (.long (if y < x then x else y) :: st)) : XW p l e R s m args below meth c D cl A nL Q cells slots ws pc lv (.long y :: .long x :: st) := fun H locs ls hP hD hS hl => va_mmax_long hC.1.1 hC.1.2.1 (hC.1.2.2.1.trans hl.1.symm) hC.1.2.2.2.1 (hC.ts hlink) (hC.ts hstat) (hC.ts hini) (hC.ts hcode) hfr hlo hce hsl hd (k H locs ls hP hD hS hl)
theorem x_swIn (hC : XC p s m args c D cl tys A nL cc TB own) (v : Int32) {dflt lo hi : Int} {offs : Array Int} {len : Nat} {x : Int32} {off : Int} {tgt : Nat} (hx : x = v) (hd : decode cc pc = .ok (.tableswitch dflt lo hi offs, len)) (h1 : ¬ v.toInt < lo) (h2 : ¬ hi < v.toInt) (ho : offs[(v.toInt - lo).toNat]? = some off) (ht : (pc : Int) + off = (tgt : Int)) (k : XW p l e R s m args below meth c D cl A nL Q cells slots ws tgt lv st) : XW p l e R s m args below meth c D cl A nL Q cells slots ws pc lv (.int x :: st) := by
  subst hx
  exact fun H locs ls hP hD hS hl => lv_tableIn hC.1.1 hC.1.2.1 hd h1 h2 ho ht (k H locs ls hP hD hS hl)
theorem x_swOut (hC : XC p s m args c D cl tys A nL cc TB own) {dflt lo hi : Int} {offs : Array Int} {len : Nat} {x : Int32} {tgt : Nat} (hd : decode cc pc = .ok (.tableswitch dflt lo hi offs, len)) (h : x.toInt < lo ∨ hi < x.toInt) (ht : (pc : Int) + dflt = (tgt : Int)) (k : XW p l e R s m args below meth c D cl A nL Q cells slots ws tgt lv st) : XW p l e R s m args below meth c D cl A nL Q cells slots ws pc lv (.int x :: st) := fun H locs ls hP hD hS hl => lv_tableOut hC.1.1 hC.1.2.1 hd h ht (k H locs ls hP hD hS hl)
theorem x_neI {x v : Int32} {n : Int} (hv : v.toInt = n) (h : ¬ x = v) : x.toInt ≠ n := fun q => h (Int32.toInt_inj.mp (q.trans hv.symm))
theorem x_widen {k n : Nat} (h1 : cells ≤ k) (h2 : slots ≤ n) (kk : XW p l e R s m args below meth c D cl A nL Q k n ws pc lv st) : XW p l e R s m args below meth c D cl A nL Q cells slots ws pc lv st := fun H locs ls hP hD hS hl => W.widen h1 h2 (kk H locs ls hP hD hS hl)
theorem x_iret (hC : XC p s m args c D cl tys A nL cc TB own) {S : Type} {post : Int32 → S → Prop} {r : Int32} {u : S} {wf : S → va_W} {XQ : String → State → State → Prop} {mc2 ms2 : Nat} (hmc : cells ≤ mc2) (hms : slots ≤ ms2) (hr : meth.sig.returnType = some .int) (hlocks : meth.locks = false)  (hd : decode cc pc = .ok (.ireturn, 1)) (hq : post r u) (hw : wf u = ws) : XW p l e R s m args below meth c D cl A nL (vx_MQ below (va_Qi post (fun u t => XB D cl tys A (wf u) t) A) XQ args s mc2 ms2 A) cells slots ws pc lv [.int r] := by
  subst hw
  intro H locs ls hP hD hS hl
  exact W.widen hmc hms (vx_ret (W.iret hC.1.1 hC.1.2.1 hr  (fun t ht hW => ⟨⟨r, u, rfl, hq, by rw [ht]; exact hP, va_K.moved hW.alike hC.2.1, hD⟩, hS.F ht⟩) hS.2.2 hd hlocks))
theorem x_zret (hC : XC p s m args c D cl tys A nL cc TB own) {S : Type} {post : Int32 → S → Prop} {r : Int32} {u : S} {wf : S → va_W} {XQ : String → State → State → Prop} {mc2 ms2 : Nat} (hmc : cells ≤ mc2) (hms : slots ≤ ms2) (hr : meth.sig.returnType = some .boolean) (hlocks : meth.locks = false) (hb0 : x_bool r) (hd : decode cc pc = .ok (.ireturn, 1)) (hq : post r u) (hw : wf u = ws) : XW p l e R s m args below meth c D cl A nL (vx_MQ below (va_Qi post (fun u t => XB D cl tys A (wf u) t) A) XQ args s mc2 ms2 A) cells slots ws pc lv [.int r] := by
  subst hw
  intro H locs ls hP hD hS hl
  exact W.widen hmc hms (vx_ret (W.zret hC.1.1 hC.1.2.1 hr (x_bool_nar hb0) (fun t ht hW => ⟨⟨r, u, rfl, hq, by rw [ht]; exact hP, va_K.moved hW.alike hC.2.1, hD⟩, hS.F ht⟩) hS.2.2 hd hlocks))
theorem x_lret (hC : XC p s m args c D cl tys A nL cc TB own) {S : Type} {post : Int64 → S → Prop} {r : Int64} {u : S} {wf : S → va_W} {XQ : String → State → State → Prop} {mc2 ms2 : Nat} (hmc : cells ≤ mc2) (hms : slots ≤ ms2) (hr : meth.sig.returnType = some .long) (hlocks : meth.locks = false)  (hd : decode cc pc = .ok (.lreturn, 1)) (hq : post r u) (hw : wf u = ws) : XW p l e R s m args below meth c D cl A nL (vx_MQ below (va_Ql post (fun u t => XB D cl tys A (wf u) t) A) XQ args s mc2 ms2 A) cells slots ws pc lv [.long r] := by
  subst hw
  intro H locs ls hP hD hS hl
  exact W.widen hmc hms (vx_ret (W.lret hC.1.1 hC.1.2.1 hr  (fun t ht hW => ⟨⟨r, u, rfl, hq, by rw [ht]; exact hP, va_K.moved hW.alike hC.2.1, hD⟩, hS.F ht⟩) hS.2.2 hd hlocks))
theorem x_vret (hC : XC p s m args c D cl tys A nL cc TB own) {S : Type} {post : S → Prop} {u : S} {wf : S → va_W} {XQ : String → State → State → Prop} {mc2 ms2 : Nat} (hmc : cells ≤ mc2) (hms : slots ≤ ms2) (hr : meth.sig.returnType = none) (hlocks : meth.locks = false)  (hd : decode cc pc = .ok (.return_, 1)) (hq : post u) (hw : wf u = ws) : XW p l e R s m args below meth c D cl A nL (vx_MQ below (va_Qv post (fun u t => XB D cl tys A (wf u) t) A) XQ args s mc2 ms2 A) cells slots ws pc lv [] := by
  subst hw
  intro H locs ls hP hD hS hl
  exact W.widen hmc hms (vx_ret (W.vret hC.1.1 hC.1.2.1 hr  (fun t ht hW => ⟨⟨u, rfl, hq, by rw [ht]; exact hP, va_K.moved hW.alike hC.2.1, hD⟩, hS.F ht⟩) hS.2.2 hd hlocks))
theorem x_good {y : MethodName} {bytes : ByteArray} {maxL : Nat} {ret : Option FieldType} (hcode : Cond.code y bytes maxL ret ∈ TB) (hG : GoodIn TB TB) : GoodIn (Cond.code y bytes maxL ret :: TB) (Cond.code y bytes maxL ret :: TB) := by
  intro w hw
  rcases List.mem_cons.mp hw with h | h
  · subst h; exact ⟨List.mem_cons_self, (hG _ hcode).2⟩
  · exact ⟨List.mem_cons_of_mem _ h, (hG _ h).2⟩
/-- the callee's words at any state that this one's tables grow into -/
theorem XC.words (hC : XC p s m args c D cl tys A nL cc TB own) {y : MethodName} {bytes : ByteArray} {maxL : Nat} {ret : Option FieldType} (hcode : Cond.code y bytes maxL ret ∈ TB) : ∀ w ∈ (Cond.code y bytes maxL ret :: TB), ∀ (a' : Array Value) (U : State), s.WarmedH U.vm → w.before a' U = true :=
  pay_in (fun w hw => by
    rcases List.mem_cons.mp hw with h | h
    · rw [h]; exact hC.ts hcode
    · exact hC.ts h) (x_good hcode hC.2.2.2.1)
/-- the callee's start out of the caller's state -/
theorem XC.start (hC : XC p s m args c D cl tys A nL cc TB own) {H : Heap} {locs : List Loc} (hP : va_P D cl ws H) (hD : va_D A ws) (hS : va_S A s.heap H locs) {U : State} (hU : U.heap = H) (hW : s.WarmedH U.vm) : XP D cl tys ws H.size U :=
  ⟨by rw [hU], by rw [hU]; exact hP, va_K.moved hW.alike hC.2.1, hD.weaken (fun _ _ _ _ => trivial), by rw [hU]; exact ((hC.2.2.2.2.kept hS.2.1).narrow (hC.free hD hS)).moved hW⟩
theorem x_blind {av : List Value} {sz : Nat} : FrameBlind (va_Pc av (XP D cl tys ws sz)) := fun a U g mk q => by
  obtain ⟨q0, q1, qP, qK, qD, qE⟩ := q
  exact ⟨q0, q1, qP, va_K.moved (u := U) (U := U.calling g mk a) (Vm.Alike.refl U.vm) qK, qD, XEn.same (s := U) (U := U.calling g mk a) qE rfl⟩
theorem x_callVi (hC : XC p s m args c D cl tys A nL cc TB own) {S : Type} {wf : S → va_W} {Qt : Nat → Prop} {y : MethodName} {bytes : ByteArray} {maxL index : Nat} {ret : Option FieldType} {rm : Room} {post : Int32 → S → Prop} {b q0 ci : Nat} {fs : List Value} {C : String} {TT : u_T} {N : Nat} (As : List Value) (hM : ∀ sz : Nat, vx_Met l y (Cond.code y bytes maxL ret :: TB) rm (va_Pc (.ref b :: As) (XP D cl tys ws sz)) (va_Qi post (fun u t => XB D cl tys (va_A ws sz) (wf u) t) (va_A ws sz)) (XT D cl tys (va_A ws sz) ws Qt) rm.cells rm.slots (va_A ws sz)) (hfr : rm.frames + 1 ≤ R.frames) (hlo : 8 + (maxL + 11) + rm.locals ≤ R.locals) (hcode : Cond.code y bytes maxL ret ∈ TB) (hini : Cond.initialized y.cls ∈ TB) (hlink : Cond.methodLink own index y ∈ TB) (hy : (y.cls ≠ "java/lang/invoke/MethodHandle" ∧ y.cls ≠ "java/lang/invoke/VarHandle")) (n : Nat) (hn : As.length = n) (hlen : (parseMethodDescriptor y.desc).map (fun d => d.parameters.length) = some n) (hf : cells + rm.cells ≤ R.cells ∧ slots + rm.slots ≤ R.slots) (hst : (st.map fun v => v.category).sum ≤ 8) (hinst : Cond.instanceMethod y ∈ TB) (hsel : Cond.selects C y y ∈ TB) (he : ws[q0]? = some (b, .inr (ci, fs))) (hc : cl[ci]? = some (C, TT, N)) {st0 : List Value} (hstk : st0 = As.reverse ++ .ref b :: st) (hd : decode cc pc = .ok (.invokevirtual index, 3)) (hno : ∀ k, ¬ Qt k) (k : ∀ (r : Int32) (u : S), post r u → XW p l e R s m args below meth c D cl A nL Q (cells + rm.cells) (slots + rm.slots) (wf u) (pc + 3) lv (.int r :: st)) : XW p l e R s m args below meth c D cl A nL Q cells slots ws pc lv st0 := by
  intro H locs ls hP hD hS hl
  exact vx_calli (vx_runV (C := C) (bytes := bytes) (maxL := maxL) (ret := ret) (As := As) (rest := st) hC.1 (hM H.size) ⟨⟨rfl, rfl, hfr, hlo, hC.words hcode, List.mem_cons_self, hC.ts hcode, hC.ts hini, hy, fun sig h => by (rw [h] at hlen; exact (Option.some.inj hlen).symm), hC.ts hlink⟩, hC.ts hinst, hC.ts hsel⟩ ⟨x_blind, va_recv hC.2.1 hP hc he, fun U hU hW => ⟨rfl, hC.start hP hD hS hU hW⟩⟩ rfl hn hl.1 hstk (lv_room hst) hd hf) hS (fun q _ h => hC.free hD hS q h) (hC.free hD hS) (fun q _ h => hC.free hD hS q h) (fun E ce q9 k9 t H1 locs1 ht hvm hp => absurd hp (hno k9)) (fun r u t H1 locs1 ht hvm hw hB hz1 hk1 hS1 => k r u hw H1 locs1 ls (by rw [← ht]; exact hB.1) (hB.2.2.weaken (fun _ q _ h => hC.free hD hS q.1 h)) hS1 hl)
theorem x_callViT (hC : XC p s m args c D cl tys A nL cc TB own) {S : Type} {wf : S → va_W} {Qt : Nat → Prop} {y : MethodName} {bytes : ByteArray} {maxL index : Nat} {ret : Option FieldType} {rm : Room} {post : Int32 → S → Prop} {b q0 ci : Nat} {fs : List Value} {C : String} {TT : u_T} {N : Nat} {QR : Array Value → State → Outcome → State → Prop} {PT : Nat → Prop} {mc2 ms2 : Nat} (hmc : cells + rm.cells ≤ mc2) (hms : slots + rm.slots ≤ ms2) (As : List Value) (hM : ∀ sz : Nat, vx_Met l y (Cond.code y bytes maxL ret :: TB) rm (va_Pc (.ref b :: As) (XP D cl tys ws sz)) (va_Qi post (fun u t => XB D cl tys (va_A ws sz) (wf u) t) (va_A ws sz)) (XT D cl tys (va_A ws sz) ws Qt) rm.cells rm.slots (va_A ws sz)) (hfr : rm.frames + 1 ≤ R.frames) (hlo : 8 + (maxL + 11) + rm.locals ≤ R.locals) (hcode : Cond.code y bytes maxL ret ∈ TB) (hini : Cond.initialized y.cls ∈ TB) (hlink : Cond.methodLink own index y ∈ TB) (hy : (y.cls ≠ "java/lang/invoke/MethodHandle" ∧ y.cls ≠ "java/lang/invoke/VarHandle")) (n : Nat) (hn : As.length = n) (hlen : (parseMethodDescriptor y.desc).map (fun d => d.parameters.length) = some n) (hf : cells + rm.cells ≤ R.cells ∧ slots + rm.slots ≤ R.slots) (hst : (st.map fun v => v.category).sum ≤ 8) (hinst : Cond.instanceMethod y ∈ TB) (hsel : Cond.selects C y y ∈ TB) (he : ws[q0]? = some (b, .inr (ci, fs))) (hc : cl[ci]? = some (C, TT, N)) {st0 : List Value} (hstk : st0 = As.reverse ++ .ref b :: st) (hd : decode cc pc = .ok (.invokevirtual index, 3)) (hlocks : meth.locks = false) (hnh : ∀ x ∈ c.exceptionTable.toList, False) (hT2 : ∀ k, Qt k → PT k) (k : ∀ (r : Int32) (u : S), post r u → XW p l e R s m args below meth c D cl A nL (vx_MQ below QR (XT D cl tys A ws PT) args s mc2 ms2 A) (cells + rm.cells) (slots + rm.slots) (wf u) (pc + 3) lv (.int r :: st)) : XW p l e R s m args below meth c D cl A nL (vx_MQ below QR (XT D cl tys A ws PT) args s mc2 ms2 A) cells slots ws pc lv st0 := by
  intro H locs ls hP hD hS hl
  refine vx_calli (vx_runV (C := C) (bytes := bytes) (maxL := maxL) (ret := ret) (As := As) (rest := st) hC.1 (hM H.size) ⟨⟨rfl, rfl, hfr, hlo, hC.words hcode, List.mem_cons_self, hC.ts hcode, hC.ts hini, hy, fun sig h => by (rw [h] at hlen; exact (Option.some.inj hlen).symm), hC.ts hlink⟩, hC.ts hinst, hC.ts hsel⟩ ⟨x_blind, va_recv hC.2.1 hP hc he, fun U hU hW => ⟨rfl, hC.start hP hD hS hU hW⟩⟩ rfl hn hl.1 hstk (lv_room hst) hd hf) hS (fun q _ h => hC.free hD hS q h) (hC.free hD hS) (fun q _ h => hC.free hD hS q h) (fun E ce q9 k9 t H1 locs1 ht hvm hp hB hz1 hk1 hS1 hce hcv hcl => ?_) (fun r u t H1 locs1 ht hvm hw hB hz1 hk1 hS1 => k r u hw H1 locs1 ls (by rw [← ht]; exact hB.1) (hB.2.2.weaken (fun _ q _ h => hC.free hD hS q.1 h)) hS1 hl)
  obtain ⟨hE, hB1, -, hB3⟩ := hB
  rw [ht] at hB1
  exact vx_out (fun x hx => absurd (hnh x hx) id) hlocks hce hcv hcl (fun t2 ht2 hal2 => ⟨k9, hT2 k9 hp, ⟨hE, by rw [ht2]; exact hB1, va_K.moved hal2 hC.2.1, hB3.weaken (fun _ q _ h => hC.free hD hS q.1 h)⟩, hS1.F ht2⟩) hS1.2.2 hmc hms
theorem x_callSi (hC : XC p s m args c D cl tys A nL cc TB own) {S : Type} {wf : S → va_W} {Qt : Nat → Prop} {y : MethodName} {bytes : ByteArray} {maxL index : Nat} {ret : Option FieldType} {rm : Room} {post : Int32 → S → Prop} (As : List Value) (hM : ∀ sz : Nat, vx_Met l y (Cond.code y bytes maxL ret :: TB) rm (va_Pc As (XP D cl tys ws sz)) (va_Qi post (fun u t => XB D cl tys (va_A ws sz) (wf u) t) (va_A ws sz)) (XT D cl tys (va_A ws sz) ws Qt) rm.cells rm.slots (va_A ws sz)) (hfr : rm.frames + 1 ≤ R.frames) (hlo : 8 + (maxL + 11) + rm.locals ≤ R.locals) (hcode : Cond.code y bytes maxL ret ∈ TB) (hini : Cond.initialized y.cls ∈ TB) (hlink : Cond.methodLink own index y ∈ TB) (hy : (y.cls ≠ "java/lang/invoke/MethodHandle" ∧ y.cls ≠ "java/lang/invoke/VarHandle")) (n : Nat) (hn : As.length = n) (hlen : (parseMethodDescriptor y.desc).map (fun d => d.parameters.length) = some n) (hf : cells + rm.cells ≤ R.cells ∧ slots + rm.slots ≤ R.slots) (hst : (st.map fun v => v.category).sum ≤ 8) (hstat : Cond.static y ∈ TB) {st0 : List Value} (hstk : st0 = As.reverse ++ st) (hd : decode cc pc = .ok (.invokestatic index, 3)) (hno : ∀ k, ¬ Qt k) (k : ∀ (r : Int32) (u : S), post r u → XW p l e R s m args below meth c D cl A nL Q (cells + rm.cells) (slots + rm.slots) (wf u) (pc + 3) lv (.int r :: st)) : XW p l e R s m args below meth c D cl A nL Q cells slots ws pc lv st0 := by
  intro H locs ls hP hD hS hl
  exact vx_calli (vx_runS (bytes := bytes) (maxL := maxL) (ret := ret) (As := As) (rest := st) hC.1 (hM H.size) ⟨⟨rfl, rfl, hfr, hlo, hC.words hcode, List.mem_cons_self, hC.ts hcode, hC.ts hini, hy, fun sig h => by (rw [h] at hlen; exact (Option.some.inj hlen).symm), hC.ts hlink⟩, hC.ts hstat⟩ ⟨x_blind, fun U hU hW => ⟨rfl, hC.start hP hD hS hU hW⟩⟩ rfl hn hl.1 hstk (lv_room hst) hd hf) hS (fun q _ h => hC.free hD hS q h) (hC.free hD hS) (fun q _ h => hC.free hD hS q h) (fun E ce q9 k9 t H1 locs1 ht hvm hp => absurd hp (hno k9)) (fun r u t H1 locs1 ht hvm hw hB hz1 hk1 hS1 => k r u hw H1 locs1 ls (by rw [← ht]; exact hB.1) (hB.2.2.weaken (fun _ q _ h => hC.free hD hS q.1 h)) hS1 hl)
theorem x_callSiT (hC : XC p s m args c D cl tys A nL cc TB own) {S : Type} {wf : S → va_W} {Qt : Nat → Prop} {y : MethodName} {bytes : ByteArray} {maxL index : Nat} {ret : Option FieldType} {rm : Room} {post : Int32 → S → Prop} {QR : Array Value → State → Outcome → State → Prop} {PT : Nat → Prop} {mc2 ms2 : Nat} (hmc : cells + rm.cells ≤ mc2) (hms : slots + rm.slots ≤ ms2) (As : List Value) (hM : ∀ sz : Nat, vx_Met l y (Cond.code y bytes maxL ret :: TB) rm (va_Pc As (XP D cl tys ws sz)) (va_Qi post (fun u t => XB D cl tys (va_A ws sz) (wf u) t) (va_A ws sz)) (XT D cl tys (va_A ws sz) ws Qt) rm.cells rm.slots (va_A ws sz)) (hfr : rm.frames + 1 ≤ R.frames) (hlo : 8 + (maxL + 11) + rm.locals ≤ R.locals) (hcode : Cond.code y bytes maxL ret ∈ TB) (hini : Cond.initialized y.cls ∈ TB) (hlink : Cond.methodLink own index y ∈ TB) (hy : (y.cls ≠ "java/lang/invoke/MethodHandle" ∧ y.cls ≠ "java/lang/invoke/VarHandle")) (n : Nat) (hn : As.length = n) (hlen : (parseMethodDescriptor y.desc).map (fun d => d.parameters.length) = some n) (hf : cells + rm.cells ≤ R.cells ∧ slots + rm.slots ≤ R.slots) (hst : (st.map fun v => v.category).sum ≤ 8) (hstat : Cond.static y ∈ TB) {st0 : List Value} (hstk : st0 = As.reverse ++ st) (hd : decode cc pc = .ok (.invokestatic index, 3)) (hlocks : meth.locks = false) (hnh : ∀ x ∈ c.exceptionTable.toList, False) (hT2 : ∀ k, Qt k → PT k) (k : ∀ (r : Int32) (u : S), post r u → XW p l e R s m args below meth c D cl A nL (vx_MQ below QR (XT D cl tys A ws PT) args s mc2 ms2 A) (cells + rm.cells) (slots + rm.slots) (wf u) (pc + 3) lv (.int r :: st)) : XW p l e R s m args below meth c D cl A nL (vx_MQ below QR (XT D cl tys A ws PT) args s mc2 ms2 A) cells slots ws pc lv st0 := by
  intro H locs ls hP hD hS hl
  refine vx_calli (vx_runS (bytes := bytes) (maxL := maxL) (ret := ret) (As := As) (rest := st) hC.1 (hM H.size) ⟨⟨rfl, rfl, hfr, hlo, hC.words hcode, List.mem_cons_self, hC.ts hcode, hC.ts hini, hy, fun sig h => by (rw [h] at hlen; exact (Option.some.inj hlen).symm), hC.ts hlink⟩, hC.ts hstat⟩ ⟨x_blind, fun U hU hW => ⟨rfl, hC.start hP hD hS hU hW⟩⟩ rfl hn hl.1 hstk (lv_room hst) hd hf) hS (fun q _ h => hC.free hD hS q h) (hC.free hD hS) (fun q _ h => hC.free hD hS q h) (fun E ce q9 k9 t H1 locs1 ht hvm hp hB hz1 hk1 hS1 hce hcv hcl => ?_) (fun r u t H1 locs1 ht hvm hw hB hz1 hk1 hS1 => k r u hw H1 locs1 ls (by rw [← ht]; exact hB.1) (hB.2.2.weaken (fun _ q _ h => hC.free hD hS q.1 h)) hS1 hl)
  obtain ⟨hE, hB1, -, hB3⟩ := hB
  rw [ht] at hB1
  exact vx_out (fun x hx => absurd (hnh x hx) id) hlocks hce hcv hcl (fun t2 ht2 hal2 => ⟨k9, hT2 k9 hp, ⟨hE, by rw [ht2]; exact hB1, va_K.moved hal2 hC.2.1, hB3.weaken (fun _ q _ h => hC.free hD hS q.1 h)⟩, hS1.F ht2⟩) hS1.2.2 hmc hms
theorem x_callVl (hC : XC p s m args c D cl tys A nL cc TB own) {S : Type} {wf : S → va_W} {Qt : Nat → Prop} {y : MethodName} {bytes : ByteArray} {maxL index : Nat} {ret : Option FieldType} {rm : Room} {post : Int64 → S → Prop} {b q0 ci : Nat} {fs : List Value} {C : String} {TT : u_T} {N : Nat} (As : List Value) (hM : ∀ sz : Nat, vx_Met l y (Cond.code y bytes maxL ret :: TB) rm (va_Pc (.ref b :: As) (XP D cl tys ws sz)) (va_Ql post (fun u t => XB D cl tys (va_A ws sz) (wf u) t) (va_A ws sz)) (XT D cl tys (va_A ws sz) ws Qt) rm.cells rm.slots (va_A ws sz)) (hfr : rm.frames + 1 ≤ R.frames) (hlo : 8 + (maxL + 11) + rm.locals ≤ R.locals) (hcode : Cond.code y bytes maxL ret ∈ TB) (hini : Cond.initialized y.cls ∈ TB) (hlink : Cond.methodLink own index y ∈ TB) (hy : (y.cls ≠ "java/lang/invoke/MethodHandle" ∧ y.cls ≠ "java/lang/invoke/VarHandle")) (n : Nat) (hn : As.length = n) (hlen : (parseMethodDescriptor y.desc).map (fun d => d.parameters.length) = some n) (hf : cells + rm.cells ≤ R.cells ∧ slots + rm.slots ≤ R.slots) (hst : (st.map fun v => v.category).sum ≤ 8) (hinst : Cond.instanceMethod y ∈ TB) (hsel : Cond.selects C y y ∈ TB) (he : ws[q0]? = some (b, .inr (ci, fs))) (hc : cl[ci]? = some (C, TT, N)) {st0 : List Value} (hstk : st0 = As.reverse ++ .ref b :: st) (hd : decode cc pc = .ok (.invokevirtual index, 3)) (hno : ∀ k, ¬ Qt k) (k : ∀ (r : Int64) (u : S), post r u → XW p l e R s m args below meth c D cl A nL Q (cells + rm.cells) (slots + rm.slots) (wf u) (pc + 3) lv (.long r :: st)) : XW p l e R s m args below meth c D cl A nL Q cells slots ws pc lv st0 := by
  intro H locs ls hP hD hS hl
  exact vx_calll (vx_runV (C := C) (bytes := bytes) (maxL := maxL) (ret := ret) (As := As) (rest := st) hC.1 (hM H.size) ⟨⟨rfl, rfl, hfr, hlo, hC.words hcode, List.mem_cons_self, hC.ts hcode, hC.ts hini, hy, fun sig h => by (rw [h] at hlen; exact (Option.some.inj hlen).symm), hC.ts hlink⟩, hC.ts hinst, hC.ts hsel⟩ ⟨x_blind, va_recv hC.2.1 hP hc he, fun U hU hW => ⟨rfl, hC.start hP hD hS hU hW⟩⟩ rfl hn hl.1 hstk (lv_room hst) hd hf) hS (fun q _ h => hC.free hD hS q h) (hC.free hD hS) (fun q _ h => hC.free hD hS q h) (fun E ce q9 k9 t H1 locs1 ht hvm hp => absurd hp (hno k9)) (fun r u t H1 locs1 ht hvm hw hB hz1 hk1 hS1 => k r u hw H1 locs1 ls (by rw [← ht]; exact hB.1) (hB.2.2.weaken (fun _ q _ h => hC.free hD hS q.1 h)) hS1 hl)
theorem x_callVlT (hC : XC p s m args c D cl tys A nL cc TB own) {S : Type} {wf : S → va_W} {Qt : Nat → Prop} {y : MethodName} {bytes : ByteArray} {maxL index : Nat} {ret : Option FieldType} {rm : Room} {post : Int64 → S → Prop} {b q0 ci : Nat} {fs : List Value} {C : String} {TT : u_T} {N : Nat} {QR : Array Value → State → Outcome → State → Prop} {PT : Nat → Prop} {mc2 ms2 : Nat} (hmc : cells + rm.cells ≤ mc2) (hms : slots + rm.slots ≤ ms2) (As : List Value) (hM : ∀ sz : Nat, vx_Met l y (Cond.code y bytes maxL ret :: TB) rm (va_Pc (.ref b :: As) (XP D cl tys ws sz)) (va_Ql post (fun u t => XB D cl tys (va_A ws sz) (wf u) t) (va_A ws sz)) (XT D cl tys (va_A ws sz) ws Qt) rm.cells rm.slots (va_A ws sz)) (hfr : rm.frames + 1 ≤ R.frames) (hlo : 8 + (maxL + 11) + rm.locals ≤ R.locals) (hcode : Cond.code y bytes maxL ret ∈ TB) (hini : Cond.initialized y.cls ∈ TB) (hlink : Cond.methodLink own index y ∈ TB) (hy : (y.cls ≠ "java/lang/invoke/MethodHandle" ∧ y.cls ≠ "java/lang/invoke/VarHandle")) (n : Nat) (hn : As.length = n) (hlen : (parseMethodDescriptor y.desc).map (fun d => d.parameters.length) = some n) (hf : cells + rm.cells ≤ R.cells ∧ slots + rm.slots ≤ R.slots) (hst : (st.map fun v => v.category).sum ≤ 8) (hinst : Cond.instanceMethod y ∈ TB) (hsel : Cond.selects C y y ∈ TB) (he : ws[q0]? = some (b, .inr (ci, fs))) (hc : cl[ci]? = some (C, TT, N)) {st0 : List Value} (hstk : st0 = As.reverse ++ .ref b :: st) (hd : decode cc pc = .ok (.invokevirtual index, 3)) (hlocks : meth.locks = false) (hnh : ∀ x ∈ c.exceptionTable.toList, False) (hT2 : ∀ k, Qt k → PT k) (k : ∀ (r : Int64) (u : S), post r u → XW p l e R s m args below meth c D cl A nL (vx_MQ below QR (XT D cl tys A ws PT) args s mc2 ms2 A) (cells + rm.cells) (slots + rm.slots) (wf u) (pc + 3) lv (.long r :: st)) : XW p l e R s m args below meth c D cl A nL (vx_MQ below QR (XT D cl tys A ws PT) args s mc2 ms2 A) cells slots ws pc lv st0 := by
  intro H locs ls hP hD hS hl
  refine vx_calll (vx_runV (C := C) (bytes := bytes) (maxL := maxL) (ret := ret) (As := As) (rest := st) hC.1 (hM H.size) ⟨⟨rfl, rfl, hfr, hlo, hC.words hcode, List.mem_cons_self, hC.ts hcode, hC.ts hini, hy, fun sig h => by (rw [h] at hlen; exact (Option.some.inj hlen).symm), hC.ts hlink⟩, hC.ts hinst, hC.ts hsel⟩ ⟨x_blind, va_recv hC.2.1 hP hc he, fun U hU hW => ⟨rfl, hC.start hP hD hS hU hW⟩⟩ rfl hn hl.1 hstk (lv_room hst) hd hf) hS (fun q _ h => hC.free hD hS q h) (hC.free hD hS) (fun q _ h => hC.free hD hS q h) (fun E ce q9 k9 t H1 locs1 ht hvm hp hB hz1 hk1 hS1 hce hcv hcl => ?_) (fun r u t H1 locs1 ht hvm hw hB hz1 hk1 hS1 => k r u hw H1 locs1 ls (by rw [← ht]; exact hB.1) (hB.2.2.weaken (fun _ q _ h => hC.free hD hS q.1 h)) hS1 hl)
  obtain ⟨hE, hB1, -, hB3⟩ := hB
  rw [ht] at hB1
  exact vx_out (fun x hx => absurd (hnh x hx) id) hlocks hce hcv hcl (fun t2 ht2 hal2 => ⟨k9, hT2 k9 hp, ⟨hE, by rw [ht2]; exact hB1, va_K.moved hal2 hC.2.1, hB3.weaken (fun _ q _ h => hC.free hD hS q.1 h)⟩, hS1.F ht2⟩) hS1.2.2 hmc hms
theorem x_callSl (hC : XC p s m args c D cl tys A nL cc TB own) {S : Type} {wf : S → va_W} {Qt : Nat → Prop} {y : MethodName} {bytes : ByteArray} {maxL index : Nat} {ret : Option FieldType} {rm : Room} {post : Int64 → S → Prop} (As : List Value) (hM : ∀ sz : Nat, vx_Met l y (Cond.code y bytes maxL ret :: TB) rm (va_Pc As (XP D cl tys ws sz)) (va_Ql post (fun u t => XB D cl tys (va_A ws sz) (wf u) t) (va_A ws sz)) (XT D cl tys (va_A ws sz) ws Qt) rm.cells rm.slots (va_A ws sz)) (hfr : rm.frames + 1 ≤ R.frames) (hlo : 8 + (maxL + 11) + rm.locals ≤ R.locals) (hcode : Cond.code y bytes maxL ret ∈ TB) (hini : Cond.initialized y.cls ∈ TB) (hlink : Cond.methodLink own index y ∈ TB) (hy : (y.cls ≠ "java/lang/invoke/MethodHandle" ∧ y.cls ≠ "java/lang/invoke/VarHandle")) (n : Nat) (hn : As.length = n) (hlen : (parseMethodDescriptor y.desc).map (fun d => d.parameters.length) = some n) (hf : cells + rm.cells ≤ R.cells ∧ slots + rm.slots ≤ R.slots) (hst : (st.map fun v => v.category).sum ≤ 8) (hstat : Cond.static y ∈ TB) {st0 : List Value} (hstk : st0 = As.reverse ++ st) (hd : decode cc pc = .ok (.invokestatic index, 3)) (hno : ∀ k, ¬ Qt k) (k : ∀ (r : Int64) (u : S), post r u → XW p l e R s m args below meth c D cl A nL Q (cells + rm.cells) (slots + rm.slots) (wf u) (pc + 3) lv (.long r :: st)) : XW p l e R s m args below meth c D cl A nL Q cells slots ws pc lv st0 := by
  intro H locs ls hP hD hS hl
  exact vx_calll (vx_runS (bytes := bytes) (maxL := maxL) (ret := ret) (As := As) (rest := st) hC.1 (hM H.size) ⟨⟨rfl, rfl, hfr, hlo, hC.words hcode, List.mem_cons_self, hC.ts hcode, hC.ts hini, hy, fun sig h => by (rw [h] at hlen; exact (Option.some.inj hlen).symm), hC.ts hlink⟩, hC.ts hstat⟩ ⟨x_blind, fun U hU hW => ⟨rfl, hC.start hP hD hS hU hW⟩⟩ rfl hn hl.1 hstk (lv_room hst) hd hf) hS (fun q _ h => hC.free hD hS q h) (hC.free hD hS) (fun q _ h => hC.free hD hS q h) (fun E ce q9 k9 t H1 locs1 ht hvm hp => absurd hp (hno k9)) (fun r u t H1 locs1 ht hvm hw hB hz1 hk1 hS1 => k r u hw H1 locs1 ls (by rw [← ht]; exact hB.1) (hB.2.2.weaken (fun _ q _ h => hC.free hD hS q.1 h)) hS1 hl)
theorem x_callSlT (hC : XC p s m args c D cl tys A nL cc TB own) {S : Type} {wf : S → va_W} {Qt : Nat → Prop} {y : MethodName} {bytes : ByteArray} {maxL index : Nat} {ret : Option FieldType} {rm : Room} {post : Int64 → S → Prop} {QR : Array Value → State → Outcome → State → Prop} {PT : Nat → Prop} {mc2 ms2 : Nat} (hmc : cells + rm.cells ≤ mc2) (hms : slots + rm.slots ≤ ms2) (As : List Value) (hM : ∀ sz : Nat, vx_Met l y (Cond.code y bytes maxL ret :: TB) rm (va_Pc As (XP D cl tys ws sz)) (va_Ql post (fun u t => XB D cl tys (va_A ws sz) (wf u) t) (va_A ws sz)) (XT D cl tys (va_A ws sz) ws Qt) rm.cells rm.slots (va_A ws sz)) (hfr : rm.frames + 1 ≤ R.frames) (hlo : 8 + (maxL + 11) + rm.locals ≤ R.locals) (hcode : Cond.code y bytes maxL ret ∈ TB) (hini : Cond.initialized y.cls ∈ TB) (hlink : Cond.methodLink own index y ∈ TB) (hy : (y.cls ≠ "java/lang/invoke/MethodHandle" ∧ y.cls ≠ "java/lang/invoke/VarHandle")) (n : Nat) (hn : As.length = n) (hlen : (parseMethodDescriptor y.desc).map (fun d => d.parameters.length) = some n) (hf : cells + rm.cells ≤ R.cells ∧ slots + rm.slots ≤ R.slots) (hst : (st.map fun v => v.category).sum ≤ 8) (hstat : Cond.static y ∈ TB) {st0 : List Value} (hstk : st0 = As.reverse ++ st) (hd : decode cc pc = .ok (.invokestatic index, 3)) (hlocks : meth.locks = false) (hnh : ∀ x ∈ c.exceptionTable.toList, False) (hT2 : ∀ k, Qt k → PT k) (k : ∀ (r : Int64) (u : S), post r u → XW p l e R s m args below meth c D cl A nL (vx_MQ below QR (XT D cl tys A ws PT) args s mc2 ms2 A) (cells + rm.cells) (slots + rm.slots) (wf u) (pc + 3) lv (.long r :: st)) : XW p l e R s m args below meth c D cl A nL (vx_MQ below QR (XT D cl tys A ws PT) args s mc2 ms2 A) cells slots ws pc lv st0 := by
  intro H locs ls hP hD hS hl
  refine vx_calll (vx_runS (bytes := bytes) (maxL := maxL) (ret := ret) (As := As) (rest := st) hC.1 (hM H.size) ⟨⟨rfl, rfl, hfr, hlo, hC.words hcode, List.mem_cons_self, hC.ts hcode, hC.ts hini, hy, fun sig h => by (rw [h] at hlen; exact (Option.some.inj hlen).symm), hC.ts hlink⟩, hC.ts hstat⟩ ⟨x_blind, fun U hU hW => ⟨rfl, hC.start hP hD hS hU hW⟩⟩ rfl hn hl.1 hstk (lv_room hst) hd hf) hS (fun q _ h => hC.free hD hS q h) (hC.free hD hS) (fun q _ h => hC.free hD hS q h) (fun E ce q9 k9 t H1 locs1 ht hvm hp hB hz1 hk1 hS1 hce hcv hcl => ?_) (fun r u t H1 locs1 ht hvm hw hB hz1 hk1 hS1 => k r u hw H1 locs1 ls (by rw [← ht]; exact hB.1) (hB.2.2.weaken (fun _ q _ h => hC.free hD hS q.1 h)) hS1 hl)
  obtain ⟨hE, hB1, -, hB3⟩ := hB
  rw [ht] at hB1
  exact vx_out (fun x hx => absurd (hnh x hx) id) hlocks hce hcv hcl (fun t2 ht2 hal2 => ⟨k9, hT2 k9 hp, ⟨hE, by rw [ht2]; exact hB1, va_K.moved hal2 hC.2.1, hB3.weaken (fun _ q _ h => hC.free hD hS q.1 h)⟩, hS1.F ht2⟩) hS1.2.2 hmc hms
theorem x_callVv (hC : XC p s m args c D cl tys A nL cc TB own) {S : Type} {wf : S → va_W} {Qt : Nat → Prop} {y : MethodName} {bytes : ByteArray} {maxL index : Nat} {ret : Option FieldType} {rm : Room} {post : S → Prop} {b q0 ci : Nat} {fs : List Value} {C : String} {TT : u_T} {N : Nat} (As : List Value) (hM : ∀ sz : Nat, vx_Met l y (Cond.code y bytes maxL ret :: TB) rm (va_Pc (.ref b :: As) (XP D cl tys ws sz)) (va_Qv post (fun u t => XB D cl tys (va_A ws sz) (wf u) t) (va_A ws sz)) (XT D cl tys (va_A ws sz) ws Qt) rm.cells rm.slots (va_A ws sz)) (hfr : rm.frames + 1 ≤ R.frames) (hlo : 8 + (maxL + 11) + rm.locals ≤ R.locals) (hcode : Cond.code y bytes maxL ret ∈ TB) (hini : Cond.initialized y.cls ∈ TB) (hlink : Cond.methodLink own index y ∈ TB) (hy : (y.cls ≠ "java/lang/invoke/MethodHandle" ∧ y.cls ≠ "java/lang/invoke/VarHandle")) (n : Nat) (hn : As.length = n) (hlen : (parseMethodDescriptor y.desc).map (fun d => d.parameters.length) = some n) (hf : cells + rm.cells ≤ R.cells ∧ slots + rm.slots ≤ R.slots) (hst : (st.map fun v => v.category).sum ≤ 8) (hinst : Cond.instanceMethod y ∈ TB) (hsel : Cond.selects C y y ∈ TB) (he : ws[q0]? = some (b, .inr (ci, fs))) (hc : cl[ci]? = some (C, TT, N)) {st0 : List Value} (hstk : st0 = As.reverse ++ .ref b :: st) (hd : decode cc pc = .ok (.invokevirtual index, 3)) (hno : ∀ k, ¬ Qt k) (k : ∀ (u : S), post u → XW p l e R s m args below meth c D cl A nL Q (cells + rm.cells) (slots + rm.slots) (wf u) (pc + 3) lv (st)) : XW p l e R s m args below meth c D cl A nL Q cells slots ws pc lv st0 := by
  intro H locs ls hP hD hS hl
  exact vx_callv (vx_runV (C := C) (bytes := bytes) (maxL := maxL) (ret := ret) (As := As) (rest := st) hC.1 (hM H.size) ⟨⟨rfl, rfl, hfr, hlo, hC.words hcode, List.mem_cons_self, hC.ts hcode, hC.ts hini, hy, fun sig h => by (rw [h] at hlen; exact (Option.some.inj hlen).symm), hC.ts hlink⟩, hC.ts hinst, hC.ts hsel⟩ ⟨x_blind, va_recv hC.2.1 hP hc he, fun U hU hW => ⟨rfl, hC.start hP hD hS hU hW⟩⟩ rfl hn hl.1 hstk (lv_room hst) hd hf) hS (fun q _ h => hC.free hD hS q h) (hC.free hD hS) (fun q _ h => hC.free hD hS q h) (fun E ce q9 k9 t H1 locs1 ht hvm hp => absurd hp (hno k9)) (fun u t H1 locs1 ht hvm hw hB hz1 hk1 hS1 => k u hw H1 locs1 ls (by rw [← ht]; exact hB.1) (hB.2.2.weaken (fun _ q _ h => hC.free hD hS q.1 h)) hS1 hl)
theorem x_callVvT (hC : XC p s m args c D cl tys A nL cc TB own) {S : Type} {wf : S → va_W} {Qt : Nat → Prop} {y : MethodName} {bytes : ByteArray} {maxL index : Nat} {ret : Option FieldType} {rm : Room} {post : S → Prop} {b q0 ci : Nat} {fs : List Value} {C : String} {TT : u_T} {N : Nat} {QR : Array Value → State → Outcome → State → Prop} {PT : Nat → Prop} {mc2 ms2 : Nat} (hmc : cells + rm.cells ≤ mc2) (hms : slots + rm.slots ≤ ms2) (As : List Value) (hM : ∀ sz : Nat, vx_Met l y (Cond.code y bytes maxL ret :: TB) rm (va_Pc (.ref b :: As) (XP D cl tys ws sz)) (va_Qv post (fun u t => XB D cl tys (va_A ws sz) (wf u) t) (va_A ws sz)) (XT D cl tys (va_A ws sz) ws Qt) rm.cells rm.slots (va_A ws sz)) (hfr : rm.frames + 1 ≤ R.frames) (hlo : 8 + (maxL + 11) + rm.locals ≤ R.locals) (hcode : Cond.code y bytes maxL ret ∈ TB) (hini : Cond.initialized y.cls ∈ TB) (hlink : Cond.methodLink own index y ∈ TB) (hy : (y.cls ≠ "java/lang/invoke/MethodHandle" ∧ y.cls ≠ "java/lang/invoke/VarHandle")) (n : Nat) (hn : As.length = n) (hlen : (parseMethodDescriptor y.desc).map (fun d => d.parameters.length) = some n) (hf : cells + rm.cells ≤ R.cells ∧ slots + rm.slots ≤ R.slots) (hst : (st.map fun v => v.category).sum ≤ 8) (hinst : Cond.instanceMethod y ∈ TB) (hsel : Cond.selects C y y ∈ TB) (he : ws[q0]? = some (b, .inr (ci, fs))) (hc : cl[ci]? = some (C, TT, N)) {st0 : List Value} (hstk : st0 = As.reverse ++ .ref b :: st) (hd : decode cc pc = .ok (.invokevirtual index, 3)) (hlocks : meth.locks = false) (hnh : ∀ x ∈ c.exceptionTable.toList, False) (hT2 : ∀ k, Qt k → PT k) (k : ∀ (u : S), post u → XW p l e R s m args below meth c D cl A nL (vx_MQ below QR (XT D cl tys A ws PT) args s mc2 ms2 A) (cells + rm.cells) (slots + rm.slots) (wf u) (pc + 3) lv (st)) : XW p l e R s m args below meth c D cl A nL (vx_MQ below QR (XT D cl tys A ws PT) args s mc2 ms2 A) cells slots ws pc lv st0 := by
  intro H locs ls hP hD hS hl
  refine vx_callv (vx_runV (C := C) (bytes := bytes) (maxL := maxL) (ret := ret) (As := As) (rest := st) hC.1 (hM H.size) ⟨⟨rfl, rfl, hfr, hlo, hC.words hcode, List.mem_cons_self, hC.ts hcode, hC.ts hini, hy, fun sig h => by (rw [h] at hlen; exact (Option.some.inj hlen).symm), hC.ts hlink⟩, hC.ts hinst, hC.ts hsel⟩ ⟨x_blind, va_recv hC.2.1 hP hc he, fun U hU hW => ⟨rfl, hC.start hP hD hS hU hW⟩⟩ rfl hn hl.1 hstk (lv_room hst) hd hf) hS (fun q _ h => hC.free hD hS q h) (hC.free hD hS) (fun q _ h => hC.free hD hS q h) (fun E ce q9 k9 t H1 locs1 ht hvm hp hB hz1 hk1 hS1 hce hcv hcl => ?_) (fun u t H1 locs1 ht hvm hw hB hz1 hk1 hS1 => k u hw H1 locs1 ls (by rw [← ht]; exact hB.1) (hB.2.2.weaken (fun _ q _ h => hC.free hD hS q.1 h)) hS1 hl)
  obtain ⟨hE, hB1, -, hB3⟩ := hB
  rw [ht] at hB1
  exact vx_out (fun x hx => absurd (hnh x hx) id) hlocks hce hcv hcl (fun t2 ht2 hal2 => ⟨k9, hT2 k9 hp, ⟨hE, by rw [ht2]; exact hB1, va_K.moved hal2 hC.2.1, hB3.weaken (fun _ q _ h => hC.free hD hS q.1 h)⟩, hS1.F ht2⟩) hS1.2.2 hmc hms
theorem x_callSv (hC : XC p s m args c D cl tys A nL cc TB own) {S : Type} {wf : S → va_W} {Qt : Nat → Prop} {y : MethodName} {bytes : ByteArray} {maxL index : Nat} {ret : Option FieldType} {rm : Room} {post : S → Prop} (As : List Value) (hM : ∀ sz : Nat, vx_Met l y (Cond.code y bytes maxL ret :: TB) rm (va_Pc As (XP D cl tys ws sz)) (va_Qv post (fun u t => XB D cl tys (va_A ws sz) (wf u) t) (va_A ws sz)) (XT D cl tys (va_A ws sz) ws Qt) rm.cells rm.slots (va_A ws sz)) (hfr : rm.frames + 1 ≤ R.frames) (hlo : 8 + (maxL + 11) + rm.locals ≤ R.locals) (hcode : Cond.code y bytes maxL ret ∈ TB) (hini : Cond.initialized y.cls ∈ TB) (hlink : Cond.methodLink own index y ∈ TB) (hy : (y.cls ≠ "java/lang/invoke/MethodHandle" ∧ y.cls ≠ "java/lang/invoke/VarHandle")) (n : Nat) (hn : As.length = n) (hlen : (parseMethodDescriptor y.desc).map (fun d => d.parameters.length) = some n) (hf : cells + rm.cells ≤ R.cells ∧ slots + rm.slots ≤ R.slots) (hst : (st.map fun v => v.category).sum ≤ 8) (hstat : Cond.static y ∈ TB) {st0 : List Value} (hstk : st0 = As.reverse ++ st) (hd : decode cc pc = .ok (.invokestatic index, 3)) (hno : ∀ k, ¬ Qt k) (k : ∀ (u : S), post u → XW p l e R s m args below meth c D cl A nL Q (cells + rm.cells) (slots + rm.slots) (wf u) (pc + 3) lv (st)) : XW p l e R s m args below meth c D cl A nL Q cells slots ws pc lv st0 := by
  intro H locs ls hP hD hS hl
  exact vx_callv (vx_runS (bytes := bytes) (maxL := maxL) (ret := ret) (As := As) (rest := st) hC.1 (hM H.size) ⟨⟨rfl, rfl, hfr, hlo, hC.words hcode, List.mem_cons_self, hC.ts hcode, hC.ts hini, hy, fun sig h => by (rw [h] at hlen; exact (Option.some.inj hlen).symm), hC.ts hlink⟩, hC.ts hstat⟩ ⟨x_blind, fun U hU hW => ⟨rfl, hC.start hP hD hS hU hW⟩⟩ rfl hn hl.1 hstk (lv_room hst) hd hf) hS (fun q _ h => hC.free hD hS q h) (hC.free hD hS) (fun q _ h => hC.free hD hS q h) (fun E ce q9 k9 t H1 locs1 ht hvm hp => absurd hp (hno k9)) (fun u t H1 locs1 ht hvm hw hB hz1 hk1 hS1 => k u hw H1 locs1 ls (by rw [← ht]; exact hB.1) (hB.2.2.weaken (fun _ q _ h => hC.free hD hS q.1 h)) hS1 hl)
theorem x_callSvT (hC : XC p s m args c D cl tys A nL cc TB own) {S : Type} {wf : S → va_W} {Qt : Nat → Prop} {y : MethodName} {bytes : ByteArray} {maxL index : Nat} {ret : Option FieldType} {rm : Room} {post : S → Prop} {QR : Array Value → State → Outcome → State → Prop} {PT : Nat → Prop} {mc2 ms2 : Nat} (hmc : cells + rm.cells ≤ mc2) (hms : slots + rm.slots ≤ ms2) (As : List Value) (hM : ∀ sz : Nat, vx_Met l y (Cond.code y bytes maxL ret :: TB) rm (va_Pc As (XP D cl tys ws sz)) (va_Qv post (fun u t => XB D cl tys (va_A ws sz) (wf u) t) (va_A ws sz)) (XT D cl tys (va_A ws sz) ws Qt) rm.cells rm.slots (va_A ws sz)) (hfr : rm.frames + 1 ≤ R.frames) (hlo : 8 + (maxL + 11) + rm.locals ≤ R.locals) (hcode : Cond.code y bytes maxL ret ∈ TB) (hini : Cond.initialized y.cls ∈ TB) (hlink : Cond.methodLink own index y ∈ TB) (hy : (y.cls ≠ "java/lang/invoke/MethodHandle" ∧ y.cls ≠ "java/lang/invoke/VarHandle")) (n : Nat) (hn : As.length = n) (hlen : (parseMethodDescriptor y.desc).map (fun d => d.parameters.length) = some n) (hf : cells + rm.cells ≤ R.cells ∧ slots + rm.slots ≤ R.slots) (hst : (st.map fun v => v.category).sum ≤ 8) (hstat : Cond.static y ∈ TB) {st0 : List Value} (hstk : st0 = As.reverse ++ st) (hd : decode cc pc = .ok (.invokestatic index, 3)) (hlocks : meth.locks = false) (hnh : ∀ x ∈ c.exceptionTable.toList, False) (hT2 : ∀ k, Qt k → PT k) (k : ∀ (u : S), post u → XW p l e R s m args below meth c D cl A nL (vx_MQ below QR (XT D cl tys A ws PT) args s mc2 ms2 A) (cells + rm.cells) (slots + rm.slots) (wf u) (pc + 3) lv (st)) : XW p l e R s m args below meth c D cl A nL (vx_MQ below QR (XT D cl tys A ws PT) args s mc2 ms2 A) cells slots ws pc lv st0 := by
  intro H locs ls hP hD hS hl
  refine vx_callv (vx_runS (bytes := bytes) (maxL := maxL) (ret := ret) (As := As) (rest := st) hC.1 (hM H.size) ⟨⟨rfl, rfl, hfr, hlo, hC.words hcode, List.mem_cons_self, hC.ts hcode, hC.ts hini, hy, fun sig h => by (rw [h] at hlen; exact (Option.some.inj hlen).symm), hC.ts hlink⟩, hC.ts hstat⟩ ⟨x_blind, fun U hU hW => ⟨rfl, hC.start hP hD hS hU hW⟩⟩ rfl hn hl.1 hstk (lv_room hst) hd hf) hS (fun q _ h => hC.free hD hS q h) (hC.free hD hS) (fun q _ h => hC.free hD hS q h) (fun E ce q9 k9 t H1 locs1 ht hvm hp hB hz1 hk1 hS1 hce hcv hcl => ?_) (fun u t H1 locs1 ht hvm hw hB hz1 hk1 hS1 => k u hw H1 locs1 ls (by rw [← ht]; exact hB.1) (hB.2.2.weaken (fun _ q _ h => hC.free hD hS q.1 h)) hS1 hl)
  obtain ⟨hE, hB1, -, hB3⟩ := hB
  rw [ht] at hB1
  exact vx_out (fun x hx => absurd (hnh x hx) id) hlocks hce hcv hcl (fun t2 ht2 hal2 => ⟨k9, hT2 k9 hp, ⟨hE, by rw [ht2]; exact hB1, va_K.moved hal2 hC.2.1, hB3.weaken (fun _ q _ h => hC.free hD hS q.1 h)⟩, hS1.F ht2⟩) hS1.2.2 hmc hms
theorem x_throw (hC : XC p s m args c D cl tys A nL cc TB own) {QR : Array Value → State → Outcome → State → Prop} {PT : Nat → Prop} {mc2 ms2 i1 i2 i3 : Nat} {cls tx : String} {names : List String} (kx : Nat) (hk : x_ex kx = cls) (htr : l.stackTraces = false) (hlocks : meth.locks = false) (hnh : ∀ x ∈ c.exceptionTable.toList, False)
    (d0 : decode cc pc = .ok (.new i1, 3)) (d1 : decode cc (pc + 3) = .ok (.dup, 1)) (d2 : decode cc (pc + 4) = .ok (.ldc i2, 2)) (d3 : decode cc (pc + 6) = .ok (.invokespecial i3, 3)) (d4 : decode cc (pc + 9) = .ok (.athrow, 1))
    (hcl : Cond.classLink own i1 cls ∈ TB) (hini : Cond.initialized cls ∈ TB) (hfc : Bundle.fit cls = true) (hfn : ∀ n ∈ names, Bundle.fit n = true) (hat : ∀ a ∈ vx_atS own i3 cls names, a ∈ TBX) (hgood : ∀ w ∈ Cond.classLink own i1 cls :: Cond.initialized cls :: vx_atS own i3 cls names, vx_ot w = true) (hstr : (own, i2, tx) ∈ x_strs)
    (hfr : names.length + 3 < R.frames) (hlo : 13 * (names.length + 1) + 43 ≤ R.locals) (hf : cells + 1 ≤ R.cells ∧ slots + 6 ≤ R.slots) (hmc : cells + 1 ≤ mc2) (hms : slots + 6 ≤ ms2) (hp : PT kx) :
    XW p l e R s m args below meth c D cl A nL (vx_MQ below QR (XT D cl tys A ws PT) args s mc2 ms2 A) cells slots ws pc lv [] := by
  intro H locs ls hP hD hS hl
  obtain ⟨sa, hsa⟩ := hC.2.2.2.2.2.2.2 _ hstr
  refine vx_throwS hC.1.1 hC.1.2.1 htr hC.1.2.2.2.1 hfc hfn (hC.ts hcl) (hC.ts hini) hsa (fun a ha => TBX_at (hat a ha) (State.WarmedH.refl s) (hC.2.2.2.2.2.2.1 a (hat a ha))) hgood hC.2.2.2.2.1 hC.2.2.2.2.2.1 hS (hl.1.trans hC.1.2.2.1.symm) d0 d1 d2 d3 d4 (fun x hx => absurd (hnh x hx) id) hfr (by show 0 + _ ≤ _; omega) hf.1 hf.2 hlocks (fun t hal hz hk9 => ⟨kx, hp, ⟨hk.symm, ?_, va_K.moved hal hC.2.1, hD⟩, ?_, ?_⟩) hS.2.2 hmc hms
  · exact hP.kept (fun k q h => hk9 q.1 ((hP k q h).lt))
  · exact Nat.le_trans hS.1 hz
  · intro q h1 h2
    rw [hk9 q (Nat.lt_of_lt_of_le h1 hS.1)]
    exact hS.2.1 q h1 h2
theorem x_met {y : MethodName} {bytes : ByteArray} {maxL sz mc ms : Nat} {ret : Option FieldType} {rm : Room} {Qc : Array Value → State → Outcome → State → Prop} {XQ : String → State → State → Prop} {free : Nat → Prop} (av : List Value) (hG : GoodIn TB TB) (hy : plainName y.cls = true) (hle : (lg_sl av).length ≤ maxL)
    (body : ∀ (p : Program) (e : Env) (s : State) (m : MethodId) (args : Array Value) (below : List Frame) (meth : Method) (c : Code), XC p s m args c D cl tys (va_A ws sz) maxL bytes TB y.cls → meth.sig.returnType = ret → meth.locks = false → meth.name = y.name → (∀ x ∈ c.exceptionTable.toList, False) → XW p l e rm s m args below meth c D cl (va_A ws sz) maxL (vx_MQ below Qc XQ args s mc ms free) 0 0 ws 0 (lv_args 0 av) []) :
    vx_Met l y (Cond.code y bytes maxL ret :: TB) rm (va_Pc av (XP D cl tys ws sz)) Qc XQ mc ms free := by
  refine vx_ofW (cc := bytes) (maxL := maxL) (ret := ret) hy rfl ?_
  intro p e s m args below meth c s₁ B hml hnh hv
  obtain ⟨rfl, hsz, hP, hK, hD0, hE⟩ := hv
  have hts := atoms_spec (ws := Cond.code y bytes maxL ret :: TB) B.pre
  have hD := hD0.self (sz := sz)
  have hl := lv_entry av (n := maxL) hle
  rw [lg_entry_eq]
  exact body p e s m av.toArray below meth c ⟨⟨B.exec, B.bytes, hml, findClass_of_methodNamed B.named, fun w hw => hts w (List.mem_cons_of_mem _ hw)⟩, hK, fun q h => Or.inr (by omega), hG, hE⟩ B.returns B.notSynchronized (name_of_methodNamed B.named B.method).1 hnh s.heap [] _ hP hD va_S.rf hl
end XR
end
section
def RX : String := "EventOrder"
def TX : u_T := fun k => match k with
  | 0 => ("EventOrder", "events", "LEventOrder$Events;", true)
  | 1 => ("EventOrder", "needs", "LEventOrder$Needs;", true)
  | 2 => ("EventOrder", "limits", "LEventOrder$Limits;", true)
  | 3 => ("EventOrder", "told", "LEventOrder$Ring;", true)
  | 4 => ("EventOrder", "timeline", "LEventOrder$Timeline;", true)
  | 5 => ("EventOrder", "sourceCount", "I", false)
  | _ => ("EventOrder", "settled", "Z", false)
def tX : Nat → FieldType := fun k => match k with
  | 0 => .object "EventOrder$Events"
  | 1 => .object "EventOrder$Needs"
  | 2 => .object "EventOrder$Limits"
  | 3 => .object "EventOrder$Ring"
  | 4 => .object "EventOrder$Timeline"
  | 5 => .int
  | _ => .boolean
theorem nX : ∀ a, a < 7 → ∀ b, b < 7 → a ≠ b → (TX a).2.1 ≠ (TX b).2.1 := by decide +kernel
theorem tX_ok : ∀ k, k < 7 → parseFieldDescriptor (TX k).2.2.1 = some (tX k) := by decide +kernel
theorem iX : ∀ w ∈ u_ws RX TX 7, w ∈ TBL := fun w h => TBL_in ((by decide +kernel : ∀ w ∈ u_ws RX TX 7, w ∈ lw_tbl) w h) ((by decide +kernel : ∀ w ∈ u_ws RX TX 7, goodWord w = true) w h)
abbrev bX_init : ByteArray := prog_1_method_1_code
def yX_init : MethodName := ⟨RX, "<init>", "()V"⟩
abbrev bX_source : ByteArray := prog_1_method_2_code
def yX_source : MethodName := ⟨RX, "source", "()I"⟩
abbrev bX_event : ByteArray := prog_1_method_3_code
def yX_event : MethodName := ⟨RX, "event", "(IIIIJ)I"⟩
abbrev bX_need : ByteArray := prog_1_method_4_code
def yX_need : MethodName := ⟨RX, "need", "(II)I"⟩
abbrev bX_settle : ByteArray := prog_1_method_5_code
def yX_settle : MethodName := ⟨RX, "settle", "()I"⟩
abbrev bX_ring : ByteArray := prog_1_method_6_code
def yX_ring : MethodName := ⟨RX, "ring", "(I)I"⟩
abbrev bX_offset : ByteArray := prog_1_method_7_code
def yX_offset : MethodName := ⟨RX, "offset", "(I)J"⟩
abbrev bX_bound : ByteArray := prog_1_method_8_code
def yX_bound : MethodName := ⟨RX, "bound", "(II)J"⟩
abbrev bX_corrected : ByteArray := prog_1_method_9_code
def yX_corrected : MethodName := ⟨RX, "corrected", "(I)J"⟩
abbrev bX_ordered : ByteArray := prog_1_method_10_code
def yX_ordered : MethodName := ⟨RX, "ordered", "(II)I"⟩
abbrev bX_implied : ByteArray := prog_1_method_11_code
def yX_implied : MethodName := ⟨RX, "implied", "(II)I"⟩
abbrev bX_correct : ByteArray := prog_1_method_12_code
def yX_correct : MethodName := ⟨RX, "correct", "(IJ)I"⟩
abbrev bX_ask : ByteArray := prog_1_method_13_code
def yX_ask : MethodName := ⟨RX, "ask", "(II)I"⟩
abbrev bX_checkSource : ByteArray := prog_1_method_14_code
def yX_checkSource : MethodName := ⟨RX, "checkSource", "(I)V"⟩
abbrev bX_checkEvent : ByteArray := prog_1_method_15_code
def yX_checkEvent : MethodName := ⟨RX, "checkEvent", "(I)V"⟩
abbrev bX_checkSettled : ByteArray := prog_1_method_16_code
def yX_checkSettled : MethodName := ⟨RX, "checkSettled", "()V"⟩
abbrev bX_checkItem : ByteArray := prog_1_method_17_code
def yX_checkItem : MethodName := ⟨RX, "checkItem", "(I)V"⟩
abbrev bX_checkKindAndPlace : ByteArray := prog_1_method_18_code
def yX_checkKindAndPlace : MethodName := ⟨RX, "checkKindAndPlace", "(III)V"⟩
abbrev bX_checkClock : ByteArray := prog_1_method_19_code
def yX_checkClock : MethodName := ⟨RX, "checkClock", "(J)V"⟩
abbrev bX_isBag : ByteArray := prog_1_method_20_code
def yX_isBag : MethodName := ⟨RX, "isBag", "(I)Z"⟩
def REv : String := "EventOrder$Events"
def TEv : u_T := fun k => match k with
  | 0 => ("EventOrder$Events", "sources", "[I", true)
  | 1 => ("EventOrder$Events", "items", "[I", true)
  | 2 => ("EventOrder$Events", "kinds", "[I", true)
  | 3 => ("EventOrder$Events", "places", "[I", true)
  | 4 => ("EventOrder$Events", "clocks", "[J", true)
  | _ => ("EventOrder$Events", "count", "I", false)
def tEv : Nat → FieldType := fun k => match k with
  | 0 => .array .int
  | 1 => .array .int
  | 2 => .array .int
  | 3 => .array .int
  | 4 => .array .long
  | _ => .int
theorem nEv : ∀ a, a < 6 → ∀ b, b < 6 → a ≠ b → (TEv a).2.1 ≠ (TEv b).2.1 := by decide +kernel
theorem tEv_ok : ∀ k, k < 6 → parseFieldDescriptor (TEv k).2.2.1 = some (tEv k) := by decide +kernel
theorem iEv : ∀ w ∈ u_ws REv TEv 6, w ∈ TBL := fun w h => TBL_in ((by decide +kernel : ∀ w ∈ u_ws REv TEv 6, w ∈ lw_tbl) w h) ((by decide +kernel : ∀ w ∈ u_ws REv TEv 6, goodWord w = true) w h)
abbrev bEv_init : ByteArray := prog_2_method_1_code
def yEv_init : MethodName := ⟨REv, "<init>", "()V"⟩
abbrev bEv_add : ByteArray := prog_2_method_2_code
def yEv_add : MethodName := ⟨REv, "add", "(IIIIJ)I"⟩
abbrev bEv_has : ByteArray := prog_2_method_3_code
def yEv_has : MethodName := ⟨REv, "has", "(IIIIJ)Z"⟩
abbrev bEv_countIn : ByteArray := prog_2_method_4_code
def yEv_countIn : MethodName := ⟨REv, "countIn", "([II)I"⟩
def RNd : String := "EventOrder$Needs"
def TNd : u_T := fun k => match k with
  | 0 => ("EventOrder$Needs", "firsts", "[I", true)
  | 1 => ("EventOrder$Needs", "seconds", "[I", true)
  | _ => ("EventOrder$Needs", "count", "I", false)
def tNd : Nat → FieldType := fun k => match k with
  | 0 => .array .int
  | 1 => .array .int
  | _ => .int
theorem nNd : ∀ a, a < 3 → ∀ b, b < 3 → a ≠ b → (TNd a).2.1 ≠ (TNd b).2.1 := by decide +kernel
theorem tNd_ok : ∀ k, k < 3 → parseFieldDescriptor (TNd k).2.2.1 = some (tNd k) := by decide +kernel
theorem iNd : ∀ w ∈ u_ws RNd TNd 3, w ∈ TBL := fun w h => TBL_in ((by decide +kernel : ∀ w ∈ u_ws RNd TNd 3, w ∈ lw_tbl) w h) ((by decide +kernel : ∀ w ∈ u_ws RNd TNd 3, goodWord w = true) w h)
abbrev bNd_init : ByteArray := prog_4_method_1_code
def yNd_init : MethodName := ⟨RNd, "<init>", "()V"⟩
abbrev bNd_add : ByteArray := prog_4_method_2_code
def yNd_add : MethodName := ⟨RNd, "add", "(II)I"⟩
def RLi : String := "EventOrder$Limits"
def TLi : u_T := fun k => match k with
  | 0 => ("EventOrder$Limits", "weights", "[[J", true)
  | 1 => ("EventOrder$Limits", "bounds", "[[J", true)
  | _ => ("EventOrder$Limits", "offsets", "[J", true)
def tLi : Nat → FieldType := fun k => match k with
  | 0 => .array (.array .long)
  | 1 => .array (.array .long)
  | _ => .array .long
theorem nLi : ∀ a, a < 3 → ∀ b, b < 3 → a ≠ b → (TLi a).2.1 ≠ (TLi b).2.1 := by decide +kernel
theorem tLi_ok : ∀ k, k < 3 → parseFieldDescriptor (TLi k).2.2.1 = some (tLi k) := by decide +kernel
theorem iLi : ∀ w ∈ u_ws RLi TLi 3, w ∈ TBL := fun w h => TBL_in ((by decide +kernel : ∀ w ∈ u_ws RLi TLi 3, w ∈ lw_tbl) w h) ((by decide +kernel : ∀ w ∈ u_ws RLi TLi 3, goodWord w = true) w h)
abbrev bLi_init : ByteArray := prog_3_method_1_code
def yLi_init : MethodName := ⟨RLi, "<init>", "()V"⟩
abbrev bLi_weigh : ByteArray := prog_3_method_2_code
def yLi_weigh : MethodName := ⟨RLi, "weigh", "(ILEventOrder$Events;LEventOrder$Needs;)V"⟩
abbrev bLi_findBounds : ByteArray := prog_3_method_3_code
def yLi_findBounds : MethodName := ⟨RLi, "findBounds", "(I)Z"⟩
abbrev bLi_shortenThrough : ByteArray := prog_3_method_4_code
def yLi_shortenThrough : MethodName := ⟨RLi, "shortenThrough", "(II)V"⟩
abbrev bLi_closesBelowZero : ByteArray := prog_3_method_5_code
def yLi_closesBelowZero : MethodName := ⟨RLi, "closesBelowZero", "(I)Z"⟩
abbrev bLi_chooseOffsets : ByteArray := prog_3_method_6_code
def yLi_chooseOffsets : MethodName := ⟨RLi, "chooseOffsets", "(I)V"⟩
def RRg : String := "EventOrder$Ring"
def TRg : u_T := fun k => match k with
  | 0 => ("EventOrder$Ring", "row", "[I", true)
  | 1 => ("EventOrder$Ring", "homeward", "[[J", true)
  | _ => ("EventOrder$Ring", "length", "I", false)
def tRg : Nat → FieldType := fun k => match k with
  | 0 => .array .int
  | 1 => .array (.array .long)
  | _ => .int
theorem nRg : ∀ a, a < 3 → ∀ b, b < 3 → a ≠ b → (TRg a).2.1 ≠ (TRg b).2.1 := by decide +kernel
theorem tRg_ok : ∀ k, k < 3 → parseFieldDescriptor (TRg k).2.2.1 = some (tRg k) := by decide +kernel
theorem iRg : ∀ w ∈ u_ws RRg TRg 3, w ∈ TBL := fun w h => TBL_in ((by decide +kernel : ∀ w ∈ u_ws RRg TRg 3, w ∈ lw_tbl) w h) ((by decide +kernel : ∀ w ∈ u_ws RRg TRg 3, goodWord w = true) w h)
abbrev bRg_init : ByteArray := prog_5_method_1_code
def yRg_init : MethodName := ⟨RRg, "<init>", "()V"⟩
abbrev bRg_find : ByteArray := prog_5_method_2_code
def yRg_find : MethodName := ⟨RRg, "find", "(I[[J)V"⟩
abbrev bRg_stepsBack : ByteArray := prog_5_method_3_code
def yRg_stepsBack : MethodName := ⟨RRg, "stepsBack", "(III[[J)I"⟩
abbrev bRg_leastThroughNext : ByteArray := prog_5_method_4_code
def yRg_leastThroughNext : MethodName := ⟨RRg, "leastThroughNext", "([J[JI)J"⟩
abbrev bRg_trace : ByteArray := prog_5_method_5_code
def yRg_trace : MethodName := ⟨RRg, "trace", "(II[[J)V"⟩
abbrev bRg_leastNext : ByteArray := prog_5_method_6_code
def yRg_leastNext : MethodName := ⟨RRg, "leastNext", "(J[J[JI)I"⟩
def RTl : String := "EventOrder$Timeline"
def TTl : u_T := fun k => match k with
  | 0 => ("EventOrder$Timeline", "times", "[J", true)
  | 1 => ("EventOrder$Timeline", "order", "[I", true)
  | _ => ("EventOrder$Timeline", "count", "I", false)
def tTl : Nat → FieldType := fun k => match k with
  | 0 => .array .long
  | 1 => .array .int
  | _ => .int
theorem nTl : ∀ a, a < 3 → ∀ b, b < 3 → a ≠ b → (TTl a).2.1 ≠ (TTl b).2.1 := by decide +kernel
theorem tTl_ok : ∀ k, k < 3 → parseFieldDescriptor (TTl k).2.2.1 = some (tTl k) := by decide +kernel
theorem iTl : ∀ w ∈ u_ws RTl TTl 3, w ∈ TBL := fun w h => TBL_in ((by decide +kernel : ∀ w ∈ u_ws RTl TTl 3, w ∈ lw_tbl) w h) ((by decide +kernel : ∀ w ∈ u_ws RTl TTl 3, goodWord w = true) w h)
abbrev bTl_init : ByteArray := prog_6_method_1_code
def yTl_init : MethodName := ⟨RTl, "<init>", "()V"⟩
abbrev bTl_lay : ByteArray := prog_6_method_2_code
def yTl_lay : MethodName := ⟨RTl, "lay", "(LEventOrder$Events;[J)V"⟩
abbrev bTl_isLater : ByteArray := prog_6_method_3_code
def yTl_isLater : MethodName := ⟨RTl, "isLater", "(II[I)Z"⟩
abbrev bTl_eventOf : ByteArray := prog_6_method_4_code
def yTl_eventOf : MethodName := ⟨RTl, "eventOf", "(LEventOrder$Events;II)I"⟩
abbrev bTl_countImplied : ByteArray := prog_6_method_5_code
def yTl_countImplied : MethodName := ⟨RTl, "countImplied", "(LEventOrder$Events;II)I"⟩
abbrev bTl_isInsideAfter : ByteArray := prog_6_method_6_code
def yTl_isInsideAfter : MethodName := ⟨RTl, "isInsideAfter", "(IZ)Z"⟩
def RM : String := "EventOrderModel"
def TM : u_T := fun k => match k with
  | 0 => ("EventOrderModel", "thrown", "I", false)
  | 1 => ("EventOrderModel", "sources", "I", false)
  | 2 => ("EventOrderModel", "events", "I", false)
  | 3 => ("EventOrderModel", "source", "[I", true)
  | 4 => ("EventOrderModel", "item", "[I", true)
  | 5 => ("EventOrderModel", "kind", "[I", true)
  | 6 => ("EventOrderModel", "place", "[I", true)
  | 7 => ("EventOrderModel", "clock", "[J", true)
  | 8 => ("EventOrderModel", "needs", "I", false)
  | 9 => ("EventOrderModel", "first", "[I", true)
  | 10 => ("EventOrderModel", "second", "[I", true)
  | 11 => ("EventOrderModel", "settled", "Z", false)
  | 12 => ("EventOrderModel", "ringSize", "I", false)
  | 13 => ("EventOrderModel", "ring", "[I", true)
  | 14 => ("EventOrderModel", "weights", "[J", true)
  | 15 => ("EventOrderModel", "bounds", "[J", true)
  | 16 => ("EventOrderModel", "ways", "[J", true)
  | _ => ("EventOrderModel", "offsets", "[J", true)
def tM : Nat → FieldType := fun k => match k with
  | 0 => .int
  | 1 => .int
  | 2 => .int
  | 3 => .array .int
  | 4 => .array .int
  | 5 => .array .int
  | 6 => .array .int
  | 7 => .array .long
  | 8 => .int
  | 9 => .array .int
  | 10 => .array .int
  | 11 => .boolean
  | 12 => .int
  | 13 => .array .int
  | 14 => .array .long
  | 15 => .array .long
  | 16 => .array .long
  | _ => .array .long
theorem nM : ∀ a, a < 18 → ∀ b, b < 18 → a ≠ b → (TM a).2.1 ≠ (TM b).2.1 := by decide +kernel
theorem tM_ok : ∀ k, k < 18 → parseFieldDescriptor (TM k).2.2.1 = some (tM k) := by decide +kernel
theorem iM : ∀ w ∈ u_ws RM TM 18, w ∈ TBL := fun w h => TBL_in ((by decide +kernel : ∀ w ∈ u_ws RM TM 18, w ∈ lw_tbl) w h) ((by decide +kernel : ∀ w ∈ u_ws RM TM 18, goodWord w = true) w h)
abbrev bM_init : ByteArray := prog_8_method_1_code
def yM_init : MethodName := ⟨RM, "<init>", "()V"⟩
abbrev bM_thrown : ByteArray := prog_8_method_2_code
def yM_thrown : MethodName := ⟨RM, "thrown", "()I"⟩
abbrev bM_refused : ByteArray := prog_8_method_3_code
def yM_refused : MethodName := ⟨RM, "refused", "(ZZZ)Z"⟩
abbrev bM_within : ByteArray := prog_8_method_4_code
def yM_within : MethodName := ⟨RM, "within", "(JJJ)Z"⟩
abbrev bM_isSource : ByteArray := prog_8_method_5_code
def yM_isSource : MethodName := ⟨RM, "isSource", "(I)Z"⟩
abbrev bM_isEvent : ByteArray := prog_8_method_6_code
def yM_isEvent : MethodName := ⟨RM, "isEvent", "(I)Z"⟩
abbrev bM_source : ByteArray := prog_8_method_7_code
def yM_source : MethodName := ⟨RM, "source", "()I"⟩
abbrev bM_find : ByteArray := prog_8_method_8_code
def yM_find : MethodName := ⟨RM, "find", "(IIIIJ)I"⟩
abbrev bM_event : ByteArray := prog_8_method_9_code
def yM_event : MethodName := ⟨RM, "event", "(IIIIJ)I"⟩
abbrev bM_need : ByteArray := prog_8_method_10_code
def yM_need : MethodName := ⟨RM, "need", "(II)I"⟩
abbrev bM_correct : ByteArray := prog_8_method_11_code
def yM_correct : MethodName := ⟨RM, "correct", "(IJ)I"⟩
abbrev bM_plus : ByteArray := prog_8_method_12_code
def yM_plus : MethodName := ⟨RM, "plus", "(JJ)J"⟩
abbrev bM_weigh : ByteArray := prog_8_method_13_code
def yM_weigh : MethodName := ⟨RM, "weigh", "()V"⟩
abbrev bM_step : ByteArray := prog_8_method_14_code
def yM_step : MethodName := ⟨RM, "step", "(I)V"⟩
abbrev bM_tellRing : ByteArray := prog_8_method_15_code
def yM_tellRing : MethodName := ⟨RM, "tellRing", "(II)V"⟩
abbrev bM_isOn : ByteArray := prog_8_method_16_code
def yM_isOn : MethodName := ⟨RM, "isOn", "(JIIII)Z"⟩
abbrev bM_settle : ByteArray := prog_8_method_17_code
def yM_settle : MethodName := ⟨RM, "settle", "()I"⟩
abbrev bM_bind : ByteArray := prog_8_method_18_code
def yM_bind : MethodName := ⟨RM, "bind", "()V"⟩
abbrev bM_ring : ByteArray := prog_8_method_19_code
def yM_ring : MethodName := ⟨RM, "ring", "(I)I"⟩
abbrev bM_offset : ByteArray := prog_8_method_20_code
def yM_offset : MethodName := ⟨RM, "offset", "(I)J"⟩
abbrev bM_bound : ByteArray := prog_8_method_21_code
def yM_bound : MethodName := ⟨RM, "bound", "(II)J"⟩
abbrev bM_timeOf : ByteArray := prog_8_method_22_code
def yM_timeOf : MethodName := ⟨RM, "timeOf", "(I)J"⟩
abbrev bM_corrected : ByteArray := prog_8_method_23_code
def yM_corrected : MethodName := ⟨RM, "corrected", "(I)J"⟩
abbrev bM_isBefore : ByteArray := prog_8_method_24_code
def yM_isBefore : MethodName := ⟨RM, "isBefore", "(II)Z"⟩
abbrev bM_ordered : ByteArray := prog_8_method_25_code
def yM_ordered : MethodName := ⟨RM, "ordered", "(II)I"⟩
abbrev bM_outOf : ByteArray := prog_8_method_26_code
def yM_outOf : MethodName := ⟨RM, "outOf", "(II)I"⟩
abbrev bM_isImplied : ByteArray := prog_8_method_27_code
def yM_isImplied : MethodName := ⟨RM, "isImplied", "(III)Z"⟩
abbrev bM_implied : ByteArray := prog_8_method_28_code
def yM_implied : MethodName := ⟨RM, "implied", "(II)I"⟩
abbrev bM_ask : ByteArray := prog_8_method_29_code
def yM_ask : MethodName := ⟨RM, "ask", "(II)I"⟩
abbrev vwCl : List vw_C := [(RX, TX, 7), (REv, TEv, 6), (RNd, TNd, 3), (RLi, TLi, 3), (RRg, TRg, 3), (RTl, TTl, 3), (RM, TM, 18)]
def tysX (cI cL cO : ClassId) : List (ClassId × FieldType) := [(cI, .int), (cL, .long), (cO, .array .long)]
def RL : String := "EventOrderLaw"
abbrev bL_source : ByteArray := method_3_code
def yL_source : MethodName := ⟨RL, "source", "(LEventOrder;[J)I"⟩
abbrev bL_event : ByteArray := method_4_code
def yL_event : MethodName := ⟨RL, "event", "(LEventOrder;IIIIJ[J)I"⟩
abbrev bL_need : ByteArray := method_5_code
def yL_need : MethodName := ⟨RL, "need", "(LEventOrder;II[J)I"⟩
abbrev bL_offset : ByteArray := method_6_code
def yL_offset : MethodName := ⟨RL, "offset", "(LEventOrder;I[J)I"⟩
abbrev bL_bound : ByteArray := method_7_code
def yL_bound : MethodName := ⟨RL, "bound", "(LEventOrder;II[J)I"⟩
abbrev bL_corrected : ByteArray := method_8_code
def yL_corrected : MethodName := ⟨RL, "corrected", "(LEventOrder;I[J)I"⟩
abbrev bL_ordered : ByteArray := method_9_code
def yL_ordered : MethodName := ⟨RL, "ordered", "(LEventOrder;II[J)I"⟩
abbrev bL_implied : ByteArray := method_10_code
def yL_implied : MethodName := ⟨RL, "implied", "(LEventOrder;II[J)I"⟩
abbrev bL_correct : ByteArray := method_11_code
def yL_correct : MethodName := ⟨RL, "correct", "(LEventOrder;IJ[J)I"⟩
abbrev bL_ask : ByteArray := method_12_code
def yL_ask : MethodName := ⟨RL, "ask", "(LEventOrder;II[J)I"⟩
abbrev bL_law : ByteArray := code
def yL_law : MethodName := ⟨RL, "law", "([I)Z"⟩
end
section
/-- the rows of an array of arrays of longs -/
def x_grid (ad : Nat → Nat) (cL : ClassId) (base n k : Nat) (M : Nat → Nat → Int64) : va_W := (List.range n).map (fun i => (ad (base + i), (.inl (cL, k, .inr (.inl (M i))) : va_E)))
theorem x_grid_len {ad : Nat → Nat} {cL : ClassId} {base n k : Nat} {M : Nat → Nat → Int64} : (x_grid ad cL base n k M).length = n := by simp [x_grid]
theorem x_grid_get {ad : Nat → Nat} {cL : ClassId} {base n k i : Nat} {M : Nat → Nat → Int64} (h : i < n) : (x_grid ad cL base n k M)[i]? = some (ad (base + i), .inl (cL, k, .inr (.inl (M i)))) := by
  simp [x_grid, h]
theorem x_grid_set {ad : Nat → Nat} {cL : ClassId} {base n k i : Nat} {M : Nat → Nat → Int64} {f : Nat → Int64} (h : i < n) : (x_grid ad cL base n k M).set i (ad (base + i), .inl (cL, k, .inr (.inl f))) = x_grid ad cL base n k (va_up M i f) := by
  apply List.ext_getElem?
  intro j
  by_cases hj : j < n
  · by_cases e : i = j
    · subst e
      rw [List.getElem?_set_self (by rw [x_grid_len]; exact h), x_grid_get h, va_up_self]
    · rw [List.getElem?_set_ne e, x_grid_get hj, x_grid_get hj, va_up_ne _ _ (Ne.symm e)]
  · rw [List.getElem?_eq_none (by rw [List.length_set, x_grid_len]; omega), List.getElem?_eq_none (by rw [x_grid_len]; omega)]
theorem x_app_get {X Y : va_W} {b i : Nat} {q : Nat × va_E} (hX : X.length = b) (h : Y[i]? = some q) : (X ++ Y)[b + i]? = some q := by
  rw [List.getElem?_append_right (by omega), hX, Nat.add_sub_cancel_left]; exact h
theorem x_app_get_left {X Y : va_W} {i : Nat} {q : Nat × va_E} (h : X[i]? = some q) : (X ++ Y)[i]? = some q := by
  rw [List.getElem?_append_left (List.getElem?_eq_some_iff.mp h).1]; exact h
theorem x_app_set {X Y Y' : va_W} {b i : Nat} {q : Nat × va_E} (hX : X.length = b) (h : Y.set i q = Y') : (X ++ Y).set (b + i) q = X ++ Y' := by
  rw [List.set_append_right _ _ (by omega), hX, Nat.add_sub_cancel_left, h]
theorem x_app_set_left {X Y X' : va_W} {i : Nat} {q : Nat × va_E} (hi : i < X.length) (h : X.set i q = X') : (X ++ Y).set i q = X' ++ Y := by
  rw [List.set_append_left _ _ hi, h]
def wX (ad : Nat → Nat) (cI cL cO : ClassId) (sc : Int32) (sd : Int32) (src : (Nat → Int32)) (itm : (Nat → Int32)) (knd : (Nat → Int32)) (plc : (Nat → Int32)) (clk : (Nat → Int64)) (ec : Int32) (nf : (Nat → Int32)) (ns : (Nat → Int32)) (nc : Int32) (wt : (Nat → Nat → Int64)) (bd : (Nat → Nat → Int64)) (off : (Nat → Int64)) (row : (Nat → Int32)) (hw : (Nat → Nat → Int64)) (rl : Int32) (tm : (Nat → Int64)) (ord : (Nat → Int32)) (tc : Int32) : va_W :=
    [(ad 0, .inr (0, [.ref (ad 1), .ref (ad 7), .ref (ad 10), .ref (ad 14), .ref (ad 17), .int sc, .int sd])),
    (ad 1, .inr (1, [.ref (ad 2), .ref (ad 3), .ref (ad 4), .ref (ad 5), .ref (ad 6), .int ec])),
    (ad 2, .inl (cI, 301, .inl src)),
    (ad 3, .inl (cI, 301, .inl itm)),
    (ad 4, .inl (cI, 301, .inl knd)),
    (ad 5, .inl (cI, 301, .inl plc)),
    (ad 6, .inl (cL, 301, .inr (.inl clk))),
    (ad 7, .inr (2, [.ref (ad 8), .ref (ad 9), .int nc])),
    (ad 8, .inl (cI, 300, .inl nf)),
    (ad 9, .inl (cI, 300, .inl ns)),
    (ad 10, .inr (3, [.ref (ad 11), .ref (ad 12), .ref (ad 13)])),
    (ad 11, .inl (cO, 16, .inr (.inr (.inr (.inr (fun i => some (ad (20 + i)))))))),
    (ad 12, .inl (cO, 16, .inr (.inr (.inr (.inr (fun i => some (ad (36 + i)))))))),
    (ad 13, .inl (cL, 16, .inr (.inl off))),
    (ad 14, .inr (4, [.ref (ad 15), .ref (ad 16), .int rl])),
    (ad 15, .inl (cI, 16, .inl row)),
    (ad 16, .inl (cO, 17, .inr (.inr (.inr (.inr (fun i => some (ad (52 + i)))))))),
    (ad 17, .inr (5, [.ref (ad 18), .ref (ad 19), .int tc])),
    (ad 18, .inl (cL, 301, .inr (.inl tm))),
    (ad 19, .inl (cI, 300, .inl ord))] ++ (x_grid ad cL 20 16 16 wt ++ (x_grid ad cL 36 16 16 bd ++ (x_grid ad cL 52 17 16 hw)))
theorem wX_0 {ad : Nat → Nat} {cI cL cO : ClassId} {sc : Int32} {sd : Int32} {src : (Nat → Int32)} {itm : (Nat → Int32)} {knd : (Nat → Int32)} {plc : (Nat → Int32)} {clk : (Nat → Int64)} {ec : Int32} {nf : (Nat → Int32)} {ns : (Nat → Int32)} {nc : Int32} {wt : (Nat → Nat → Int64)} {bd : (Nat → Nat → Int64)} {off : (Nat → Int64)} {row : (Nat → Int32)} {hw : (Nat → Nat → Int64)} {rl : Int32} {tm : (Nat → Int64)} {ord : (Nat → Int32)} {tc : Int32} : (wX ad cI cL cO sc sd src itm knd plc clk ec nf ns nc wt bd off row hw rl tm ord tc)[0]? = some (ad 0, .inr (0, [.ref (ad 1), .ref (ad 7), .ref (ad 10), .ref (ad 14), .ref (ad 17), .int sc, .int sd])) := rfl
theorem wX_1 {ad : Nat → Nat} {cI cL cO : ClassId} {sc : Int32} {sd : Int32} {src : (Nat → Int32)} {itm : (Nat → Int32)} {knd : (Nat → Int32)} {plc : (Nat → Int32)} {clk : (Nat → Int64)} {ec : Int32} {nf : (Nat → Int32)} {ns : (Nat → Int32)} {nc : Int32} {wt : (Nat → Nat → Int64)} {bd : (Nat → Nat → Int64)} {off : (Nat → Int64)} {row : (Nat → Int32)} {hw : (Nat → Nat → Int64)} {rl : Int32} {tm : (Nat → Int64)} {ord : (Nat → Int32)} {tc : Int32} : (wX ad cI cL cO sc sd src itm knd plc clk ec nf ns nc wt bd off row hw rl tm ord tc)[1]? = some (ad 1, .inr (1, [.ref (ad 2), .ref (ad 3), .ref (ad 4), .ref (ad 5), .ref (ad 6), .int ec])) := rfl
theorem wX_2 {ad : Nat → Nat} {cI cL cO : ClassId} {sc : Int32} {sd : Int32} {src : (Nat → Int32)} {itm : (Nat → Int32)} {knd : (Nat → Int32)} {plc : (Nat → Int32)} {clk : (Nat → Int64)} {ec : Int32} {nf : (Nat → Int32)} {ns : (Nat → Int32)} {nc : Int32} {wt : (Nat → Nat → Int64)} {bd : (Nat → Nat → Int64)} {off : (Nat → Int64)} {row : (Nat → Int32)} {hw : (Nat → Nat → Int64)} {rl : Int32} {tm : (Nat → Int64)} {ord : (Nat → Int32)} {tc : Int32} : (wX ad cI cL cO sc sd src itm knd plc clk ec nf ns nc wt bd off row hw rl tm ord tc)[2]? = some (ad 2, .inl (cI, 301, .inl src)) := rfl
theorem wX_2_set {ad : Nat → Nat} {cI cL cO : ClassId} {sc : Int32} {sd : Int32} {src : (Nat → Int32)} {itm : (Nat → Int32)} {knd : (Nat → Int32)} {plc : (Nat → Int32)} {clk : (Nat → Int64)} {ec : Int32} {nf : (Nat → Int32)} {ns : (Nat → Int32)} {nc : Int32} {wt : (Nat → Nat → Int64)} {bd : (Nat → Nat → Int64)} {off : (Nat → Int64)} {row : (Nat → Int32)} {hw : (Nat → Nat → Int64)} {rl : Int32} {tm : (Nat → Int64)} {ord : (Nat → Int32)} {tc : Int32} {f : Nat → Int32} : (wX ad cI cL cO sc sd src itm knd plc clk ec nf ns nc wt bd off row hw rl tm ord tc).set 2 (ad 2, .inl (cI, 301, .inl f)) = (wX ad cI cL cO sc sd f itm knd plc clk ec nf ns nc wt bd off row hw rl tm ord tc) := rfl
theorem wX_3 {ad : Nat → Nat} {cI cL cO : ClassId} {sc : Int32} {sd : Int32} {src : (Nat → Int32)} {itm : (Nat → Int32)} {knd : (Nat → Int32)} {plc : (Nat → Int32)} {clk : (Nat → Int64)} {ec : Int32} {nf : (Nat → Int32)} {ns : (Nat → Int32)} {nc : Int32} {wt : (Nat → Nat → Int64)} {bd : (Nat → Nat → Int64)} {off : (Nat → Int64)} {row : (Nat → Int32)} {hw : (Nat → Nat → Int64)} {rl : Int32} {tm : (Nat → Int64)} {ord : (Nat → Int32)} {tc : Int32} : (wX ad cI cL cO sc sd src itm knd plc clk ec nf ns nc wt bd off row hw rl tm ord tc)[3]? = some (ad 3, .inl (cI, 301, .inl itm)) := rfl
theorem wX_3_set {ad : Nat → Nat} {cI cL cO : ClassId} {sc : Int32} {sd : Int32} {src : (Nat → Int32)} {itm : (Nat → Int32)} {knd : (Nat → Int32)} {plc : (Nat → Int32)} {clk : (Nat → Int64)} {ec : Int32} {nf : (Nat → Int32)} {ns : (Nat → Int32)} {nc : Int32} {wt : (Nat → Nat → Int64)} {bd : (Nat → Nat → Int64)} {off : (Nat → Int64)} {row : (Nat → Int32)} {hw : (Nat → Nat → Int64)} {rl : Int32} {tm : (Nat → Int64)} {ord : (Nat → Int32)} {tc : Int32} {f : Nat → Int32} : (wX ad cI cL cO sc sd src itm knd plc clk ec nf ns nc wt bd off row hw rl tm ord tc).set 3 (ad 3, .inl (cI, 301, .inl f)) = (wX ad cI cL cO sc sd src f knd plc clk ec nf ns nc wt bd off row hw rl tm ord tc) := rfl
theorem wX_4 {ad : Nat → Nat} {cI cL cO : ClassId} {sc : Int32} {sd : Int32} {src : (Nat → Int32)} {itm : (Nat → Int32)} {knd : (Nat → Int32)} {plc : (Nat → Int32)} {clk : (Nat → Int64)} {ec : Int32} {nf : (Nat → Int32)} {ns : (Nat → Int32)} {nc : Int32} {wt : (Nat → Nat → Int64)} {bd : (Nat → Nat → Int64)} {off : (Nat → Int64)} {row : (Nat → Int32)} {hw : (Nat → Nat → Int64)} {rl : Int32} {tm : (Nat → Int64)} {ord : (Nat → Int32)} {tc : Int32} : (wX ad cI cL cO sc sd src itm knd plc clk ec nf ns nc wt bd off row hw rl tm ord tc)[4]? = some (ad 4, .inl (cI, 301, .inl knd)) := rfl
theorem wX_4_set {ad : Nat → Nat} {cI cL cO : ClassId} {sc : Int32} {sd : Int32} {src : (Nat → Int32)} {itm : (Nat → Int32)} {knd : (Nat → Int32)} {plc : (Nat → Int32)} {clk : (Nat → Int64)} {ec : Int32} {nf : (Nat → Int32)} {ns : (Nat → Int32)} {nc : Int32} {wt : (Nat → Nat → Int64)} {bd : (Nat → Nat → Int64)} {off : (Nat → Int64)} {row : (Nat → Int32)} {hw : (Nat → Nat → Int64)} {rl : Int32} {tm : (Nat → Int64)} {ord : (Nat → Int32)} {tc : Int32} {f : Nat → Int32} : (wX ad cI cL cO sc sd src itm knd plc clk ec nf ns nc wt bd off row hw rl tm ord tc).set 4 (ad 4, .inl (cI, 301, .inl f)) = (wX ad cI cL cO sc sd src itm f plc clk ec nf ns nc wt bd off row hw rl tm ord tc) := rfl
theorem wX_5 {ad : Nat → Nat} {cI cL cO : ClassId} {sc : Int32} {sd : Int32} {src : (Nat → Int32)} {itm : (Nat → Int32)} {knd : (Nat → Int32)} {plc : (Nat → Int32)} {clk : (Nat → Int64)} {ec : Int32} {nf : (Nat → Int32)} {ns : (Nat → Int32)} {nc : Int32} {wt : (Nat → Nat → Int64)} {bd : (Nat → Nat → Int64)} {off : (Nat → Int64)} {row : (Nat → Int32)} {hw : (Nat → Nat → Int64)} {rl : Int32} {tm : (Nat → Int64)} {ord : (Nat → Int32)} {tc : Int32} : (wX ad cI cL cO sc sd src itm knd plc clk ec nf ns nc wt bd off row hw rl tm ord tc)[5]? = some (ad 5, .inl (cI, 301, .inl plc)) := rfl
theorem wX_5_set {ad : Nat → Nat} {cI cL cO : ClassId} {sc : Int32} {sd : Int32} {src : (Nat → Int32)} {itm : (Nat → Int32)} {knd : (Nat → Int32)} {plc : (Nat → Int32)} {clk : (Nat → Int64)} {ec : Int32} {nf : (Nat → Int32)} {ns : (Nat → Int32)} {nc : Int32} {wt : (Nat → Nat → Int64)} {bd : (Nat → Nat → Int64)} {off : (Nat → Int64)} {row : (Nat → Int32)} {hw : (Nat → Nat → Int64)} {rl : Int32} {tm : (Nat → Int64)} {ord : (Nat → Int32)} {tc : Int32} {f : Nat → Int32} : (wX ad cI cL cO sc sd src itm knd plc clk ec nf ns nc wt bd off row hw rl tm ord tc).set 5 (ad 5, .inl (cI, 301, .inl f)) = (wX ad cI cL cO sc sd src itm knd f clk ec nf ns nc wt bd off row hw rl tm ord tc) := rfl
theorem wX_6 {ad : Nat → Nat} {cI cL cO : ClassId} {sc : Int32} {sd : Int32} {src : (Nat → Int32)} {itm : (Nat → Int32)} {knd : (Nat → Int32)} {plc : (Nat → Int32)} {clk : (Nat → Int64)} {ec : Int32} {nf : (Nat → Int32)} {ns : (Nat → Int32)} {nc : Int32} {wt : (Nat → Nat → Int64)} {bd : (Nat → Nat → Int64)} {off : (Nat → Int64)} {row : (Nat → Int32)} {hw : (Nat → Nat → Int64)} {rl : Int32} {tm : (Nat → Int64)} {ord : (Nat → Int32)} {tc : Int32} : (wX ad cI cL cO sc sd src itm knd plc clk ec nf ns nc wt bd off row hw rl tm ord tc)[6]? = some (ad 6, .inl (cL, 301, .inr (.inl clk))) := rfl
theorem wX_6_set {ad : Nat → Nat} {cI cL cO : ClassId} {sc : Int32} {sd : Int32} {src : (Nat → Int32)} {itm : (Nat → Int32)} {knd : (Nat → Int32)} {plc : (Nat → Int32)} {clk : (Nat → Int64)} {ec : Int32} {nf : (Nat → Int32)} {ns : (Nat → Int32)} {nc : Int32} {wt : (Nat → Nat → Int64)} {bd : (Nat → Nat → Int64)} {off : (Nat → Int64)} {row : (Nat → Int32)} {hw : (Nat → Nat → Int64)} {rl : Int32} {tm : (Nat → Int64)} {ord : (Nat → Int32)} {tc : Int32} {f : Nat → Int64} : (wX ad cI cL cO sc sd src itm knd plc clk ec nf ns nc wt bd off row hw rl tm ord tc).set 6 (ad 6, .inl (cL, 301, .inr (.inl f))) = (wX ad cI cL cO sc sd src itm knd plc f ec nf ns nc wt bd off row hw rl tm ord tc) := rfl
theorem wX_7 {ad : Nat → Nat} {cI cL cO : ClassId} {sc : Int32} {sd : Int32} {src : (Nat → Int32)} {itm : (Nat → Int32)} {knd : (Nat → Int32)} {plc : (Nat → Int32)} {clk : (Nat → Int64)} {ec : Int32} {nf : (Nat → Int32)} {ns : (Nat → Int32)} {nc : Int32} {wt : (Nat → Nat → Int64)} {bd : (Nat → Nat → Int64)} {off : (Nat → Int64)} {row : (Nat → Int32)} {hw : (Nat → Nat → Int64)} {rl : Int32} {tm : (Nat → Int64)} {ord : (Nat → Int32)} {tc : Int32} : (wX ad cI cL cO sc sd src itm knd plc clk ec nf ns nc wt bd off row hw rl tm ord tc)[7]? = some (ad 7, .inr (2, [.ref (ad 8), .ref (ad 9), .int nc])) := rfl
theorem wX_8 {ad : Nat → Nat} {cI cL cO : ClassId} {sc : Int32} {sd : Int32} {src : (Nat → Int32)} {itm : (Nat → Int32)} {knd : (Nat → Int32)} {plc : (Nat → Int32)} {clk : (Nat → Int64)} {ec : Int32} {nf : (Nat → Int32)} {ns : (Nat → Int32)} {nc : Int32} {wt : (Nat → Nat → Int64)} {bd : (Nat → Nat → Int64)} {off : (Nat → Int64)} {row : (Nat → Int32)} {hw : (Nat → Nat → Int64)} {rl : Int32} {tm : (Nat → Int64)} {ord : (Nat → Int32)} {tc : Int32} : (wX ad cI cL cO sc sd src itm knd plc clk ec nf ns nc wt bd off row hw rl tm ord tc)[8]? = some (ad 8, .inl (cI, 300, .inl nf)) := rfl
theorem wX_8_set {ad : Nat → Nat} {cI cL cO : ClassId} {sc : Int32} {sd : Int32} {src : (Nat → Int32)} {itm : (Nat → Int32)} {knd : (Nat → Int32)} {plc : (Nat → Int32)} {clk : (Nat → Int64)} {ec : Int32} {nf : (Nat → Int32)} {ns : (Nat → Int32)} {nc : Int32} {wt : (Nat → Nat → Int64)} {bd : (Nat → Nat → Int64)} {off : (Nat → Int64)} {row : (Nat → Int32)} {hw : (Nat → Nat → Int64)} {rl : Int32} {tm : (Nat → Int64)} {ord : (Nat → Int32)} {tc : Int32} {f : Nat → Int32} : (wX ad cI cL cO sc sd src itm knd plc clk ec nf ns nc wt bd off row hw rl tm ord tc).set 8 (ad 8, .inl (cI, 300, .inl f)) = (wX ad cI cL cO sc sd src itm knd plc clk ec f ns nc wt bd off row hw rl tm ord tc) := rfl
theorem wX_9 {ad : Nat → Nat} {cI cL cO : ClassId} {sc : Int32} {sd : Int32} {src : (Nat → Int32)} {itm : (Nat → Int32)} {knd : (Nat → Int32)} {plc : (Nat → Int32)} {clk : (Nat → Int64)} {ec : Int32} {nf : (Nat → Int32)} {ns : (Nat → Int32)} {nc : Int32} {wt : (Nat → Nat → Int64)} {bd : (Nat → Nat → Int64)} {off : (Nat → Int64)} {row : (Nat → Int32)} {hw : (Nat → Nat → Int64)} {rl : Int32} {tm : (Nat → Int64)} {ord : (Nat → Int32)} {tc : Int32} : (wX ad cI cL cO sc sd src itm knd plc clk ec nf ns nc wt bd off row hw rl tm ord tc)[9]? = some (ad 9, .inl (cI, 300, .inl ns)) := rfl
theorem wX_9_set {ad : Nat → Nat} {cI cL cO : ClassId} {sc : Int32} {sd : Int32} {src : (Nat → Int32)} {itm : (Nat → Int32)} {knd : (Nat → Int32)} {plc : (Nat → Int32)} {clk : (Nat → Int64)} {ec : Int32} {nf : (Nat → Int32)} {ns : (Nat → Int32)} {nc : Int32} {wt : (Nat → Nat → Int64)} {bd : (Nat → Nat → Int64)} {off : (Nat → Int64)} {row : (Nat → Int32)} {hw : (Nat → Nat → Int64)} {rl : Int32} {tm : (Nat → Int64)} {ord : (Nat → Int32)} {tc : Int32} {f : Nat → Int32} : (wX ad cI cL cO sc sd src itm knd plc clk ec nf ns nc wt bd off row hw rl tm ord tc).set 9 (ad 9, .inl (cI, 300, .inl f)) = (wX ad cI cL cO sc sd src itm knd plc clk ec nf f nc wt bd off row hw rl tm ord tc) := rfl
theorem wX_10 {ad : Nat → Nat} {cI cL cO : ClassId} {sc : Int32} {sd : Int32} {src : (Nat → Int32)} {itm : (Nat → Int32)} {knd : (Nat → Int32)} {plc : (Nat → Int32)} {clk : (Nat → Int64)} {ec : Int32} {nf : (Nat → Int32)} {ns : (Nat → Int32)} {nc : Int32} {wt : (Nat → Nat → Int64)} {bd : (Nat → Nat → Int64)} {off : (Nat → Int64)} {row : (Nat → Int32)} {hw : (Nat → Nat → Int64)} {rl : Int32} {tm : (Nat → Int64)} {ord : (Nat → Int32)} {tc : Int32} : (wX ad cI cL cO sc sd src itm knd plc clk ec nf ns nc wt bd off row hw rl tm ord tc)[10]? = some (ad 10, .inr (3, [.ref (ad 11), .ref (ad 12), .ref (ad 13)])) := rfl
theorem wX_11 {ad : Nat → Nat} {cI cL cO : ClassId} {sc : Int32} {sd : Int32} {src : (Nat → Int32)} {itm : (Nat → Int32)} {knd : (Nat → Int32)} {plc : (Nat → Int32)} {clk : (Nat → Int64)} {ec : Int32} {nf : (Nat → Int32)} {ns : (Nat → Int32)} {nc : Int32} {wt : (Nat → Nat → Int64)} {bd : (Nat → Nat → Int64)} {off : (Nat → Int64)} {row : (Nat → Int32)} {hw : (Nat → Nat → Int64)} {rl : Int32} {tm : (Nat → Int64)} {ord : (Nat → Int32)} {tc : Int32} : (wX ad cI cL cO sc sd src itm knd plc clk ec nf ns nc wt bd off row hw rl tm ord tc)[11]? = some (ad 11, .inl (cO, 16, .inr (.inr (.inr (.inr (fun i => some (ad (20 + i)))))))) := rfl
theorem wX_12 {ad : Nat → Nat} {cI cL cO : ClassId} {sc : Int32} {sd : Int32} {src : (Nat → Int32)} {itm : (Nat → Int32)} {knd : (Nat → Int32)} {plc : (Nat → Int32)} {clk : (Nat → Int64)} {ec : Int32} {nf : (Nat → Int32)} {ns : (Nat → Int32)} {nc : Int32} {wt : (Nat → Nat → Int64)} {bd : (Nat → Nat → Int64)} {off : (Nat → Int64)} {row : (Nat → Int32)} {hw : (Nat → Nat → Int64)} {rl : Int32} {tm : (Nat → Int64)} {ord : (Nat → Int32)} {tc : Int32} : (wX ad cI cL cO sc sd src itm knd plc clk ec nf ns nc wt bd off row hw rl tm ord tc)[12]? = some (ad 12, .inl (cO, 16, .inr (.inr (.inr (.inr (fun i => some (ad (36 + i)))))))) := rfl
theorem wX_13 {ad : Nat → Nat} {cI cL cO : ClassId} {sc : Int32} {sd : Int32} {src : (Nat → Int32)} {itm : (Nat → Int32)} {knd : (Nat → Int32)} {plc : (Nat → Int32)} {clk : (Nat → Int64)} {ec : Int32} {nf : (Nat → Int32)} {ns : (Nat → Int32)} {nc : Int32} {wt : (Nat → Nat → Int64)} {bd : (Nat → Nat → Int64)} {off : (Nat → Int64)} {row : (Nat → Int32)} {hw : (Nat → Nat → Int64)} {rl : Int32} {tm : (Nat → Int64)} {ord : (Nat → Int32)} {tc : Int32} : (wX ad cI cL cO sc sd src itm knd plc clk ec nf ns nc wt bd off row hw rl tm ord tc)[13]? = some (ad 13, .inl (cL, 16, .inr (.inl off))) := rfl
theorem wX_13_set {ad : Nat → Nat} {cI cL cO : ClassId} {sc : Int32} {sd : Int32} {src : (Nat → Int32)} {itm : (Nat → Int32)} {knd : (Nat → Int32)} {plc : (Nat → Int32)} {clk : (Nat → Int64)} {ec : Int32} {nf : (Nat → Int32)} {ns : (Nat → Int32)} {nc : Int32} {wt : (Nat → Nat → Int64)} {bd : (Nat → Nat → Int64)} {off : (Nat → Int64)} {row : (Nat → Int32)} {hw : (Nat → Nat → Int64)} {rl : Int32} {tm : (Nat → Int64)} {ord : (Nat → Int32)} {tc : Int32} {f : Nat → Int64} : (wX ad cI cL cO sc sd src itm knd plc clk ec nf ns nc wt bd off row hw rl tm ord tc).set 13 (ad 13, .inl (cL, 16, .inr (.inl f))) = (wX ad cI cL cO sc sd src itm knd plc clk ec nf ns nc wt bd f row hw rl tm ord tc) := rfl
theorem wX_14 {ad : Nat → Nat} {cI cL cO : ClassId} {sc : Int32} {sd : Int32} {src : (Nat → Int32)} {itm : (Nat → Int32)} {knd : (Nat → Int32)} {plc : (Nat → Int32)} {clk : (Nat → Int64)} {ec : Int32} {nf : (Nat → Int32)} {ns : (Nat → Int32)} {nc : Int32} {wt : (Nat → Nat → Int64)} {bd : (Nat → Nat → Int64)} {off : (Nat → Int64)} {row : (Nat → Int32)} {hw : (Nat → Nat → Int64)} {rl : Int32} {tm : (Nat → Int64)} {ord : (Nat → Int32)} {tc : Int32} : (wX ad cI cL cO sc sd src itm knd plc clk ec nf ns nc wt bd off row hw rl tm ord tc)[14]? = some (ad 14, .inr (4, [.ref (ad 15), .ref (ad 16), .int rl])) := rfl
theorem wX_15 {ad : Nat → Nat} {cI cL cO : ClassId} {sc : Int32} {sd : Int32} {src : (Nat → Int32)} {itm : (Nat → Int32)} {knd : (Nat → Int32)} {plc : (Nat → Int32)} {clk : (Nat → Int64)} {ec : Int32} {nf : (Nat → Int32)} {ns : (Nat → Int32)} {nc : Int32} {wt : (Nat → Nat → Int64)} {bd : (Nat → Nat → Int64)} {off : (Nat → Int64)} {row : (Nat → Int32)} {hw : (Nat → Nat → Int64)} {rl : Int32} {tm : (Nat → Int64)} {ord : (Nat → Int32)} {tc : Int32} : (wX ad cI cL cO sc sd src itm knd plc clk ec nf ns nc wt bd off row hw rl tm ord tc)[15]? = some (ad 15, .inl (cI, 16, .inl row)) := rfl
theorem wX_15_set {ad : Nat → Nat} {cI cL cO : ClassId} {sc : Int32} {sd : Int32} {src : (Nat → Int32)} {itm : (Nat → Int32)} {knd : (Nat → Int32)} {plc : (Nat → Int32)} {clk : (Nat → Int64)} {ec : Int32} {nf : (Nat → Int32)} {ns : (Nat → Int32)} {nc : Int32} {wt : (Nat → Nat → Int64)} {bd : (Nat → Nat → Int64)} {off : (Nat → Int64)} {row : (Nat → Int32)} {hw : (Nat → Nat → Int64)} {rl : Int32} {tm : (Nat → Int64)} {ord : (Nat → Int32)} {tc : Int32} {f : Nat → Int32} : (wX ad cI cL cO sc sd src itm knd plc clk ec nf ns nc wt bd off row hw rl tm ord tc).set 15 (ad 15, .inl (cI, 16, .inl f)) = (wX ad cI cL cO sc sd src itm knd plc clk ec nf ns nc wt bd off f hw rl tm ord tc) := rfl
theorem wX_16 {ad : Nat → Nat} {cI cL cO : ClassId} {sc : Int32} {sd : Int32} {src : (Nat → Int32)} {itm : (Nat → Int32)} {knd : (Nat → Int32)} {plc : (Nat → Int32)} {clk : (Nat → Int64)} {ec : Int32} {nf : (Nat → Int32)} {ns : (Nat → Int32)} {nc : Int32} {wt : (Nat → Nat → Int64)} {bd : (Nat → Nat → Int64)} {off : (Nat → Int64)} {row : (Nat → Int32)} {hw : (Nat → Nat → Int64)} {rl : Int32} {tm : (Nat → Int64)} {ord : (Nat → Int32)} {tc : Int32} : (wX ad cI cL cO sc sd src itm knd plc clk ec nf ns nc wt bd off row hw rl tm ord tc)[16]? = some (ad 16, .inl (cO, 17, .inr (.inr (.inr (.inr (fun i => some (ad (52 + i)))))))) := rfl
theorem wX_17 {ad : Nat → Nat} {cI cL cO : ClassId} {sc : Int32} {sd : Int32} {src : (Nat → Int32)} {itm : (Nat → Int32)} {knd : (Nat → Int32)} {plc : (Nat → Int32)} {clk : (Nat → Int64)} {ec : Int32} {nf : (Nat → Int32)} {ns : (Nat → Int32)} {nc : Int32} {wt : (Nat → Nat → Int64)} {bd : (Nat → Nat → Int64)} {off : (Nat → Int64)} {row : (Nat → Int32)} {hw : (Nat → Nat → Int64)} {rl : Int32} {tm : (Nat → Int64)} {ord : (Nat → Int32)} {tc : Int32} : (wX ad cI cL cO sc sd src itm knd plc clk ec nf ns nc wt bd off row hw rl tm ord tc)[17]? = some (ad 17, .inr (5, [.ref (ad 18), .ref (ad 19), .int tc])) := rfl
theorem wX_18 {ad : Nat → Nat} {cI cL cO : ClassId} {sc : Int32} {sd : Int32} {src : (Nat → Int32)} {itm : (Nat → Int32)} {knd : (Nat → Int32)} {plc : (Nat → Int32)} {clk : (Nat → Int64)} {ec : Int32} {nf : (Nat → Int32)} {ns : (Nat → Int32)} {nc : Int32} {wt : (Nat → Nat → Int64)} {bd : (Nat → Nat → Int64)} {off : (Nat → Int64)} {row : (Nat → Int32)} {hw : (Nat → Nat → Int64)} {rl : Int32} {tm : (Nat → Int64)} {ord : (Nat → Int32)} {tc : Int32} : (wX ad cI cL cO sc sd src itm knd plc clk ec nf ns nc wt bd off row hw rl tm ord tc)[18]? = some (ad 18, .inl (cL, 301, .inr (.inl tm))) := rfl
theorem wX_18_set {ad : Nat → Nat} {cI cL cO : ClassId} {sc : Int32} {sd : Int32} {src : (Nat → Int32)} {itm : (Nat → Int32)} {knd : (Nat → Int32)} {plc : (Nat → Int32)} {clk : (Nat → Int64)} {ec : Int32} {nf : (Nat → Int32)} {ns : (Nat → Int32)} {nc : Int32} {wt : (Nat → Nat → Int64)} {bd : (Nat → Nat → Int64)} {off : (Nat → Int64)} {row : (Nat → Int32)} {hw : (Nat → Nat → Int64)} {rl : Int32} {tm : (Nat → Int64)} {ord : (Nat → Int32)} {tc : Int32} {f : Nat → Int64} : (wX ad cI cL cO sc sd src itm knd plc clk ec nf ns nc wt bd off row hw rl tm ord tc).set 18 (ad 18, .inl (cL, 301, .inr (.inl f))) = (wX ad cI cL cO sc sd src itm knd plc clk ec nf ns nc wt bd off row hw rl f ord tc) := rfl
theorem wX_19 {ad : Nat → Nat} {cI cL cO : ClassId} {sc : Int32} {sd : Int32} {src : (Nat → Int32)} {itm : (Nat → Int32)} {knd : (Nat → Int32)} {plc : (Nat → Int32)} {clk : (Nat → Int64)} {ec : Int32} {nf : (Nat → Int32)} {ns : (Nat → Int32)} {nc : Int32} {wt : (Nat → Nat → Int64)} {bd : (Nat → Nat → Int64)} {off : (Nat → Int64)} {row : (Nat → Int32)} {hw : (Nat → Nat → Int64)} {rl : Int32} {tm : (Nat → Int64)} {ord : (Nat → Int32)} {tc : Int32} : (wX ad cI cL cO sc sd src itm knd plc clk ec nf ns nc wt bd off row hw rl tm ord tc)[19]? = some (ad 19, .inl (cI, 300, .inl ord)) := rfl
theorem wX_19_set {ad : Nat → Nat} {cI cL cO : ClassId} {sc : Int32} {sd : Int32} {src : (Nat → Int32)} {itm : (Nat → Int32)} {knd : (Nat → Int32)} {plc : (Nat → Int32)} {clk : (Nat → Int64)} {ec : Int32} {nf : (Nat → Int32)} {ns : (Nat → Int32)} {nc : Int32} {wt : (Nat → Nat → Int64)} {bd : (Nat → Nat → Int64)} {off : (Nat → Int64)} {row : (Nat → Int32)} {hw : (Nat → Nat → Int64)} {rl : Int32} {tm : (Nat → Int64)} {ord : (Nat → Int32)} {tc : Int32} {f : Nat → Int32} : (wX ad cI cL cO sc sd src itm knd plc clk ec nf ns nc wt bd off row hw rl tm ord tc).set 19 (ad 19, .inl (cI, 300, .inl f)) = (wX ad cI cL cO sc sd src itm knd plc clk ec nf ns nc wt bd off row hw rl tm f tc) := rfl
theorem wX_wt {ad : Nat → Nat} {cI cL cO : ClassId} {sc : Int32} {sd : Int32} {src : (Nat → Int32)} {itm : (Nat → Int32)} {knd : (Nat → Int32)} {plc : (Nat → Int32)} {clk : (Nat → Int64)} {ec : Int32} {nf : (Nat → Int32)} {ns : (Nat → Int32)} {nc : Int32} {wt : (Nat → Nat → Int64)} {bd : (Nat → Nat → Int64)} {off : (Nat → Int64)} {row : (Nat → Int32)} {hw : (Nat → Nat → Int64)} {rl : Int32} {tm : (Nat → Int64)} {ord : (Nat → Int32)} {tc : Int32} {i : Nat} (h : i < 16) : (wX ad cI cL cO sc sd src itm knd plc clk ec nf ns nc wt bd off row hw rl tm ord tc)[20 + i]? = some (ad (20 + i), .inl (cL, 16, .inr (.inl (wt i)))) := x_app_get rfl (x_app_get_left (x_grid_get h))
theorem wX_wt_set {ad : Nat → Nat} {cI cL cO : ClassId} {sc : Int32} {sd : Int32} {src : (Nat → Int32)} {itm : (Nat → Int32)} {knd : (Nat → Int32)} {plc : (Nat → Int32)} {clk : (Nat → Int64)} {ec : Int32} {nf : (Nat → Int32)} {ns : (Nat → Int32)} {nc : Int32} {wt : (Nat → Nat → Int64)} {bd : (Nat → Nat → Int64)} {off : (Nat → Int64)} {row : (Nat → Int32)} {hw : (Nat → Nat → Int64)} {rl : Int32} {tm : (Nat → Int64)} {ord : (Nat → Int32)} {tc : Int32} {i : Nat} {f : Nat → Int64} (h : i < 16) : (wX ad cI cL cO sc sd src itm knd plc clk ec nf ns nc wt bd off row hw rl tm ord tc).set (20 + i) (ad (20 + i), .inl (cL, 16, .inr (.inl f))) = (wX ad cI cL cO sc sd src itm knd plc clk ec nf ns nc (va_up wt i f) bd off row hw rl tm ord tc) := x_app_set rfl (x_app_set_left (by rw [x_grid_len]; exact h) (x_grid_set h))
theorem wX_bd {ad : Nat → Nat} {cI cL cO : ClassId} {sc : Int32} {sd : Int32} {src : (Nat → Int32)} {itm : (Nat → Int32)} {knd : (Nat → Int32)} {plc : (Nat → Int32)} {clk : (Nat → Int64)} {ec : Int32} {nf : (Nat → Int32)} {ns : (Nat → Int32)} {nc : Int32} {wt : (Nat → Nat → Int64)} {bd : (Nat → Nat → Int64)} {off : (Nat → Int64)} {row : (Nat → Int32)} {hw : (Nat → Nat → Int64)} {rl : Int32} {tm : (Nat → Int64)} {ord : (Nat → Int32)} {tc : Int32} {i : Nat} (h : i < 16) : (wX ad cI cL cO sc sd src itm knd plc clk ec nf ns nc wt bd off row hw rl tm ord tc)[36 + i]? = some (ad (36 + i), .inl (cL, 16, .inr (.inl (bd i)))) := by
  have e : 36 + i = (20 + (16 + i)) := by omega
  exact (congrArg (fun q => (wX ad cI cL cO sc sd src itm knd plc clk ec nf ns nc wt bd off row hw rl tm ord tc)[q]?) e).trans (x_app_get rfl (x_app_get x_grid_len (x_app_get_left (x_grid_get h))))
theorem wX_bd_set {ad : Nat → Nat} {cI cL cO : ClassId} {sc : Int32} {sd : Int32} {src : (Nat → Int32)} {itm : (Nat → Int32)} {knd : (Nat → Int32)} {plc : (Nat → Int32)} {clk : (Nat → Int64)} {ec : Int32} {nf : (Nat → Int32)} {ns : (Nat → Int32)} {nc : Int32} {wt : (Nat → Nat → Int64)} {bd : (Nat → Nat → Int64)} {off : (Nat → Int64)} {row : (Nat → Int32)} {hw : (Nat → Nat → Int64)} {rl : Int32} {tm : (Nat → Int64)} {ord : (Nat → Int32)} {tc : Int32} {i : Nat} {f : Nat → Int64} (h : i < 16) : (wX ad cI cL cO sc sd src itm knd plc clk ec nf ns nc wt bd off row hw rl tm ord tc).set (36 + i) (ad (36 + i), .inl (cL, 16, .inr (.inl f))) = (wX ad cI cL cO sc sd src itm knd plc clk ec nf ns nc wt (va_up bd i f) off row hw rl tm ord tc) := by
  have e : 36 + i = (20 + (16 + i)) := by omega
  exact (congrArg (fun q => (wX ad cI cL cO sc sd src itm knd plc clk ec nf ns nc wt bd off row hw rl tm ord tc).set q (ad (36 + i), .inl (cL, 16, .inr (.inl f)))) e).trans (x_app_set rfl (x_app_set x_grid_len (x_app_set_left (by rw [x_grid_len]; exact h) (x_grid_set h))))
theorem wX_hw {ad : Nat → Nat} {cI cL cO : ClassId} {sc : Int32} {sd : Int32} {src : (Nat → Int32)} {itm : (Nat → Int32)} {knd : (Nat → Int32)} {plc : (Nat → Int32)} {clk : (Nat → Int64)} {ec : Int32} {nf : (Nat → Int32)} {ns : (Nat → Int32)} {nc : Int32} {wt : (Nat → Nat → Int64)} {bd : (Nat → Nat → Int64)} {off : (Nat → Int64)} {row : (Nat → Int32)} {hw : (Nat → Nat → Int64)} {rl : Int32} {tm : (Nat → Int64)} {ord : (Nat → Int32)} {tc : Int32} {i : Nat} (h : i < 17) : (wX ad cI cL cO sc sd src itm knd plc clk ec nf ns nc wt bd off row hw rl tm ord tc)[52 + i]? = some (ad (52 + i), .inl (cL, 16, .inr (.inl (hw i)))) := by
  have e : 52 + i = (20 + (16 + (16 + i))) := by omega
  exact (congrArg (fun q => (wX ad cI cL cO sc sd src itm knd plc clk ec nf ns nc wt bd off row hw rl tm ord tc)[q]?) e).trans (x_app_get rfl (x_app_get x_grid_len (x_app_get x_grid_len (x_grid_get h))))
theorem wX_hw_set {ad : Nat → Nat} {cI cL cO : ClassId} {sc : Int32} {sd : Int32} {src : (Nat → Int32)} {itm : (Nat → Int32)} {knd : (Nat → Int32)} {plc : (Nat → Int32)} {clk : (Nat → Int64)} {ec : Int32} {nf : (Nat → Int32)} {ns : (Nat → Int32)} {nc : Int32} {wt : (Nat → Nat → Int64)} {bd : (Nat → Nat → Int64)} {off : (Nat → Int64)} {row : (Nat → Int32)} {hw : (Nat → Nat → Int64)} {rl : Int32} {tm : (Nat → Int64)} {ord : (Nat → Int32)} {tc : Int32} {i : Nat} {f : Nat → Int64} (h : i < 17) : (wX ad cI cL cO sc sd src itm knd plc clk ec nf ns nc wt bd off row hw rl tm ord tc).set (52 + i) (ad (52 + i), .inl (cL, 16, .inr (.inl f))) = (wX ad cI cL cO sc sd src itm knd plc clk ec nf ns nc wt bd off row (va_up hw i f) rl tm ord tc) := by
  have e : 52 + i = (20 + (16 + (16 + i))) := by omega
  exact (congrArg (fun q => (wX ad cI cL cO sc sd src itm knd plc clk ec nf ns nc wt bd off row hw rl tm ord tc).set q (ad (52 + i), .inl (cL, 16, .inr (.inl f)))) e).trans (x_app_set rfl (x_app_set x_grid_len (x_app_set x_grid_len (x_grid_set h))))
end
section
def wM (ad : Nat → Nat) (cI cL cO : ClassId) (mth : Int32) (msc : Int32) (mec : Int32) (msrc : (Nat → Int32)) (mitm : (Nat → Int32)) (mknd : (Nat → Int32)) (mplc : (Nat → Int32)) (mclk : (Nat → Int64)) (mnc : Int32) (mnf : (Nat → Int32)) (mns : (Nat → Int32)) (msd : Int32) (mrl : Int32) (mrow : (Nat → Int32)) (mw : (Nat → Int64)) (mb : (Nat → Int64)) (mway : (Nat → Int64)) (moff : (Nat → Int64)) : va_W :=
    [(ad 0, .inr (6, [.int mth, .int msc, .int mec, .ref (ad 1), .ref (ad 2), .ref (ad 3), .ref (ad 4), .ref (ad 5), .int mnc, .ref (ad 6), .ref (ad 7), .int msd, .int mrl, .ref (ad 8), .ref (ad 9), .ref (ad 10), .ref (ad 11), .ref (ad 12)])),
    (ad 1, .inl (cI, 301, .inl msrc)),
    (ad 2, .inl (cI, 301, .inl mitm)),
    (ad 3, .inl (cI, 301, .inl mknd)),
    (ad 4, .inl (cI, 301, .inl mplc)),
    (ad 5, .inl (cL, 301, .inr (.inl mclk))),
    (ad 6, .inl (cI, 300, .inl mnf)),
    (ad 7, .inl (cI, 300, .inl mns)),
    (ad 8, .inl (cI, 16, .inl mrow)),
    (ad 9, .inl (cL, 256, .inr (.inl mw))),
    (ad 10, .inl (cL, 256, .inr (.inl mb))),
    (ad 11, .inl (cL, 4352, .inr (.inl mway))),
    (ad 12, .inl (cL, 16, .inr (.inl moff)))]
theorem wM_0 {ad : Nat → Nat} {cI cL cO : ClassId} {mth : Int32} {msc : Int32} {mec : Int32} {msrc : (Nat → Int32)} {mitm : (Nat → Int32)} {mknd : (Nat → Int32)} {mplc : (Nat → Int32)} {mclk : (Nat → Int64)} {mnc : Int32} {mnf : (Nat → Int32)} {mns : (Nat → Int32)} {msd : Int32} {mrl : Int32} {mrow : (Nat → Int32)} {mw : (Nat → Int64)} {mb : (Nat → Int64)} {mway : (Nat → Int64)} {moff : (Nat → Int64)} : (wM ad cI cL cO mth msc mec msrc mitm mknd mplc mclk mnc mnf mns msd mrl mrow mw mb mway moff)[0]? = some (ad 0, .inr (6, [.int mth, .int msc, .int mec, .ref (ad 1), .ref (ad 2), .ref (ad 3), .ref (ad 4), .ref (ad 5), .int mnc, .ref (ad 6), .ref (ad 7), .int msd, .int mrl, .ref (ad 8), .ref (ad 9), .ref (ad 10), .ref (ad 11), .ref (ad 12)])) := rfl
theorem wM_1 {ad : Nat → Nat} {cI cL cO : ClassId} {mth : Int32} {msc : Int32} {mec : Int32} {msrc : (Nat → Int32)} {mitm : (Nat → Int32)} {mknd : (Nat → Int32)} {mplc : (Nat → Int32)} {mclk : (Nat → Int64)} {mnc : Int32} {mnf : (Nat → Int32)} {mns : (Nat → Int32)} {msd : Int32} {mrl : Int32} {mrow : (Nat → Int32)} {mw : (Nat → Int64)} {mb : (Nat → Int64)} {mway : (Nat → Int64)} {moff : (Nat → Int64)} : (wM ad cI cL cO mth msc mec msrc mitm mknd mplc mclk mnc mnf mns msd mrl mrow mw mb mway moff)[1]? = some (ad 1, .inl (cI, 301, .inl msrc)) := rfl
theorem wM_1_set {ad : Nat → Nat} {cI cL cO : ClassId} {mth : Int32} {msc : Int32} {mec : Int32} {msrc : (Nat → Int32)} {mitm : (Nat → Int32)} {mknd : (Nat → Int32)} {mplc : (Nat → Int32)} {mclk : (Nat → Int64)} {mnc : Int32} {mnf : (Nat → Int32)} {mns : (Nat → Int32)} {msd : Int32} {mrl : Int32} {mrow : (Nat → Int32)} {mw : (Nat → Int64)} {mb : (Nat → Int64)} {mway : (Nat → Int64)} {moff : (Nat → Int64)} {f : Nat → Int32} : (wM ad cI cL cO mth msc mec msrc mitm mknd mplc mclk mnc mnf mns msd mrl mrow mw mb mway moff).set 1 (ad 1, .inl (cI, 301, .inl f)) = (wM ad cI cL cO mth msc mec f mitm mknd mplc mclk mnc mnf mns msd mrl mrow mw mb mway moff) := rfl
theorem wM_2 {ad : Nat → Nat} {cI cL cO : ClassId} {mth : Int32} {msc : Int32} {mec : Int32} {msrc : (Nat → Int32)} {mitm : (Nat → Int32)} {mknd : (Nat → Int32)} {mplc : (Nat → Int32)} {mclk : (Nat → Int64)} {mnc : Int32} {mnf : (Nat → Int32)} {mns : (Nat → Int32)} {msd : Int32} {mrl : Int32} {mrow : (Nat → Int32)} {mw : (Nat → Int64)} {mb : (Nat → Int64)} {mway : (Nat → Int64)} {moff : (Nat → Int64)} : (wM ad cI cL cO mth msc mec msrc mitm mknd mplc mclk mnc mnf mns msd mrl mrow mw mb mway moff)[2]? = some (ad 2, .inl (cI, 301, .inl mitm)) := rfl
theorem wM_2_set {ad : Nat → Nat} {cI cL cO : ClassId} {mth : Int32} {msc : Int32} {mec : Int32} {msrc : (Nat → Int32)} {mitm : (Nat → Int32)} {mknd : (Nat → Int32)} {mplc : (Nat → Int32)} {mclk : (Nat → Int64)} {mnc : Int32} {mnf : (Nat → Int32)} {mns : (Nat → Int32)} {msd : Int32} {mrl : Int32} {mrow : (Nat → Int32)} {mw : (Nat → Int64)} {mb : (Nat → Int64)} {mway : (Nat → Int64)} {moff : (Nat → Int64)} {f : Nat → Int32} : (wM ad cI cL cO mth msc mec msrc mitm mknd mplc mclk mnc mnf mns msd mrl mrow mw mb mway moff).set 2 (ad 2, .inl (cI, 301, .inl f)) = (wM ad cI cL cO mth msc mec msrc f mknd mplc mclk mnc mnf mns msd mrl mrow mw mb mway moff) := rfl
theorem wM_3 {ad : Nat → Nat} {cI cL cO : ClassId} {mth : Int32} {msc : Int32} {mec : Int32} {msrc : (Nat → Int32)} {mitm : (Nat → Int32)} {mknd : (Nat → Int32)} {mplc : (Nat → Int32)} {mclk : (Nat → Int64)} {mnc : Int32} {mnf : (Nat → Int32)} {mns : (Nat → Int32)} {msd : Int32} {mrl : Int32} {mrow : (Nat → Int32)} {mw : (Nat → Int64)} {mb : (Nat → Int64)} {mway : (Nat → Int64)} {moff : (Nat → Int64)} : (wM ad cI cL cO mth msc mec msrc mitm mknd mplc mclk mnc mnf mns msd mrl mrow mw mb mway moff)[3]? = some (ad 3, .inl (cI, 301, .inl mknd)) := rfl
theorem wM_3_set {ad : Nat → Nat} {cI cL cO : ClassId} {mth : Int32} {msc : Int32} {mec : Int32} {msrc : (Nat → Int32)} {mitm : (Nat → Int32)} {mknd : (Nat → Int32)} {mplc : (Nat → Int32)} {mclk : (Nat → Int64)} {mnc : Int32} {mnf : (Nat → Int32)} {mns : (Nat → Int32)} {msd : Int32} {mrl : Int32} {mrow : (Nat → Int32)} {mw : (Nat → Int64)} {mb : (Nat → Int64)} {mway : (Nat → Int64)} {moff : (Nat → Int64)} {f : Nat → Int32} : (wM ad cI cL cO mth msc mec msrc mitm mknd mplc mclk mnc mnf mns msd mrl mrow mw mb mway moff).set 3 (ad 3, .inl (cI, 301, .inl f)) = (wM ad cI cL cO mth msc mec msrc mitm f mplc mclk mnc mnf mns msd mrl mrow mw mb mway moff) := rfl
theorem wM_4 {ad : Nat → Nat} {cI cL cO : ClassId} {mth : Int32} {msc : Int32} {mec : Int32} {msrc : (Nat → Int32)} {mitm : (Nat → Int32)} {mknd : (Nat → Int32)} {mplc : (Nat → Int32)} {mclk : (Nat → Int64)} {mnc : Int32} {mnf : (Nat → Int32)} {mns : (Nat → Int32)} {msd : Int32} {mrl : Int32} {mrow : (Nat → Int32)} {mw : (Nat → Int64)} {mb : (Nat → Int64)} {mway : (Nat → Int64)} {moff : (Nat → Int64)} : (wM ad cI cL cO mth msc mec msrc mitm mknd mplc mclk mnc mnf mns msd mrl mrow mw mb mway moff)[4]? = some (ad 4, .inl (cI, 301, .inl mplc)) := rfl
theorem wM_4_set {ad : Nat → Nat} {cI cL cO : ClassId} {mth : Int32} {msc : Int32} {mec : Int32} {msrc : (Nat → Int32)} {mitm : (Nat → Int32)} {mknd : (Nat → Int32)} {mplc : (Nat → Int32)} {mclk : (Nat → Int64)} {mnc : Int32} {mnf : (Nat → Int32)} {mns : (Nat → Int32)} {msd : Int32} {mrl : Int32} {mrow : (Nat → Int32)} {mw : (Nat → Int64)} {mb : (Nat → Int64)} {mway : (Nat → Int64)} {moff : (Nat → Int64)} {f : Nat → Int32} : (wM ad cI cL cO mth msc mec msrc mitm mknd mplc mclk mnc mnf mns msd mrl mrow mw mb mway moff).set 4 (ad 4, .inl (cI, 301, .inl f)) = (wM ad cI cL cO mth msc mec msrc mitm mknd f mclk mnc mnf mns msd mrl mrow mw mb mway moff) := rfl
theorem wM_5 {ad : Nat → Nat} {cI cL cO : ClassId} {mth : Int32} {msc : Int32} {mec : Int32} {msrc : (Nat → Int32)} {mitm : (Nat → Int32)} {mknd : (Nat → Int32)} {mplc : (Nat → Int32)} {mclk : (Nat → Int64)} {mnc : Int32} {mnf : (Nat → Int32)} {mns : (Nat → Int32)} {msd : Int32} {mrl : Int32} {mrow : (Nat → Int32)} {mw : (Nat → Int64)} {mb : (Nat → Int64)} {mway : (Nat → Int64)} {moff : (Nat → Int64)} : (wM ad cI cL cO mth msc mec msrc mitm mknd mplc mclk mnc mnf mns msd mrl mrow mw mb mway moff)[5]? = some (ad 5, .inl (cL, 301, .inr (.inl mclk))) := rfl
theorem wM_5_set {ad : Nat → Nat} {cI cL cO : ClassId} {mth : Int32} {msc : Int32} {mec : Int32} {msrc : (Nat → Int32)} {mitm : (Nat → Int32)} {mknd : (Nat → Int32)} {mplc : (Nat → Int32)} {mclk : (Nat → Int64)} {mnc : Int32} {mnf : (Nat → Int32)} {mns : (Nat → Int32)} {msd : Int32} {mrl : Int32} {mrow : (Nat → Int32)} {mw : (Nat → Int64)} {mb : (Nat → Int64)} {mway : (Nat → Int64)} {moff : (Nat → Int64)} {f : Nat → Int64} : (wM ad cI cL cO mth msc mec msrc mitm mknd mplc mclk mnc mnf mns msd mrl mrow mw mb mway moff).set 5 (ad 5, .inl (cL, 301, .inr (.inl f))) = (wM ad cI cL cO mth msc mec msrc mitm mknd mplc f mnc mnf mns msd mrl mrow mw mb mway moff) := rfl
theorem wM_6 {ad : Nat → Nat} {cI cL cO : ClassId} {mth : Int32} {msc : Int32} {mec : Int32} {msrc : (Nat → Int32)} {mitm : (Nat → Int32)} {mknd : (Nat → Int32)} {mplc : (Nat → Int32)} {mclk : (Nat → Int64)} {mnc : Int32} {mnf : (Nat → Int32)} {mns : (Nat → Int32)} {msd : Int32} {mrl : Int32} {mrow : (Nat → Int32)} {mw : (Nat → Int64)} {mb : (Nat → Int64)} {mway : (Nat → Int64)} {moff : (Nat → Int64)} : (wM ad cI cL cO mth msc mec msrc mitm mknd mplc mclk mnc mnf mns msd mrl mrow mw mb mway moff)[6]? = some (ad 6, .inl (cI, 300, .inl mnf)) := rfl
theorem wM_6_set {ad : Nat → Nat} {cI cL cO : ClassId} {mth : Int32} {msc : Int32} {mec : Int32} {msrc : (Nat → Int32)} {mitm : (Nat → Int32)} {mknd : (Nat → Int32)} {mplc : (Nat → Int32)} {mclk : (Nat → Int64)} {mnc : Int32} {mnf : (Nat → Int32)} {mns : (Nat → Int32)} {msd : Int32} {mrl : Int32} {mrow : (Nat → Int32)} {mw : (Nat → Int64)} {mb : (Nat → Int64)} {mway : (Nat → Int64)} {moff : (Nat → Int64)} {f : Nat → Int32} : (wM ad cI cL cO mth msc mec msrc mitm mknd mplc mclk mnc mnf mns msd mrl mrow mw mb mway moff).set 6 (ad 6, .inl (cI, 300, .inl f)) = (wM ad cI cL cO mth msc mec msrc mitm mknd mplc mclk mnc f mns msd mrl mrow mw mb mway moff) := rfl
theorem wM_7 {ad : Nat → Nat} {cI cL cO : ClassId} {mth : Int32} {msc : Int32} {mec : Int32} {msrc : (Nat → Int32)} {mitm : (Nat → Int32)} {mknd : (Nat → Int32)} {mplc : (Nat → Int32)} {mclk : (Nat → Int64)} {mnc : Int32} {mnf : (Nat → Int32)} {mns : (Nat → Int32)} {msd : Int32} {mrl : Int32} {mrow : (Nat → Int32)} {mw : (Nat → Int64)} {mb : (Nat → Int64)} {mway : (Nat → Int64)} {moff : (Nat → Int64)} : (wM ad cI cL cO mth msc mec msrc mitm mknd mplc mclk mnc mnf mns msd mrl mrow mw mb mway moff)[7]? = some (ad 7, .inl (cI, 300, .inl mns)) := rfl
theorem wM_7_set {ad : Nat → Nat} {cI cL cO : ClassId} {mth : Int32} {msc : Int32} {mec : Int32} {msrc : (Nat → Int32)} {mitm : (Nat → Int32)} {mknd : (Nat → Int32)} {mplc : (Nat → Int32)} {mclk : (Nat → Int64)} {mnc : Int32} {mnf : (Nat → Int32)} {mns : (Nat → Int32)} {msd : Int32} {mrl : Int32} {mrow : (Nat → Int32)} {mw : (Nat → Int64)} {mb : (Nat → Int64)} {mway : (Nat → Int64)} {moff : (Nat → Int64)} {f : Nat → Int32} : (wM ad cI cL cO mth msc mec msrc mitm mknd mplc mclk mnc mnf mns msd mrl mrow mw mb mway moff).set 7 (ad 7, .inl (cI, 300, .inl f)) = (wM ad cI cL cO mth msc mec msrc mitm mknd mplc mclk mnc mnf f msd mrl mrow mw mb mway moff) := rfl
theorem wM_8 {ad : Nat → Nat} {cI cL cO : ClassId} {mth : Int32} {msc : Int32} {mec : Int32} {msrc : (Nat → Int32)} {mitm : (Nat → Int32)} {mknd : (Nat → Int32)} {mplc : (Nat → Int32)} {mclk : (Nat → Int64)} {mnc : Int32} {mnf : (Nat → Int32)} {mns : (Nat → Int32)} {msd : Int32} {mrl : Int32} {mrow : (Nat → Int32)} {mw : (Nat → Int64)} {mb : (Nat → Int64)} {mway : (Nat → Int64)} {moff : (Nat → Int64)} : (wM ad cI cL cO mth msc mec msrc mitm mknd mplc mclk mnc mnf mns msd mrl mrow mw mb mway moff)[8]? = some (ad 8, .inl (cI, 16, .inl mrow)) := rfl
theorem wM_8_set {ad : Nat → Nat} {cI cL cO : ClassId} {mth : Int32} {msc : Int32} {mec : Int32} {msrc : (Nat → Int32)} {mitm : (Nat → Int32)} {mknd : (Nat → Int32)} {mplc : (Nat → Int32)} {mclk : (Nat → Int64)} {mnc : Int32} {mnf : (Nat → Int32)} {mns : (Nat → Int32)} {msd : Int32} {mrl : Int32} {mrow : (Nat → Int32)} {mw : (Nat → Int64)} {mb : (Nat → Int64)} {mway : (Nat → Int64)} {moff : (Nat → Int64)} {f : Nat → Int32} : (wM ad cI cL cO mth msc mec msrc mitm mknd mplc mclk mnc mnf mns msd mrl mrow mw mb mway moff).set 8 (ad 8, .inl (cI, 16, .inl f)) = (wM ad cI cL cO mth msc mec msrc mitm mknd mplc mclk mnc mnf mns msd mrl f mw mb mway moff) := rfl
theorem wM_9 {ad : Nat → Nat} {cI cL cO : ClassId} {mth : Int32} {msc : Int32} {mec : Int32} {msrc : (Nat → Int32)} {mitm : (Nat → Int32)} {mknd : (Nat → Int32)} {mplc : (Nat → Int32)} {mclk : (Nat → Int64)} {mnc : Int32} {mnf : (Nat → Int32)} {mns : (Nat → Int32)} {msd : Int32} {mrl : Int32} {mrow : (Nat → Int32)} {mw : (Nat → Int64)} {mb : (Nat → Int64)} {mway : (Nat → Int64)} {moff : (Nat → Int64)} : (wM ad cI cL cO mth msc mec msrc mitm mknd mplc mclk mnc mnf mns msd mrl mrow mw mb mway moff)[9]? = some (ad 9, .inl (cL, 256, .inr (.inl mw))) := rfl
theorem wM_9_set {ad : Nat → Nat} {cI cL cO : ClassId} {mth : Int32} {msc : Int32} {mec : Int32} {msrc : (Nat → Int32)} {mitm : (Nat → Int32)} {mknd : (Nat → Int32)} {mplc : (Nat → Int32)} {mclk : (Nat → Int64)} {mnc : Int32} {mnf : (Nat → Int32)} {mns : (Nat → Int32)} {msd : Int32} {mrl : Int32} {mrow : (Nat → Int32)} {mw : (Nat → Int64)} {mb : (Nat → Int64)} {mway : (Nat → Int64)} {moff : (Nat → Int64)} {f : Nat → Int64} : (wM ad cI cL cO mth msc mec msrc mitm mknd mplc mclk mnc mnf mns msd mrl mrow mw mb mway moff).set 9 (ad 9, .inl (cL, 256, .inr (.inl f))) = (wM ad cI cL cO mth msc mec msrc mitm mknd mplc mclk mnc mnf mns msd mrl mrow f mb mway moff) := rfl
theorem wM_10 {ad : Nat → Nat} {cI cL cO : ClassId} {mth : Int32} {msc : Int32} {mec : Int32} {msrc : (Nat → Int32)} {mitm : (Nat → Int32)} {mknd : (Nat → Int32)} {mplc : (Nat → Int32)} {mclk : (Nat → Int64)} {mnc : Int32} {mnf : (Nat → Int32)} {mns : (Nat → Int32)} {msd : Int32} {mrl : Int32} {mrow : (Nat → Int32)} {mw : (Nat → Int64)} {mb : (Nat → Int64)} {mway : (Nat → Int64)} {moff : (Nat → Int64)} : (wM ad cI cL cO mth msc mec msrc mitm mknd mplc mclk mnc mnf mns msd mrl mrow mw mb mway moff)[10]? = some (ad 10, .inl (cL, 256, .inr (.inl mb))) := rfl
theorem wM_10_set {ad : Nat → Nat} {cI cL cO : ClassId} {mth : Int32} {msc : Int32} {mec : Int32} {msrc : (Nat → Int32)} {mitm : (Nat → Int32)} {mknd : (Nat → Int32)} {mplc : (Nat → Int32)} {mclk : (Nat → Int64)} {mnc : Int32} {mnf : (Nat → Int32)} {mns : (Nat → Int32)} {msd : Int32} {mrl : Int32} {mrow : (Nat → Int32)} {mw : (Nat → Int64)} {mb : (Nat → Int64)} {mway : (Nat → Int64)} {moff : (Nat → Int64)} {f : Nat → Int64} : (wM ad cI cL cO mth msc mec msrc mitm mknd mplc mclk mnc mnf mns msd mrl mrow mw mb mway moff).set 10 (ad 10, .inl (cL, 256, .inr (.inl f))) = (wM ad cI cL cO mth msc mec msrc mitm mknd mplc mclk mnc mnf mns msd mrl mrow mw f mway moff) := rfl
theorem wM_11 {ad : Nat → Nat} {cI cL cO : ClassId} {mth : Int32} {msc : Int32} {mec : Int32} {msrc : (Nat → Int32)} {mitm : (Nat → Int32)} {mknd : (Nat → Int32)} {mplc : (Nat → Int32)} {mclk : (Nat → Int64)} {mnc : Int32} {mnf : (Nat → Int32)} {mns : (Nat → Int32)} {msd : Int32} {mrl : Int32} {mrow : (Nat → Int32)} {mw : (Nat → Int64)} {mb : (Nat → Int64)} {mway : (Nat → Int64)} {moff : (Nat → Int64)} : (wM ad cI cL cO mth msc mec msrc mitm mknd mplc mclk mnc mnf mns msd mrl mrow mw mb mway moff)[11]? = some (ad 11, .inl (cL, 4352, .inr (.inl mway))) := rfl
theorem wM_11_set {ad : Nat → Nat} {cI cL cO : ClassId} {mth : Int32} {msc : Int32} {mec : Int32} {msrc : (Nat → Int32)} {mitm : (Nat → Int32)} {mknd : (Nat → Int32)} {mplc : (Nat → Int32)} {mclk : (Nat → Int64)} {mnc : Int32} {mnf : (Nat → Int32)} {mns : (Nat → Int32)} {msd : Int32} {mrl : Int32} {mrow : (Nat → Int32)} {mw : (Nat → Int64)} {mb : (Nat → Int64)} {mway : (Nat → Int64)} {moff : (Nat → Int64)} {f : Nat → Int64} : (wM ad cI cL cO mth msc mec msrc mitm mknd mplc mclk mnc mnf mns msd mrl mrow mw mb mway moff).set 11 (ad 11, .inl (cL, 4352, .inr (.inl f))) = (wM ad cI cL cO mth msc mec msrc mitm mknd mplc mclk mnc mnf mns msd mrl mrow mw mb f moff) := rfl
theorem wM_12 {ad : Nat → Nat} {cI cL cO : ClassId} {mth : Int32} {msc : Int32} {mec : Int32} {msrc : (Nat → Int32)} {mitm : (Nat → Int32)} {mknd : (Nat → Int32)} {mplc : (Nat → Int32)} {mclk : (Nat → Int64)} {mnc : Int32} {mnf : (Nat → Int32)} {mns : (Nat → Int32)} {msd : Int32} {mrl : Int32} {mrow : (Nat → Int32)} {mw : (Nat → Int64)} {mb : (Nat → Int64)} {mway : (Nat → Int64)} {moff : (Nat → Int64)} : (wM ad cI cL cO mth msc mec msrc mitm mknd mplc mclk mnc mnf mns msd mrl mrow mw mb mway moff)[12]? = some (ad 12, .inl (cL, 16, .inr (.inl moff))) := rfl
theorem wM_12_set {ad : Nat → Nat} {cI cL cO : ClassId} {mth : Int32} {msc : Int32} {mec : Int32} {msrc : (Nat → Int32)} {mitm : (Nat → Int32)} {mknd : (Nat → Int32)} {mplc : (Nat → Int32)} {mclk : (Nat → Int64)} {mnc : Int32} {mnf : (Nat → Int32)} {mns : (Nat → Int32)} {msd : Int32} {mrl : Int32} {mrow : (Nat → Int32)} {mw : (Nat → Int64)} {mb : (Nat → Int64)} {mway : (Nat → Int64)} {moff : (Nat → Int64)} {f : Nat → Int64} : (wM ad cI cL cO mth msc mec msrc mitm mknd mplc mclk mnc mnf mns msd mrl mrow mw mb mway moff).set 12 (ad 12, .inl (cL, 16, .inr (.inl f))) = (wM ad cI cL cO mth msc mec msrc mitm mknd mplc mclk mnc mnf mns msd mrl mrow mw mb mway f) := rfl
end
section
section XR
variable {p : Program} {l : Launch} {e : Env} {R : Room} {s : State} {m : MethodId} {args : Array Value} {below : List Frame} {meth : Method} {c : Code} {Q : State → Prop} {cells slots : Nat}
variable {D : va_G} {cl : List vw_C} {tys : List (ClassId × FieldType)} {A : Nat → Prop} {nL : Nat} {cc : ByteArray} {TB : List Cond} {own : String}
variable {ws ws' : va_W} {pc : Nat} {lv lv' : List (Nat × Value)} {st : List Value}

theorem x_P_mem {H : Heap} (h : va_P D cl ws H) : ∀ q ∈ ws, va_at D cl q H := fun q hq => by
  obtain ⟨i, hi⟩ := List.getElem?_of_mem hq
  exact h i q hi
theorem x_mem_P {H : Heap} (h : ∀ q ∈ ws, va_at D cl q H) : va_P D cl ws H := fun _ q hk => h q (List.mem_of_getElem? hk)
theorem x_D_iff : va_D A ws ↔ (ws.map Prod.fst).Nodup ∧ ∀ q ∈ ws, A q.1 := by
  constructor
  · intro h
    refine ⟨?_, fun q hq => by obtain ⟨i, hi⟩ := List.getElem?_of_mem hq; exact h.2 i q hi⟩
    rw [List.Nodup, List.pairwise_iff_getElem]
    intro i j hi hj hij e
    rw [List.length_map] at hi hj
    rw [List.getElem_map, List.getElem_map] at e
    have := h.1 i j _ _ (List.getElem?_eq_getElem hi) (List.getElem?_eq_getElem hj) e
    omega
  · rintro ⟨h1, h2⟩
    rw [List.Nodup, List.pairwise_iff_getElem] at h1
    have key : ∀ (i j : Nat) (p q : Nat × va_E), ws[i]? = some p → ws[j]? = some q → i < j → p.1 ≠ q.1 := by
      intro i j p q hi hj hij e
      obtain ⟨hi1, hi2⟩ := List.getElem?_eq_some_iff.mp hi
      obtain ⟨hj1, hj2⟩ := List.getElem?_eq_some_iff.mp hj
      refine h1 i j (by rw [List.length_map]; exact hi1) (by rw [List.length_map]; exact hj1) hij ?_
      rw [List.getElem_map, List.getElem_map, hi2, hj2]
      exact e
    refine ⟨fun i j p q hi hj e => ?_, fun k q hk => h2 q (List.mem_of_getElem? hk)⟩
    rcases Nat.lt_trichotomy i j with g | g | g
    · exact absurd e (key i j p q hi hj g)
    · exact g
    · exact absurd e.symm (key j i q p hj hi g)
theorem x_D_perm (h : va_D A ws) (hp : ws.Perm ws') : va_D A ws' := by
  obtain ⟨h1, h2⟩ := x_D_iff.mp h
  exact x_D_iff.mpr ⟨(hp.map Prod.fst).nodup_iff.mp h1, fun q hq => h2 q (hp.mem_iff.mpr hq)⟩
theorem x_P_perm {H : Heap} (h : va_P D cl ws H) (hp : ws.Perm ws') : va_P D cl ws' H := x_mem_P fun q hq => x_P_mem h q (hp.mem_iff.mpr hq)
theorem x_A_iff {sz q : Nat} : va_A ws sz q ↔ q ∈ ws.map Prod.fst ∨ sz ≤ q := by
  constructor
  · rintro (⟨k, e, h⟩ | h)
    · exact Or.inl (List.mem_map.mpr ⟨_, List.mem_of_getElem? h, rfl⟩)
    · exact Or.inr h
  · rintro (h | h)
    · obtain ⟨x, hx, rfl⟩ := List.mem_map.mp h
      obtain ⟨i, hi⟩ := List.getElem?_of_mem hx
      exact Or.inl ⟨i, x.2, hi⟩
    · exact Or.inr h
theorem x_fr_P {wl w1 wr : va_W} {H : Heap} (h : va_P D cl (wl ++ (w1 ++ wr)) H) : va_P D cl w1 H := x_mem_P fun q hq => x_P_mem h q (by simp [hq])
theorem x_fr_D {wl w1 wr : va_W} (h : va_D A (wl ++ (w1 ++ wr))) : va_D A w1 := by
  obtain ⟨h1, h2⟩ := x_D_iff.mp h
  rw [List.map_append, List.map_append] at h1
  exact x_D_iff.mpr ⟨(List.nodup_append.mp (List.nodup_append.mp h1).2.1).1, fun q hq => h2 q (by simp [hq])⟩
theorem x_fr_join {wl w1 wr w2 : va_W} {H H1 : Heap} (hP : va_P D cl (wl ++ (w1 ++ wr)) H) (hD : va_D A (wl ++ (w1 ++ wr))) (hk : ∀ q : Nat, q < H.size → ¬ va_A w1 H.size q → H1[q]? = H[q]?) (hF : ∀ q, va_A w1 H.size q → A q) (hP1 : va_P D cl w2 H1) (hD1 : va_D (va_A w1 H.size) w2) : va_P D cl (wl ++ (w2 ++ wr)) H1 ∧ va_D A (wl ++ (w2 ++ wr)) := by
  obtain ⟨h1, h2⟩ := x_D_iff.mp hD
  obtain ⟨g1, g2⟩ := x_D_iff.mp hD1
  have hlt : ∀ q ∈ wl ++ (w1 ++ wr), q.1 < H.size := fun q hq => (x_P_mem hP q hq).lt
  rw [List.map_append, List.map_append] at h1
  obtain ⟨nl, nr, dl⟩ := List.nodup_append.mp h1
  obtain ⟨n1, nr', d1⟩ := List.nodup_append.mp nr
  have out1 : ∀ q ∈ wl, ¬ va_A w1 H.size q.1 := fun q hq hA => by
    rcases x_A_iff.mp hA with h | h
    · exact dl q.1 (List.mem_map.mpr ⟨q, hq, rfl⟩) q.1 (List.mem_append_left _ h) rfl
    · have := hlt q (by simp [hq]); omega
  have out2 : ∀ q ∈ wr, ¬ va_A w1 H.size q.1 := fun q hq hA => by
    rcases x_A_iff.mp hA with h | h
    · exact d1 q.1 h q.1 (List.mem_map.mpr ⟨q, hq, rfl⟩) rfl
    · have := hlt q (by simp [hq]); omega
  constructor
  · refine x_mem_P fun q hq => ?_
    rcases List.mem_append.mp hq with h | h
    · exact (x_P_mem hP q (by simp [h])).kept (hk q.1 (hlt q (by simp [h])) (out1 q h))
    · rcases List.mem_append.mp h with h | h
      · exact x_P_mem hP1 q h
      · exact (x_P_mem hP q (by simp [h])).kept (hk q.1 (hlt q (by simp [h])) (out2 q h))
  · refine x_D_iff.mpr ⟨?_, fun q hq => ?_⟩
    · rw [List.map_append, List.map_append]
      refine List.nodup_append.mpr ⟨nl, List.nodup_append.mpr ⟨g1, nr', ?_⟩, ?_⟩
      · intro a ha b hb e
        subst e
        obtain ⟨x, hx, rfl⟩ := List.mem_map.mp ha
        obtain ⟨y, hy, e⟩ := List.mem_map.mp hb
        exact out2 y hy (e ▸ g2 x hx)
      · intro a ha b hb e
        subst e
        obtain ⟨y, hy, e⟩ := List.mem_map.mp ha
        rcases List.mem_append.mp hb with h | h
        · obtain ⟨x, hx, e2⟩ := List.mem_map.mp h
          exact out1 y hy (by rw [e, ← e2]; exact g2 x hx)
        · exact dl a ha a (List.mem_append_right _ h) rfl
    · rcases List.mem_append.mp hq with h | h
      · exact h2 q (by simp [h])
      · rcases List.mem_append.mp h with h | h
        · exact hF _ (g2 q h)
        · exact h2 q (by simp [h])
theorem XC.frF (hC : XC p s m args c D cl tys A nL cc TB own) {wl w1 wr : va_W} {H : Heap} {locs : List Loc} (hD : va_D A (wl ++ (w1 ++ wr))) (hS : va_S A s.heap H locs) : ∀ q, va_A w1 H.size q → A q := fun q h => by
  rcases h with ⟨k, e, h⟩ | h
  · exact (x_fr_D hD).2 k (q, e) h
  · exact hC.2.2.1 q (Nat.le_trans hS.1 h)
theorem XC.frStart (hC : XC p s m args c D cl tys A nL cc TB own) {wl w1 wr : va_W} {H : Heap} {locs : List Loc} (hP : va_P D cl (wl ++ (w1 ++ wr)) H) (hD : va_D A (wl ++ (w1 ++ wr))) (hS : va_S A s.heap H locs) {U : State} (hU : U.heap = H) (hW : s.WarmedH U.vm) : XP D cl tys w1 H.size U := ⟨by rw [hU], by rw [hU]; exact x_fr_P hP, va_K.moved hW.alike hC.2.1, (x_fr_D hD).weaken (fun _ _ _ _ => trivial), by rw [hU]; exact ((hC.2.2.2.2.kept hS.2.1).narrow (hC.frF hD hS)).moved hW⟩
theorem x_ws (h : ws = ws') (k : XW p l e R s m args below meth c D cl A nL Q cells slots ws'  pc lv st) : XW p l e R s m args below meth c D cl A nL Q cells slots ws pc lv st := by subst h; exact k
theorem x_re (hp : ∀ H : Heap, va_P D cl ws H → va_P D cl ws' H) (hd : va_D A ws → va_D A ws') (k : XW p l e R s m args below meth c D cl A nL Q cells slots ws'  pc lv st) : XW p l e R s m args below meth c D cl A nL Q cells slots ws pc lv st := fun H locs ls hP hD hS hl => k H locs ls (hp H hP) (hd hD) hS hl
theorem x_new (hC : XC p s m args c D cl tys A nL cc TB own) {C : String} {T : u_T} {N ci index : Nat} (hin : ∀ w ∈ u_ws C T N, w ∈ TB) (ty : Nat → FieldType) (hty : ∀ k, k < N → parseFieldDescriptor (T k).2.2.1 = some (ty k)) (hcl : Cond.classLink own index C ∈ TB) (hinst : Cond.instantiable C N ∈ TB) (hini : Cond.initialized C ∈ TB) (hc : cl[ci]? = some (C, T, N)) {fs : List Value} (hfs : ∀ j, j < N → defaultValue (ty j) = vp_V fs j) (hcells : cells + 1 ≤ R.cells) (hslots : slots + N ≤ R.slots) (hd : decode cc pc = .ok (.new index, 3)) (k : ∀ q : Nat, XW p l e R s m args below meth c D cl A nL Q (cells + 1) (slots + N) (ws ++ [(q, .inr (ci, fs))]) (pc + 3) lv (.ref q :: st)) : XW p l e R s m args below meth c D cl A nL Q cells slots ws pc lv st := fun H locs ls hP hD hS hl => va_new hC.1.1 hC.1.2.1 hC.1.2.2.2.2 hin ty hty hC.1.2.2.2.1 (hC.ts hcl) (hC.ts hinst) (hC.ts hini) hC.2.1 hP hD hS hC.2.2.1 hc hfs hcells hslots hd (fun q H1 hP1 hD1 hS1 => k q H1 locs ls hP1 hD1 hS1 hl)
theorem x_newi (hC : XC p s m args c D cl tys A nL cc TB own) {n : Int32} (N : Nat) (t0 : Nat) {cA : ClassId} (ht : tys[t0]? = some (cA, .int)) (harr : Cond.arrayClass .int ∈ TB) (hn : ¬ n < 0) (hN : n.toNatClampNeg = N) (hbytes : N * 4 ≤ 536870912) (hcells : cells + 1 ≤ R.cells) (hslots : slots + N ≤ R.slots) (hd : decode cc pc = .ok (.newarray .int, 2)) (k : ∀ q : Nat, XW p l e R s m args below meth c D cl A nL Q (cells + 1) (slots + N) (ws ++ [(q, .inl (cA, N, .inl (fun _ => 0)))]) (pc + 2) lv (.ref q :: st)) : XW p l e R s m args below meth c D cl A nL Q cells slots ws pc lv (.int n :: st) := by
  intro H locs ls hP hD hS hl
  refine va_newa (ty := .int) (a0 := (N, .inl (fun _ => 0))) hC.1.1 hC.1.2.1 (atype := .int) (hC.ts harr) rfl hC.2.1 hP hD hS hC.2.2.1 (fun _ => rfl) hn hN hbytes hcells hslots hd (fun q cA' H1 hK1 hP1 hD1 hS1 => ?_)
  have e : cA' = cA := Option.some.inj (((hK1.2 tys.length (cA', .int) (by rw [List.getElem?_append_right (Nat.le_refl _), Nat.sub_self]; rfl)).2).symm.trans (hC.2.1.2 t0 _ ht).2)
  subst e
  exact k q H1 locs ls hP1 hD1 hS1 hl
theorem x_newl (hC : XC p s m args c D cl tys A nL cc TB own) {n : Int32} (N : Nat) (t0 : Nat) {cA : ClassId} (ht : tys[t0]? = some (cA, .long)) (harr : Cond.arrayClass .long ∈ TB) (hn : ¬ n < 0) (hN : n.toNatClampNeg = N) (hbytes : N * 8 ≤ 536870912) (hcells : cells + 1 ≤ R.cells) (hslots : slots + N ≤ R.slots) (hd : decode cc pc = .ok (.newarray .long, 2)) (k : ∀ q : Nat, XW p l e R s m args below meth c D cl A nL Q (cells + 1) (slots + N) (ws ++ [(q, .inl (cA, N, .inr (.inl (fun _ => 0))))]) (pc + 2) lv (.ref q :: st)) : XW p l e R s m args below meth c D cl A nL Q cells slots ws pc lv (.int n :: st) := by
  intro H locs ls hP hD hS hl
  refine va_newa (ty := .long) (a0 := (N, .inr (.inl (fun _ => 0)))) hC.1.1 hC.1.2.1 (atype := .long) (hC.ts harr) rfl hC.2.1 hP hD hS hC.2.2.1 (fun _ => rfl) hn hN hbytes hcells hslots hd (fun q cA' H1 hK1 hP1 hD1 hS1 => ?_)
  have e : cA' = cA := Option.some.inj (((hK1.2 tys.length (cA', .long) (by rw [List.getElem?_append_right (Nat.le_refl _), Nat.sub_self]; rfl)).2).symm.trans (hC.2.1.2 t0 _ ht).2)
  subst e
  exact k q H1 locs ls hP1 hD1 hS1 hl
theorem vr_outer (c : ClassId) (N h0 : Nat) : ∀ i : Nat, Jvm.Free.Multi.outerC c N h0 i = arrV c N (fun j => va_rf (if j < i then some (h0 + 1 + j) else none))
  | 0 => by
    show ({ cls := c, slots := Array.replicate N .null, vm := .none } : Cell) = _
    rw [arrV_new]
    refine congrArg (arrV c N) (funext fun j => ?_)
    simp [va_rf]
  | i + 1 => by
    show (Jvm.Free.Multi.outerC c N h0 i).setSlot i (.ref (h0 + 1 + i)) = _
    rw [vr_outer c N h0 i, arrV_store]
    refine congrArg (arrV c N) (funext fun j => ?_)
    by_cases e : j = i
    · subst e
      simp [updV, va_rf]
    · by_cases h : j < i
      · simp [updV, e, h, Nat.lt_succ_of_lt h]
      · simp [updV, e, h, show ¬ j < i + 1 by omega]
theorem x_arrV {cA : ClassId} {N : Nat} {f g : Nat → Value} (h : ∀ i, i < N → f i = g i) : arrV cA N f = arrV cA N g := by
  have e : (fun j : Fin N => f j.val) = fun j : Fin N => g j.val := funext fun j => h j.1 j.2
  show ({ cls := cA, slots := Array.ofFn (n := N) fun j => f j.val, vm := .none } : Cell) = { cls := cA, slots := Array.ofFn (n := N) fun j => g j.val, vm := .none }
  rw [e]
theorem x_outerC {cA : ClassId} {N : Nat} {f g : Nat → Option Nat} (h : ∀ i, i < N → f i = g i) : vp_cell cA (N, .inr (.inr (.inr (.inr f)))) = vp_cell cA (N, .inr (.inr (.inr (.inr g)))) := by
  rw [vp_cell_q, vp_cell_q]
  exact x_arrV (fun j hj => by rw [h j hj])
/-- the tables have the arrays of long[] -/
def XO (U : State) : Prop := (Cond.arrayOver (.array .long)).before #[] U = true
theorem XO.moved {u U : State} (hvm : u.vm.Alike U.vm) (h : XO u) : XO U := Jvm.Stand.arrayOver_alikeB hvm h
theorem XO.at {u : State} {a : Array Value} (h : XO u) : (Cond.arrayOver (.array .long)).before a u = true := Jvm.Stand.arrayOver_alikeB (Vm.Alike.refl u.vm) h
theorem x_blindO {av : List Value} {sz : Nat} : FrameBlind (va_Pc av (fun U => XP D cl tys ws sz U ∧ XO U)) := fun a U g mk q => by
  obtain ⟨q0, ⟨q1, qP, qK, qD, qE⟩, qN⟩ := q
  exact ⟨q0, ⟨q1, qP, va_K.moved (u := U) (U := U.calling g mk a) (Vm.Alike.refl U.vm) qK, qD, XEn.same (s := U) (U := U.calling g mk a) qE rfl⟩, XO.moved (u := U) (U := U.calling g mk a) (Vm.Alike.refl U.vm) qN⟩
theorem x_mna (hC : XC p s m args c D cl tys A nL cc TB own) {index : Nat} {cO cL : ClassId} (tO tL : Nat) (hO : tys[tO]? = some (cO, .array .long)) (hL : tys[tL]? = some (cL, .long)) (hcl : Cond.classLink own index "[[J" ∈ TB) (hover : XO s) (harr : Cond.arrayClass .long ∈ TB) {n k : Int32} (N K : Nat) (hn : ¬ n < 0) (hk : ¬ k < 0) (hN : n.toNatClampNeg = N) (hM : k.toNatClampNeg = K) (hb1 : N * 4 ≤ 536870912) (hb2 : K * 8 ≤ 536870912) (hcells : cells + (1 + N) ≤ R.cells) (hslots : slots + (N + N * K) ≤ R.slots) (hd : decode cc pc = .ok (.multianewarray index 2, 4)) (kk : ∀ h : Nat, XW p l e R s m args below meth c D cl A nL Q (cells + 1 + N) (slots + N + N * K) (ws ++ ((h, .inl (cO, N, .inr (.inr (.inr (.inr (fun i => some (h + 1 + i))))))) :: x_grid (fun i => i) cL (h + 1) N K (fun _ _ => 0))) (pc + 4) lv (.ref h :: st)) : XW p l e R s m args below meth c D cl A nL Q cells slots ws pc lv (.int k :: .int n :: st) := by
  subst hN
  subst hM
  intro H locs ls hP hD hS hl T hT Xs
  obtain ⟨vm₁, cA, comp, -, fA, fC, -, -, X', step⟩ := Xs.multianewarray2F (ty := .long) hC.1.1 hC.1.2.2.2.1 (hC.ts hcl) hover.at (hC.ts harr) (g := F0 m pc ls (.int k :: .int n :: st)) rfl (by rw [hC.1.2.1]; exact hd) rfl hn hk hb1 hb2 (by omega) rfl rfl hcells hslots
  have eO : cA = cO := Option.some.inj (fA.symm.trans (hC.2.1.2 tO _ hO).2)
  have eL : comp = cL := Option.some.inj (fC.symm.trans (hC.2.1.2 tL _ hL).2)
  subst eO
  subst eL
  generalize hF : Jvm.Free.Multi.fill (T.setVm vm₁) cA comp n.toNatClampNeg k.toNatClampNeg (defaultValue .long) n.toNatClampNeg = F at X' step
  have hTh : (T.setVm vm₁).heap = H := hT
  obtain ⟨f1, f2, -, -⟩ := Jvm.Free.Multi.fill_facts (T.setVm vm₁) cA comp n.toNatClampNeg k.toNatClampNeg (defaultValue .long) n.toNatClampNeg
  rw [hF, hTh] at f1 f2
  have hold : ∀ x : Nat, x < H.size → F.heap[x]? = H[x]? := fun x hx => by
    have := Jvm.Free.Multi.fill_old (T.setVm vm₁) cA comp n.toNatClampNeg k.toNatClampNeg (defaultValue .long) (a := x) (by rw [hTh]; exact hx) n.toNatClampNeg
    rw [hF, hTh] at this
    exact this
  have hrow : ∀ j : Nat, j < n.toNatClampNeg → F.heap[H.size + 1 + j]? = some (vp_cell comp (k.toNatClampNeg, .inr (.inl (fun _ => 0)))) := fun j hj => by
    have := Jvm.Free.Multi.fill_inner (T.setVm vm₁) cA comp n.toNatClampNeg k.toNatClampNeg (defaultValue .long) n.toNatClampNeg j hj
    rw [hF, hTh] at this
    rw [this]
    exact congrArg some (arrV_new comp k.toNatClampNeg (.long 0))
  have hout : Jvm.Free.Multi.outerC cA n.toNatClampNeg H.size n.toNatClampNeg = vp_cell cA (n.toNatClampNeg, .inr (.inr (.inr (.inr (fun i => some (H.size + 1 + i)))))) := by
    refine Eq.trans ?_ (x_outerC (f := fun i => if i < n.toNatClampNeg then some (H.size + 1 + i) else none) (fun i hi => by show (if _ then _ else _) = _; rw [if_pos hi]))
    rw [vp_cell_q]
    exact vr_outer cA n.toNatClampNeg H.size n.toNatClampNeg
  rw [hout] at f2
  have hgm : ∀ q ∈ x_grid (fun i => i) comp (H.size + 1) n.toNatClampNeg k.toNatClampNeg (fun _ _ => 0), ∃ i, i < n.toNatClampNeg ∧ q = (H.size + 1 + i, .inl (comp, k.toNatClampNeg, .inr (.inl (fun _ => 0)))) := fun q hq => by
    obtain ⟨i, hi, rfl⟩ := List.mem_map.mp hq
    exact ⟨i, List.mem_range.mp hi, rfl⟩
  have hP1 : va_P D cl (ws ++ ((H.size, .inl (cA, n.toNatClampNeg, .inr (.inr (.inr (.inr (fun i => some (H.size + 1 + i))))))) :: x_grid (fun i => i) comp (H.size + 1) n.toNatClampNeg k.toNatClampNeg (fun _ _ => 0))) F.heap := by
    refine x_mem_P fun q hq => ?_
    rcases List.mem_append.mp hq with h | h
    · exact (x_P_mem hP q h).kept (hold q.1 ((x_P_mem hP q h).lt))
    · rcases List.mem_cons.mp h with h | h
      · subst h; exact f2
      · obtain ⟨i, hi, rfl⟩ := hgm q h
        exact hrow i hi
  have hD1 : va_D A (ws ++ ((H.size, .inl (cA, n.toNatClampNeg, .inr (.inr (.inr (.inr (fun i => some (H.size + 1 + i))))))) :: x_grid (fun i => i) comp (H.size + 1) n.toNatClampNeg k.toNatClampNeg (fun _ _ => 0))) := by
    obtain ⟨d1, d2⟩ := x_D_iff.mp hD
    refine x_D_iff.mpr ⟨?_, fun q hq => ?_⟩
    · rw [List.map_append, List.map_cons]
      refine List.nodup_append.mpr ⟨d1, List.nodup_cons.mpr ⟨fun hm => ?_, ?_⟩, ?_⟩
      · obtain ⟨x, hx, e⟩ := List.mem_map.mp hm
        obtain ⟨i, hi, rfl⟩ := hgm x hx
        have e : H.size + 1 + i = H.size := e
        omega
      · rw [x_grid, List.map_map]
        refine List.Pairwise.map _ (R := (· ≠ ·)) (fun a b hab => ?_) List.nodup_range
        show H.size + 1 + a ≠ H.size + 1 + b
        omega
      · intro a ha b hb e
        subst e
        obtain ⟨x, hx, rfl⟩ := List.mem_map.mp ha
        have h9 := (x_P_mem hP x hx).lt
        rcases List.mem_cons.mp hb with h | h
        · have h : x.1 = H.size := h
          omega
        · obtain ⟨y, hy, e⟩ := List.mem_map.mp h
          obtain ⟨i, hi, rfl⟩ := hgm y hy
          have e : H.size + 1 + i = x.1 := e
          omega
    · rcases List.mem_append.mp hq with h | h
      · exact d2 q h
      · rcases List.mem_cons.mp h with h | h
        · subst h; exact hC.2.2.1 _ hS.1
        · obtain ⟨i, hi, rfl⟩ := hgm q h
          exact hC.2.2.1 _ (Nat.le_trans hS.1 (by show H.size ≤ H.size + 1 + i; omega))
  obtain ⟨t2, a1, b1⟩ := kk H.size F.heap locs ls hP1 hD1 ⟨Nat.le_trans hS.1 (by rw [f1]; omega), fun x h1 h2 => (hold x (Nat.lt_of_lt_of_le h1 hS.1)).trans (hS.2.1 x h1 h2), hS.2.2⟩ hl F rfl X'
  exact ⟨t2, step t2 (by rw [hT]; exact a1), b1⟩
theorem x_objInit (hC : XC p s m args c D cl tys A nL cc TB own) {idx a : Nat} (hlink : Cond.methodLink own idx Lib.objectInit ∈ TB) (hinst : Cond.instanceMethod Lib.objectInit ∈ TB) (hcode : Cond.code Lib.objectInit ⟨#[0xb1]⟩ 1 none ∈ TB) (hd : decode cc pc = .ok (.invokespecial idx, 3)) (hframes : 1 ≤ R.frames) (hlocals : (st.map fun v => v.category).sum + 12 ≤ R.locals) (k : XW p l e R s m args below meth c D cl A nL Q cells slots ws (pc + 3) lv st) : XW p l e R s m args below meth c D cl A nL Q cells slots ws pc lv (.ref a :: st) := fun H locs ls hP hD hS hl => W.objInit hC.1.1 hC.1.2.1 hC.1.2.2.2.1 (hC.ts hlink) (hC.ts hinst) (hC.ts hcode) (g := F0 m pc ls (.ref a :: st)) rfl (hl.1.trans hC.1.2.2.1.symm) rfl hd hframes (by show 2 * 0 + _ + 12 ≤ _; omega) (k H locs ls hP hD hS hl)
theorem x_vretP (hC : XC p s m args c D cl tys A nL cc TB own) {S : Type} {post : S → Prop} {u : S} {wf : S → va_W} {mc2 ms2 : Nat} (hmc : cells ≤ mc2) (hms : slots ≤ ms2) (hr : meth.sig.returnType = none) (hlocks : meth.locks = false) (hd : decode cc pc = .ok (.return_, 1)) (hq : post u) (hw : wf u = ws) : XW p l e R s m args below meth c D cl A nL (MQ below (va_Qv post (fun u t => XB D cl tys A (wf u) t) A) args s mc2 ms2 A) cells slots ws pc lv [] := by
  subst hw
  intro H locs ls hP hD hS hl
  exact W.widen hmc hms (W.vret hC.1.1 hC.1.2.1 hr (fun t ht hW => ⟨⟨u, rfl, hq, by rw [ht]; exact hP, va_K.moved hW.alike hC.2.1, hD⟩, hS.F ht⟩) hS.2.2 hd hlocks)
theorem x_metP {y : MethodName} {bytes : ByteArray} {maxL sz mc ms : Nat} {ret : Option FieldType} {rm : Room} {Qc : Array Value → State → Outcome → State → Prop} {free : Nat → Prop} (av : List Value) (hG : GoodIn TB TB) (hy : plainName y.cls = true) (hle : (lg_sl av).length ≤ maxL)
    (body : ∀ (p : Program) (e : Env) (s : State) (m : MethodId) (args : Array Value) (below : List Frame) (meth : Method) (c : Code), XC p s m args c D cl tys (va_A ws sz) maxL bytes TB y.cls → meth.sig.returnType = ret → meth.locks = false → meth.name = y.name → XO s → XW p l e rm s m args below meth c D cl (va_A ws sz) maxL (MQ below Qc args s mc ms free) 0 0 ws 0 (lv_args 0 av) []) :
    Met l y (Cond.code y bytes maxL ret :: TB) rm (va_Pc av (fun U => XP D cl tys ws sz U ∧ XO U)) Qc mc ms free := by
  refine Met.ofW (cc := bytes) (maxL := maxL) (ret := ret) hy rfl ?_
  intro p e s m args below meth c s₁ B hml hv
  obtain ⟨rfl, ⟨hsz, hP, hK, hD0, hE⟩, hO⟩ := hv
  have hts := atoms_spec (ws := Cond.code y bytes maxL ret :: TB) B.pre
  have hD := hD0.self (sz := sz)
  have hl := lv_entry av (n := maxL) hle
  rw [lg_entry_eq]
  exact body p e s m av.toArray below meth c ⟨⟨B.exec, B.bytes, hml, findClass_of_methodNamed B.named, fun w hw => hts w (List.mem_cons_of_mem _ hw)⟩, hK, fun q h => Or.inr (by omega), hG, hE⟩ B.returns B.notSynchronized (name_of_methodNamed B.named B.method).1 hO s.heap [] _ hP hD va_S.rf hl
theorem x_callI (hC : XC p s m args c D cl tys A nL cc TB own) {S : Type} {wf wf2 : S → va_W} {wl w1 wr : va_W} {y : MethodName} {bytes : ByteArray} {maxL index b : Nat} {rm : Room} {post : S → Prop} (As : List Value) (hws : ws = wl ++ (w1 ++ wr)) (hw2 : ∀ u, wl ++ (wf u ++ wr) = wf2 u) (hM : ∀ sz : Nat, Met l y (Cond.code y bytes maxL none :: TB) rm (va_Pc (.ref b :: As) (fun U => XP D cl tys w1 sz U ∧ XO U)) (va_Qv post (fun u t => XB D cl tys (va_A w1 sz) (wf u) t) (va_A w1 sz)) rm.cells rm.slots (va_A w1 sz)) (hfr : rm.frames + 1 ≤ R.frames) (hlo : 8 + (maxL + 11) + rm.locals ≤ R.locals) (hcode : Cond.code y bytes maxL none ∈ TB) (hini : Cond.initialized y.cls ∈ TB) (hlink : Cond.methodLink own index y ∈ TB) (hy : (y.cls ≠ "java/lang/invoke/MethodHandle" ∧ y.cls ≠ "java/lang/invoke/VarHandle")) (n : Nat) (hn : As.length = n) (hlen : (parseMethodDescriptor y.desc).map (fun d => d.parameters.length) = some n) (hf : cells + rm.cells ≤ R.cells ∧ slots + rm.slots ≤ R.slots) (hst : (st.map fun v => v.category).sum ≤ 8) (hO : XO s) (hnm : y.name = "<init>") (hinst : Cond.instanceMethod y ∈ TB) {st0 : List Value} (hstk : st0 = As.reverse ++ .ref b :: st) (hd : decode cc pc = .ok (.invokespecial index, 3)) (k : ∀ u : S, post u → XW p l e R s m args below meth c D cl A nL Q (cells + rm.cells) (slots + rm.slots) (wf2 u) (pc + 3) lv st) : XW p l e R s m args below meth c D cl A nL Q cells slots ws pc lv st0 := by
  subst hws
  intro H locs ls hP hD hS hl
  refine va_callv (va_runI (bytes := bytes) (maxL := maxL) (As := As) (rest := st) hC.1 (hM H.size) ⟨⟨rfl, rfl, hfr, hlo, hC.words hcode, List.mem_cons_self, hC.ts hcode, hC.ts hini, hy, fun sig h => by (rw [h] at hlen; exact (Option.some.inj hlen).symm), hC.ts hlink⟩, hnm, hC.ts hinst⟩ ⟨x_blindO, fun U hU hW => ⟨rfl, hC.frStart hP hD hS hU hW, hO.moved hW.alike⟩⟩ rfl hn hl.1 hstk (lv_room hst) hd hf) hS (fun q _ h => hC.frF hD hS q h) (hC.frF hD hS) (fun u t H1 locs1 ht hvm hw hB hz1 hk1 hS1 => ?_)
  obtain ⟨j1, j2⟩ := x_fr_join hP hD hk1 (hC.frF hD hS) (w2 := wf u) (by rw [← ht]; exact hB.1) hB.2.2
  rw [hw2 u] at j1 j2
  exact k u hw H1 locs1 ls j1 j2 hS1 hl
/-- the pairs of exceptions of which the first is not the second -/
def x_nc : List (String × String) := (List.range 4).flatMap (fun i => ((List.range 4).filter (fun j => i != j)).map (fun j => (x_ex i, x_ex j)))
def XN (U : State) : Prop := ∀ q ∈ x_nc, va_Nc q.1 q.2 U
theorem x_fVi (hC : XC p s m args c D cl tys A nL cc TB own) {S : Type} {wf wf2 : S → va_W} {wl w1 wr : va_W} {Qt : Nat → Prop} {y : MethodName} {bytes : ByteArray} {maxL index : Nat} {ret : Option FieldType} {rm : Room} {b q0 ci : Nat} {fs : List Value} {C : String} {TT : u_T} {N : Nat} {post : Int32 → S → Prop} (As : List Value) (hws : ws = wl ++ (w1 ++ wr)) (hw2 : ∀ u, wl ++ (wf u ++ wr) = wf2 u) (hM : ∀ sz : Nat, vx_Met l y (Cond.code y bytes maxL ret :: TB) rm (va_Pc (.ref b :: As) (XP D cl tys w1 sz)) (va_Qi post (fun u t => XB D cl tys (va_A w1 sz) (wf u) t) (va_A w1 sz)) (XT D cl tys (va_A w1 sz) w1 Qt) rm.cells rm.slots (va_A w1 sz)) (hfr : rm.frames + 1 ≤ R.frames) (hlo : 8 + (maxL + 11) + rm.locals ≤ R.locals) (hcode : Cond.code y bytes maxL ret ∈ TB) (hini : Cond.initialized y.cls ∈ TB) (hlink : Cond.methodLink own index y ∈ TB) (hy : (y.cls ≠ "java/lang/invoke/MethodHandle" ∧ y.cls ≠ "java/lang/invoke/VarHandle")) (n : Nat) (hn : As.length = n) (hlen : (parseMethodDescriptor y.desc).map (fun d => d.parameters.length) = some n) (hf : cells + rm.cells ≤ R.cells ∧ slots + rm.slots ≤ R.slots) (hst : (st.map fun v => v.category).sum ≤ 8) (hinst : Cond.instanceMethod y ∈ TB) (hsel : Cond.selects C y y ∈ TB) (he : w1[q0]? = some (b, .inr (ci, fs))) (hc : cl[ci]? = some (C, TT, N)) {st0 : List Value} (hstk : st0 = As.reverse ++ .ref b :: st) (hd : decode cc pc = .ok (.invokevirtual index, 3)) (hno : ∀ k, ¬ Qt k) (k : ∀ (r : Int32) (u : S), post r u → XW p l e R s m args below meth c D cl A nL Q (cells + rm.cells) (slots + rm.slots) (wf2 u) (pc + 3) lv (.int r :: st)) : XW p l e R s m args below meth c D cl A nL Q cells slots ws pc lv st0 := by
  subst hws
  intro H locs ls hP hD hS hl
  refine vx_calli (vx_runV (C := C) (bytes := bytes) (maxL := maxL) (ret := ret) (As := As) (rest := st) hC.1 (hM H.size) ⟨⟨rfl, rfl, hfr, hlo, hC.words hcode, List.mem_cons_self, hC.ts hcode, hC.ts hini, hy, fun sig h => by (rw [h] at hlen; exact (Option.some.inj hlen).symm), hC.ts hlink⟩, hC.ts hinst, hC.ts hsel⟩ ⟨x_blind, va_recv hC.2.1 (x_fr_P hP) hc he, fun U hU hW => ⟨rfl, hC.frStart hP hD hS hU hW⟩⟩ rfl hn hl.1 hstk (lv_room hst) hd hf) hS (fun q _ h => hC.frF hD hS q h) (hC.frF hD hS) (fun q _ h => hC.frF hD hS q h) (fun E ce q9 k9 t H1 locs1 ht hvm hp => absurd hp (hno k9)) (fun r u t H1 locs1 ht hvm hw hB hz1 hk1 hS1 => ?_)
  obtain ⟨j1, j2⟩ := x_fr_join hP hD hk1 (hC.frF hD hS) (w2 := wf u) (by rw [← ht]; exact hB.1) hB.2.2
  rw [hw2 u] at j1 j2
  exact k r u hw H1 locs1 ls j1 j2 hS1 hl
theorem x_fVci (hC : XC p s m args c D cl tys A nL cc TB own) {S : Type} {wf wf2 : S → va_W} {wl w1 wr : va_W} {Qt : Nat → Prop} {y : MethodName} {bytes : ByteArray} {maxL index : Nat} {ret : Option FieldType} {rm : Room} {b q0 ci : Nat} {fs : List Value} {C : String} {TT : u_T} {N : Nat} {post : Int32 → S → Prop} (As : List Value) (hws : ws = wl ++ (w1 ++ wr)) (hw2 : ∀ u, wl ++ (wf u ++ wr) = wf2 u) (hM : ∀ sz : Nat, vx_Met l y (Cond.code y bytes maxL ret :: TB) rm (va_Pc (.ref b :: As) (XP D cl tys w1 sz)) (va_Qi post (fun u t => XB D cl tys (va_A w1 sz) (wf u) t) (va_A w1 sz)) (XT D cl tys (va_A w1 sz) w1 Qt) rm.cells rm.slots (va_A w1 sz)) (hfr : rm.frames + 1 ≤ R.frames) (hlo : 8 + (maxL + 11) + rm.locals ≤ R.locals) (hcode : Cond.code y bytes maxL ret ∈ TB) (hini : Cond.initialized y.cls ∈ TB) (hlink : Cond.methodLink own index y ∈ TB) (hy : (y.cls ≠ "java/lang/invoke/MethodHandle" ∧ y.cls ≠ "java/lang/invoke/VarHandle")) (n : Nat) (hn : As.length = n) (hlen : (parseMethodDescriptor y.desc).map (fun d => d.parameters.length) = some n) (hf : cells + rm.cells ≤ R.cells ∧ slots + rm.slots ≤ R.slots) (hst : (st.map fun v => v.category).sum ≤ 8) (hinst : Cond.instanceMethod y ∈ TB) (hsel : Cond.selects C y y ∈ TB) (he : w1[q0]? = some (b, .inr (ci, fs))) (hc : cl[ci]? = some (C, TT, N)) {st0 : List Value} (hstk : st0 = As.reverse ++ .ref b :: st) (hd : decode cc pc = .ok (.invokevirtual index, 3)) (hN : XN s) (hX : ∀ kx : Nat, Qt kx → ∃ (pre : List ExceptionTableEntry) (x : ExceptionTableEntry) (suf : List ExceptionTableEntry) (name : String), c.exceptionTable.toList = pre ++ x :: suf ∧ (∀ z ∈ pre, covers z pc = false ∨ (z.catchType ≠ 0 ∧ ∃ nm : String, Cond.classLink own z.catchType nm ∈ TB ∧ (x_ex kx, nm) ∈ x_nc)) ∧ covers x pc = true ∧ x.catchType ≠ 0 ∧ Cond.classLink own x.catchType name ∈ TB ∧ Cond.castable (x_ex kx) name ∈ TBX ∧ ∀ q : Nat, XW p l e R s m args below meth c D cl A nL Q (cells + rm.cells) (slots + rm.slots) ws x.handlerPc lv [.ref q]) (k : ∀ (r : Int32) (u : S), post r u → XW p l e R s m args below meth c D cl A nL Q (cells + rm.cells) (slots + rm.slots) (wf2 u) (pc + 3) lv (.int r :: st)) : XW p l e R s m args below meth c D cl A nL Q cells slots ws pc lv st0 := by
  subst hws
  intro H locs ls hP hD hS hl
  refine vx_calli (vx_runV (C := C) (bytes := bytes) (maxL := maxL) (ret := ret) (As := As) (rest := st) hC.1 (hM H.size) ⟨⟨rfl, rfl, hfr, hlo, hC.words hcode, List.mem_cons_self, hC.ts hcode, hC.ts hini, hy, fun sig h => by (rw [h] at hlen; exact (Option.some.inj hlen).symm), hC.ts hlink⟩, hC.ts hinst, hC.ts hsel⟩ ⟨x_blind, va_recv hC.2.1 (x_fr_P hP) hc he, fun U hU hW => ⟨rfl, hC.frStart hP hD hS hU hW⟩⟩ rfl hn hl.1 hstk (lv_room hst) hd hf) hS (fun q _ h => hC.frF hD hS q h) (hC.frF hD hS) (fun q _ h => hC.frF hD hS q h) (fun E ce q9 k9 t H1 locs1 ht hvm hp hB hz1 hk1 hS1 hce hcv hcl => ?_) (fun r u t H1 locs1 ht hvm hw hB hz1 hk1 hS1 => ?_)
  · obtain ⟨rfl, hB1, -, hB3⟩ := hB
    obtain ⟨pre, x, suf, name, hsplit, hpass, hcov, h0, hl1, hcast, kq⟩ := hX k9 hp
    obtain ⟨j1, j2⟩ := x_fr_join hP hD hk1 (hC.frF hD hS) (w2 := w1) (by rw [← ht]; exact hB1) hB3
    exact vx_catch hC.1.2.2.2.1 pre x suf hsplit (fun z hz => (hpass z hz).imp id (fun ⟨a1, nm, a2, a3⟩ => ⟨a1, nm, hC.ts a2, hN _ a3⟩)) hcov h0 (hC.ts hl1) (TBX_at hcast (State.WarmedH.refl s) (hC.2.2.2.2.2.2.1 _ hcast)) hce hcv hcl (kq q9 H1 locs1 ls j1 j2 hS1 hl)
  · obtain ⟨j1, j2⟩ := x_fr_join hP hD hk1 (hC.frF hD hS) (w2 := wf u) (by rw [← ht]; exact hB.1) hB.2.2
    rw [hw2 u] at j1 j2
    exact k r u hw H1 locs1 ls j1 j2 hS1 hl
theorem x_fVl (hC : XC p s m args c D cl tys A nL cc TB own) {S : Type} {wf wf2 : S → va_W} {wl w1 wr : va_W} {Qt : Nat → Prop} {y : MethodName} {bytes : ByteArray} {maxL index : Nat} {ret : Option FieldType} {rm : Room} {b q0 ci : Nat} {fs : List Value} {C : String} {TT : u_T} {N : Nat} {post : Int64 → S → Prop} (As : List Value) (hws : ws = wl ++ (w1 ++ wr)) (hw2 : ∀ u, wl ++ (wf u ++ wr) = wf2 u) (hM : ∀ sz : Nat, vx_Met l y (Cond.code y bytes maxL ret :: TB) rm (va_Pc (.ref b :: As) (XP D cl tys w1 sz)) (va_Ql post (fun u t => XB D cl tys (va_A w1 sz) (wf u) t) (va_A w1 sz)) (XT D cl tys (va_A w1 sz) w1 Qt) rm.cells rm.slots (va_A w1 sz)) (hfr : rm.frames + 1 ≤ R.frames) (hlo : 8 + (maxL + 11) + rm.locals ≤ R.locals) (hcode : Cond.code y bytes maxL ret ∈ TB) (hini : Cond.initialized y.cls ∈ TB) (hlink : Cond.methodLink own index y ∈ TB) (hy : (y.cls ≠ "java/lang/invoke/MethodHandle" ∧ y.cls ≠ "java/lang/invoke/VarHandle")) (n : Nat) (hn : As.length = n) (hlen : (parseMethodDescriptor y.desc).map (fun d => d.parameters.length) = some n) (hf : cells + rm.cells ≤ R.cells ∧ slots + rm.slots ≤ R.slots) (hst : (st.map fun v => v.category).sum ≤ 8) (hinst : Cond.instanceMethod y ∈ TB) (hsel : Cond.selects C y y ∈ TB) (he : w1[q0]? = some (b, .inr (ci, fs))) (hc : cl[ci]? = some (C, TT, N)) {st0 : List Value} (hstk : st0 = As.reverse ++ .ref b :: st) (hd : decode cc pc = .ok (.invokevirtual index, 3)) (hno : ∀ k, ¬ Qt k) (k : ∀ (r : Int64) (u : S), post r u → XW p l e R s m args below meth c D cl A nL Q (cells + rm.cells) (slots + rm.slots) (wf2 u) (pc + 3) lv (.long r :: st)) : XW p l e R s m args below meth c D cl A nL Q cells slots ws pc lv st0 := by
  subst hws
  intro H locs ls hP hD hS hl
  refine vx_calll (vx_runV (C := C) (bytes := bytes) (maxL := maxL) (ret := ret) (As := As) (rest := st) hC.1 (hM H.size) ⟨⟨rfl, rfl, hfr, hlo, hC.words hcode, List.mem_cons_self, hC.ts hcode, hC.ts hini, hy, fun sig h => by (rw [h] at hlen; exact (Option.some.inj hlen).symm), hC.ts hlink⟩, hC.ts hinst, hC.ts hsel⟩ ⟨x_blind, va_recv hC.2.1 (x_fr_P hP) hc he, fun U hU hW => ⟨rfl, hC.frStart hP hD hS hU hW⟩⟩ rfl hn hl.1 hstk (lv_room hst) hd hf) hS (fun q _ h => hC.frF hD hS q h) (hC.frF hD hS) (fun q _ h => hC.frF hD hS q h) (fun E ce q9 k9 t H1 locs1 ht hvm hp => absurd hp (hno k9)) (fun r u t H1 locs1 ht hvm hw hB hz1 hk1 hS1 => ?_)
  obtain ⟨j1, j2⟩ := x_fr_join hP hD hk1 (hC.frF hD hS) (w2 := wf u) (by rw [← ht]; exact hB.1) hB.2.2
  rw [hw2 u] at j1 j2
  exact k r u hw H1 locs1 ls j1 j2 hS1 hl
theorem x_fVcl (hC : XC p s m args c D cl tys A nL cc TB own) {S : Type} {wf wf2 : S → va_W} {wl w1 wr : va_W} {Qt : Nat → Prop} {y : MethodName} {bytes : ByteArray} {maxL index : Nat} {ret : Option FieldType} {rm : Room} {b q0 ci : Nat} {fs : List Value} {C : String} {TT : u_T} {N : Nat} {post : Int64 → S → Prop} (As : List Value) (hws : ws = wl ++ (w1 ++ wr)) (hw2 : ∀ u, wl ++ (wf u ++ wr) = wf2 u) (hM : ∀ sz : Nat, vx_Met l y (Cond.code y bytes maxL ret :: TB) rm (va_Pc (.ref b :: As) (XP D cl tys w1 sz)) (va_Ql post (fun u t => XB D cl tys (va_A w1 sz) (wf u) t) (va_A w1 sz)) (XT D cl tys (va_A w1 sz) w1 Qt) rm.cells rm.slots (va_A w1 sz)) (hfr : rm.frames + 1 ≤ R.frames) (hlo : 8 + (maxL + 11) + rm.locals ≤ R.locals) (hcode : Cond.code y bytes maxL ret ∈ TB) (hini : Cond.initialized y.cls ∈ TB) (hlink : Cond.methodLink own index y ∈ TB) (hy : (y.cls ≠ "java/lang/invoke/MethodHandle" ∧ y.cls ≠ "java/lang/invoke/VarHandle")) (n : Nat) (hn : As.length = n) (hlen : (parseMethodDescriptor y.desc).map (fun d => d.parameters.length) = some n) (hf : cells + rm.cells ≤ R.cells ∧ slots + rm.slots ≤ R.slots) (hst : (st.map fun v => v.category).sum ≤ 8) (hinst : Cond.instanceMethod y ∈ TB) (hsel : Cond.selects C y y ∈ TB) (he : w1[q0]? = some (b, .inr (ci, fs))) (hc : cl[ci]? = some (C, TT, N)) {st0 : List Value} (hstk : st0 = As.reverse ++ .ref b :: st) (hd : decode cc pc = .ok (.invokevirtual index, 3)) (hN : XN s) (hX : ∀ kx : Nat, Qt kx → ∃ (pre : List ExceptionTableEntry) (x : ExceptionTableEntry) (suf : List ExceptionTableEntry) (name : String), c.exceptionTable.toList = pre ++ x :: suf ∧ (∀ z ∈ pre, covers z pc = false ∨ (z.catchType ≠ 0 ∧ ∃ nm : String, Cond.classLink own z.catchType nm ∈ TB ∧ (x_ex kx, nm) ∈ x_nc)) ∧ covers x pc = true ∧ x.catchType ≠ 0 ∧ Cond.classLink own x.catchType name ∈ TB ∧ Cond.castable (x_ex kx) name ∈ TBX ∧ ∀ q : Nat, XW p l e R s m args below meth c D cl A nL Q (cells + rm.cells) (slots + rm.slots) ws x.handlerPc lv [.ref q]) (k : ∀ (r : Int64) (u : S), post r u → XW p l e R s m args below meth c D cl A nL Q (cells + rm.cells) (slots + rm.slots) (wf2 u) (pc + 3) lv (.long r :: st)) : XW p l e R s m args below meth c D cl A nL Q cells slots ws pc lv st0 := by
  subst hws
  intro H locs ls hP hD hS hl
  refine vx_calll (vx_runV (C := C) (bytes := bytes) (maxL := maxL) (ret := ret) (As := As) (rest := st) hC.1 (hM H.size) ⟨⟨rfl, rfl, hfr, hlo, hC.words hcode, List.mem_cons_self, hC.ts hcode, hC.ts hini, hy, fun sig h => by (rw [h] at hlen; exact (Option.some.inj hlen).symm), hC.ts hlink⟩, hC.ts hinst, hC.ts hsel⟩ ⟨x_blind, va_recv hC.2.1 (x_fr_P hP) hc he, fun U hU hW => ⟨rfl, hC.frStart hP hD hS hU hW⟩⟩ rfl hn hl.1 hstk (lv_room hst) hd hf) hS (fun q _ h => hC.frF hD hS q h) (hC.frF hD hS) (fun q _ h => hC.frF hD hS q h) (fun E ce q9 k9 t H1 locs1 ht hvm hp hB hz1 hk1 hS1 hce hcv hcl => ?_) (fun r u t H1 locs1 ht hvm hw hB hz1 hk1 hS1 => ?_)
  · obtain ⟨rfl, hB1, -, hB3⟩ := hB
    obtain ⟨pre, x, suf, name, hsplit, hpass, hcov, h0, hl1, hcast, kq⟩ := hX k9 hp
    obtain ⟨j1, j2⟩ := x_fr_join hP hD hk1 (hC.frF hD hS) (w2 := w1) (by rw [← ht]; exact hB1) hB3
    exact vx_catch hC.1.2.2.2.1 pre x suf hsplit (fun z hz => (hpass z hz).imp id (fun ⟨a1, nm, a2, a3⟩ => ⟨a1, nm, hC.ts a2, hN _ a3⟩)) hcov h0 (hC.ts hl1) (TBX_at hcast (State.WarmedH.refl s) (hC.2.2.2.2.2.2.1 _ hcast)) hce hcv hcl (kq q9 H1 locs1 ls j1 j2 hS1 hl)
  · obtain ⟨j1, j2⟩ := x_fr_join hP hD hk1 (hC.frF hD hS) (w2 := wf u) (by rw [← ht]; exact hB.1) hB.2.2
    rw [hw2 u] at j1 j2
    exact k r u hw H1 locs1 ls j1 j2 hS1 hl
theorem x_blindN {av : List Value} {sz : Nat} : FrameBlind (va_Pc av (fun U => XP D cl tys ws sz U ∧ XN U)) := fun a U g mk q => by
  obtain ⟨q0, ⟨q1, qP, qK, qD, qE⟩, qN⟩ := q
  exact ⟨q0, ⟨q1, qP, va_K.moved (u := U) (U := U.calling g mk a) (Vm.Alike.refl U.vm) qK, qD, XEn.same (s := U) (U := U.calling g mk a) qE rfl⟩, fun q hq => va_Nc.moved (u := U) (U := U.calling g mk a) (Vm.Alike.refl U.vm) (qN q hq)⟩
theorem x_metH {y : MethodName} {bytes : ByteArray} {maxL sz mc ms : Nat} {ret : Option FieldType} {hh : List (Nat × Nat × Nat × Nat)} {rm : Room} {Qc : Array Value → State → Outcome → State → Prop} {XQ : String → State → State → Prop} {free : Nat → Prop} (av : List Value) (hG : GoodIn TB TB) (hy : plainName y.cls = true) (hle : (lg_sl av).length ≤ maxL)
    (body : ∀ (p : Program) (e : Env) (s : State) (m : MethodId) (args : Array Value) (below : List Frame) (meth : Method) (c : Code), XC p s m args c D cl tys (va_A ws sz) maxL bytes TB y.cls → meth.sig.returnType = ret → meth.locks = false → c.exceptionTable.toList = tableOf hh → XN s → XW p l e rm s m args below meth c D cl (va_A ws sz) maxL (vx_MQ below Qc XQ args s mc ms free) 0 0 ws 0 (lv_args 0 av) []) :
    vx_Met l y (Cond.codeWith y bytes maxL ret hh :: TB) rm (va_Pc av (fun U => XP D cl tys ws sz U ∧ XN U)) Qc XQ mc ms free := by
  refine vx_ofWH (cc := bytes) (maxL := maxL) (ret := ret) (hh := hh) hy rfl ?_
  intro p e s m args below meth c s₁ B hml hv
  obtain ⟨rfl, ⟨hsz, hP, hK, hD0, hE⟩, hN⟩ := hv
  have hts := atoms_spec (ws := Cond.codeWith y bytes maxL ret hh :: TB) B.pre
  have htab := vx_table (x := y) B (hts _ List.mem_cons_self)
  have hD := hD0.self (sz := sz)
  have hl := lv_entry av (n := maxL) hle
  rw [lg_entry_eq]
  exact body p e s m av.toArray below meth c ⟨⟨B.exec, B.bytes, hml, findClass_of_methodNamed B.named, fun w hw => hts w (List.mem_cons_of_mem _ hw)⟩, hK, fun q h => Or.inr (by omega), hG, hE⟩ B.returns B.notSynchronized htab hN s.heap [] _ hP hD va_S.rf hl
theorem x_goodW {w : Cond} (hcode : w ∈ TB) (hG : GoodIn TB TB) : GoodIn (w :: TB) (w :: TB) := by
  intro v hw
  rcases List.mem_cons.mp hw with h | h
  · subst h; exact ⟨List.mem_cons_self, (hG _ hcode).2⟩
  · exact ⟨List.mem_cons_of_mem _ h, (hG _ h).2⟩
theorem x_fSi (hC : XC p s m args c D cl tys A nL cc TB own) {S : Type} {wf wf2 : S → va_W} {wl w1 wr : va_W} {Qt : Nat → Prop} {y : MethodName} {bytes : ByteArray} {maxL index : Nat} {ret : Option FieldType} {hh : List (Nat × Nat × Nat × Nat)} {rm : Room} {post : Int32 → S → Prop} (As : List Value) (hws : ws = wl ++ (w1 ++ wr)) (hw2 : ∀ u, wl ++ (wf u ++ wr) = wf2 u) (hM : ∀ sz : Nat, vx_Met l y (Cond.codeWith y bytes maxL ret hh :: TB) rm (va_Pc As (fun U => XP D cl tys w1 sz U ∧ XN U)) (va_Qi post (fun u t => XB D cl tys (va_A w1 sz) (wf u) t) (va_A w1 sz)) (XT D cl tys (va_A w1 sz) w1 Qt) rm.cells rm.slots (va_A w1 sz)) (hfr : rm.frames + 1 ≤ R.frames) (hlo : 8 + (maxL + 11) + rm.locals ≤ R.locals) (hcode : Cond.codeWith y bytes maxL ret hh ∈ TB) (hini : Cond.initialized y.cls ∈ TB) (hlink : Cond.methodLink own index y ∈ TB) (hy : (y.cls ≠ "java/lang/invoke/MethodHandle" ∧ y.cls ≠ "java/lang/invoke/VarHandle")) (n : Nat) (hn : As.length = n) (hlen : (parseMethodDescriptor y.desc).map (fun d => d.parameters.length) = some n) (hf : cells + rm.cells ≤ R.cells ∧ slots + rm.slots ≤ R.slots) (hst : (st.map fun v => v.category).sum ≤ 8) (hstat : Cond.static y ∈ TB) {st0 : List Value} (hstk : st0 = As.reverse ++ st) (hd : decode cc pc = .ok (.invokestatic index, 3)) (hN : XN s) (hno : ∀ k, ¬ Qt k) (k : ∀ (r : Int32) (u : S), post r u → XW p l e R s m args below meth c D cl A nL Q (cells + rm.cells) (slots + rm.slots) (wf2 u) (pc + 3) lv (.int r :: st)) : XW p l e R s m args below meth c D cl A nL Q cells slots ws pc lv st0 := by
  subst hws
  intro H locs ls hP hD hS hl
  refine vx_calli (vx_runSX (hh := hh) (bytes := bytes) (maxL := maxL) (ret := ret) (As := As) (rest := st) hC.1 (hM H.size) ⟨⟨rfl, rfl, hfr, hlo, pay_in (fun w hw => by
    rcases List.mem_cons.mp hw with h | h
    · rw [h]; exact hC.ts hcode
    · exact hC.ts h) (x_goodW hcode hC.2.2.2.1), List.mem_cons_self⟩, hC.ts hcode, hC.ts hini, hy, fun sig h => by (rw [h] at hlen; exact (Option.some.inj hlen).symm), hC.ts hlink, hC.ts hstat⟩ ⟨x_blindN, fun U hU hW => ⟨rfl, hC.frStart hP hD hS hU hW, fun q hq => va_Nc.moved hW.alike (hN q hq)⟩⟩ rfl hn hl.1 hstk (lv_room hst) hd hf) hS (fun q _ h => hC.frF hD hS q h) (hC.frF hD hS) (fun q _ h => hC.frF hD hS q h) (fun E ce q9 k9 t H1 locs1 ht hvm hp => absurd hp (hno k9)) (fun r u t H1 locs1 ht hvm hw hB hz1 hk1 hS1 => ?_)
  obtain ⟨j1, j2⟩ := x_fr_join hP hD hk1 (hC.frF hD hS) (w2 := wf u) (by rw [← ht]; exact hB.1) hB.2.2
  rw [hw2 u] at j1 j2
  exact k r u hw H1 locs1 ls j1 j2 hS1 hl
theorem x_sld (hC : XC p s m args c D cl tys A nL cc TB own) {b L : Nat} {xs : Nat → Int32} (hX : va_X b L xs s s.heap) (hbl : b < s.heap.size) (hbA : ¬ A b) {i : Int32} (hin : vp_in i L) (hd : decode cc pc = .ok (.iaload, 1)) (k : XW p l e R s m args below meth c D cl A nL Q cells slots ws (pc + 1) lv (.int (xs i.toNatClampNeg) :: st)) : XW p l e R s m args below meth c D cl A nL Q cells slots ws pc lv (.int i :: .ref b :: st) := fun H locs ls hP hD hS hl => va_sld hC.1.1 hC.1.2.1 hX hbl hbA hS hin hd (k H locs ls hP hD hS hl)
theorem x_slen (hC : XC p s m args c D cl tys A nL cc TB own) {b L : Nat} {xs : Nat → Int32} (hX : va_X b L xs s s.heap) (hbl : b < s.heap.size) (hbA : ¬ A b) (hd : decode cc pc = .ok (.arraylength, 1)) (k : XW p l e R s m args below meth c D cl A nL Q cells slots ws (pc + 1) lv (.int (Int32.ofNat L) :: st)) : XW p l e R s m args below meth c D cl A nL Q cells slots ws pc lv (.ref b :: st) := fun H locs ls hP hD hS hl => va_slen hC.1.1 hC.1.2.1 hX hbl hbA hS hd (k H locs ls hP hD hS hl)
end XR
end
section
theorem dEv_init_0 : decode bEv_init 0 = .ok (.aload_n 0, 1) := by decide +kernel
theorem dEv_init_1 : decode bEv_init 1 = .ok (.invokespecial 3, 3) := by decide +kernel
theorem dEv_init_4 : decode bEv_init 4 = .ok (.aload_n 0, 1) := by decide +kernel
theorem dEv_init_5 : decode bEv_init 5 = .ok (.sipush 301, 3) := by decide +kernel
theorem dEv_init_8 : decode bEv_init 8 = .ok (.newarray .int, 2) := by decide +kernel
theorem dEv_init_10 : decode bEv_init 10 = .ok (.putfield 9, 3) := by decide +kernel
theorem dEv_init_13 : decode bEv_init 13 = .ok (.aload_n 0, 1) := by decide +kernel
theorem dEv_init_14 : decode bEv_init 14 = .ok (.sipush 301, 3) := by decide +kernel
theorem dEv_init_17 : decode bEv_init 17 = .ok (.newarray .int, 2) := by decide +kernel
theorem dEv_init_19 : decode bEv_init 19 = .ok (.putfield 15, 3) := by decide +kernel
theorem dEv_init_22 : decode bEv_init 22 = .ok (.aload_n 0, 1) := by decide +kernel
theorem dEv_init_23 : decode bEv_init 23 = .ok (.sipush 301, 3) := by decide +kernel
theorem dEv_init_26 : decode bEv_init 26 = .ok (.newarray .int, 2) := by decide +kernel
theorem dEv_init_28 : decode bEv_init 28 = .ok (.putfield 18, 3) := by decide +kernel
theorem dEv_init_31 : decode bEv_init 31 = .ok (.aload_n 0, 1) := by decide +kernel
theorem dEv_init_32 : decode bEv_init 32 = .ok (.sipush 301, 3) := by decide +kernel
theorem dEv_init_35 : decode bEv_init 35 = .ok (.newarray .int, 2) := by decide +kernel
theorem dEv_init_37 : decode bEv_init 37 = .ok (.putfield 21, 3) := by decide +kernel
theorem dEv_init_40 : decode bEv_init 40 = .ok (.aload_n 0, 1) := by decide +kernel
theorem dEv_init_41 : decode bEv_init 41 = .ok (.sipush 301, 3) := by decide +kernel
theorem dEv_init_44 : decode bEv_init 44 = .ok (.newarray .long, 2) := by decide +kernel
theorem dEv_init_46 : decode bEv_init 46 = .ok (.putfield 24, 3) := by decide +kernel
theorem dEv_init_49 : decode bEv_init 49 = .ok (.aload_n 0, 1) := by decide +kernel
theorem dEv_init_50 : decode bEv_init 50 = .ok (.iconst 0, 1) := by decide +kernel
theorem dEv_init_51 : decode bEv_init 51 = .ok (.putfield 28, 3) := by decide +kernel
theorem dEv_init_54 : decode bEv_init 54 = .ok (.return_, 1) := by decide +kernel
theorem dNd_init_0 : decode bNd_init 0 = .ok (.aload_n 0, 1) := by decide +kernel
theorem dNd_init_1 : decode bNd_init 1 = .ok (.invokespecial 3, 3) := by decide +kernel
theorem dNd_init_4 : decode bNd_init 4 = .ok (.aload_n 0, 1) := by decide +kernel
theorem dNd_init_5 : decode bNd_init 5 = .ok (.sipush 300, 3) := by decide +kernel
theorem dNd_init_8 : decode bNd_init 8 = .ok (.newarray .int, 2) := by decide +kernel
theorem dNd_init_10 : decode bNd_init 10 = .ok (.putfield 9, 3) := by decide +kernel
theorem dNd_init_13 : decode bNd_init 13 = .ok (.aload_n 0, 1) := by decide +kernel
theorem dNd_init_14 : decode bNd_init 14 = .ok (.sipush 300, 3) := by decide +kernel
theorem dNd_init_17 : decode bNd_init 17 = .ok (.newarray .int, 2) := by decide +kernel
theorem dNd_init_19 : decode bNd_init 19 = .ok (.putfield 15, 3) := by decide +kernel
theorem dNd_init_22 : decode bNd_init 22 = .ok (.aload_n 0, 1) := by decide +kernel
theorem dNd_init_23 : decode bNd_init 23 = .ok (.iconst 0, 1) := by decide +kernel
theorem dNd_init_24 : decode bNd_init 24 = .ok (.putfield 18, 3) := by decide +kernel
theorem dNd_init_27 : decode bNd_init 27 = .ok (.return_, 1) := by decide +kernel
theorem dLi_init_0 : decode bLi_init 0 = .ok (.aload_n 0, 1) := by decide +kernel
theorem dLi_init_1 : decode bLi_init 1 = .ok (.invokespecial 3, 3) := by decide +kernel
theorem dLi_init_4 : decode bLi_init 4 = .ok (.aload_n 0, 1) := by decide +kernel
theorem dLi_init_5 : decode bLi_init 5 = .ok (.bipush 16, 2) := by decide +kernel
theorem dLi_init_7 : decode bLi_init 7 = .ok (.bipush 16, 2) := by decide +kernel
theorem dLi_init_9 : decode bLi_init 9 = .ok (.multianewarray 9 2, 4) := by decide +kernel
theorem dLi_init_13 : decode bLi_init 13 = .ok (.putfield 11, 3) := by decide +kernel
theorem dLi_init_16 : decode bLi_init 16 = .ok (.aload_n 0, 1) := by decide +kernel
theorem dLi_init_17 : decode bLi_init 17 = .ok (.bipush 16, 2) := by decide +kernel
theorem dLi_init_19 : decode bLi_init 19 = .ok (.bipush 16, 2) := by decide +kernel
theorem dLi_init_21 : decode bLi_init 21 = .ok (.multianewarray 9 2, 4) := by decide +kernel
theorem dLi_init_25 : decode bLi_init 25 = .ok (.putfield 16, 3) := by decide +kernel
theorem dLi_init_28 : decode bLi_init 28 = .ok (.aload_n 0, 1) := by decide +kernel
theorem dLi_init_29 : decode bLi_init 29 = .ok (.bipush 16, 2) := by decide +kernel
theorem dLi_init_31 : decode bLi_init 31 = .ok (.newarray .long, 2) := by decide +kernel
theorem dLi_init_33 : decode bLi_init 33 = .ok (.putfield 19, 3) := by decide +kernel
theorem dLi_init_36 : decode bLi_init 36 = .ok (.return_, 1) := by decide +kernel
theorem dRg_init_0 : decode bRg_init 0 = .ok (.aload_n 0, 1) := by decide +kernel
theorem dRg_init_1 : decode bRg_init 1 = .ok (.invokespecial 3, 3) := by decide +kernel
theorem dRg_init_4 : decode bRg_init 4 = .ok (.aload_n 0, 1) := by decide +kernel
theorem dRg_init_5 : decode bRg_init 5 = .ok (.bipush 16, 2) := by decide +kernel
theorem dRg_init_7 : decode bRg_init 7 = .ok (.newarray .int, 2) := by decide +kernel
theorem dRg_init_9 : decode bRg_init 9 = .ok (.putfield 9, 3) := by decide +kernel
theorem dRg_init_12 : decode bRg_init 12 = .ok (.aload_n 0, 1) := by decide +kernel
theorem dRg_init_13 : decode bRg_init 13 = .ok (.bipush 17, 2) := by decide +kernel
theorem dRg_init_15 : decode bRg_init 15 = .ok (.bipush 16, 2) := by decide +kernel
theorem dRg_init_17 : decode bRg_init 17 = .ok (.multianewarray 15 2, 4) := by decide +kernel
theorem dRg_init_21 : decode bRg_init 21 = .ok (.putfield 17, 3) := by decide +kernel
theorem dRg_init_24 : decode bRg_init 24 = .ok (.aload_n 0, 1) := by decide +kernel
theorem dRg_init_25 : decode bRg_init 25 = .ok (.iconst 0, 1) := by decide +kernel
theorem dRg_init_26 : decode bRg_init 26 = .ok (.putfield 20, 3) := by decide +kernel
theorem dRg_init_29 : decode bRg_init 29 = .ok (.return_, 1) := by decide +kernel
theorem dTl_init_0 : decode bTl_init 0 = .ok (.aload_n 0, 1) := by decide +kernel
theorem dTl_init_1 : decode bTl_init 1 = .ok (.invokespecial 3, 3) := by decide +kernel
theorem dTl_init_4 : decode bTl_init 4 = .ok (.aload_n 0, 1) := by decide +kernel
theorem dTl_init_5 : decode bTl_init 5 = .ok (.sipush 301, 3) := by decide +kernel
theorem dTl_init_8 : decode bTl_init 8 = .ok (.newarray .long, 2) := by decide +kernel
theorem dTl_init_10 : decode bTl_init 10 = .ok (.putfield 9, 3) := by decide +kernel
theorem dTl_init_13 : decode bTl_init 13 = .ok (.aload_n 0, 1) := by decide +kernel
theorem dTl_init_14 : decode bTl_init 14 = .ok (.sipush 300, 3) := by decide +kernel
theorem dTl_init_17 : decode bTl_init 17 = .ok (.newarray .int, 2) := by decide +kernel
theorem dTl_init_19 : decode bTl_init 19 = .ok (.putfield 15, 3) := by decide +kernel
theorem dTl_init_22 : decode bTl_init 22 = .ok (.aload_n 0, 1) := by decide +kernel
theorem dTl_init_23 : decode bTl_init 23 = .ok (.iconst 0, 1) := by decide +kernel
theorem dTl_init_24 : decode bTl_init 24 = .ok (.putfield 19, 3) := by decide +kernel
theorem dTl_init_27 : decode bTl_init 27 = .ok (.return_, 1) := by decide +kernel
theorem dM_init_0 : decode bM_init 0 = .ok (.aload_n 0, 1) := by decide +kernel
theorem dM_init_1 : decode bM_init 1 = .ok (.invokespecial 1, 3) := by decide +kernel
theorem dM_init_4 : decode bM_init 4 = .ok (.aload_n 0, 1) := by decide +kernel
theorem dM_init_5 : decode bM_init 5 = .ok (.sipush 301, 3) := by decide +kernel
theorem dM_init_8 : decode bM_init 8 = .ok (.newarray .int, 2) := by decide +kernel
theorem dM_init_10 : decode bM_init 10 = .ok (.putfield 7, 3) := by decide +kernel
theorem dM_init_13 : decode bM_init 13 = .ok (.aload_n 0, 1) := by decide +kernel
theorem dM_init_14 : decode bM_init 14 = .ok (.sipush 301, 3) := by decide +kernel
theorem dM_init_17 : decode bM_init 17 = .ok (.newarray .int, 2) := by decide +kernel
theorem dM_init_19 : decode bM_init 19 = .ok (.putfield 13, 3) := by decide +kernel
theorem dM_init_22 : decode bM_init 22 = .ok (.aload_n 0, 1) := by decide +kernel
theorem dM_init_23 : decode bM_init 23 = .ok (.sipush 301, 3) := by decide +kernel
theorem dM_init_26 : decode bM_init 26 = .ok (.newarray .int, 2) := by decide +kernel
theorem dM_init_28 : decode bM_init 28 = .ok (.putfield 16, 3) := by decide +kernel
theorem dM_init_31 : decode bM_init 31 = .ok (.aload_n 0, 1) := by decide +kernel
theorem dM_init_32 : decode bM_init 32 = .ok (.sipush 301, 3) := by decide +kernel
theorem dM_init_35 : decode bM_init 35 = .ok (.newarray .int, 2) := by decide +kernel
theorem dM_init_37 : decode bM_init 37 = .ok (.putfield 19, 3) := by decide +kernel
theorem dM_init_40 : decode bM_init 40 = .ok (.aload_n 0, 1) := by decide +kernel
theorem dM_init_41 : decode bM_init 41 = .ok (.sipush 301, 3) := by decide +kernel
theorem dM_init_44 : decode bM_init 44 = .ok (.newarray .long, 2) := by decide +kernel
theorem dM_init_46 : decode bM_init 46 = .ok (.putfield 22, 3) := by decide +kernel
theorem dM_init_49 : decode bM_init 49 = .ok (.aload_n 0, 1) := by decide +kernel
theorem dM_init_50 : decode bM_init 50 = .ok (.sipush 300, 3) := by decide +kernel
theorem dM_init_53 : decode bM_init 53 = .ok (.newarray .int, 2) := by decide +kernel
theorem dM_init_55 : decode bM_init 55 = .ok (.putfield 26, 3) := by decide +kernel
theorem dM_init_58 : decode bM_init 58 = .ok (.aload_n 0, 1) := by decide +kernel
theorem dM_init_59 : decode bM_init 59 = .ok (.sipush 300, 3) := by decide +kernel
theorem dM_init_62 : decode bM_init 62 = .ok (.newarray .int, 2) := by decide +kernel
theorem dM_init_64 : decode bM_init 64 = .ok (.putfield 29, 3) := by decide +kernel
theorem dM_init_67 : decode bM_init 67 = .ok (.aload_n 0, 1) := by decide +kernel
theorem dM_init_68 : decode bM_init 68 = .ok (.bipush 16, 2) := by decide +kernel
theorem dM_init_70 : decode bM_init 70 = .ok (.newarray .int, 2) := by decide +kernel
theorem dM_init_72 : decode bM_init 72 = .ok (.putfield 32, 3) := by decide +kernel
theorem dM_init_75 : decode bM_init 75 = .ok (.aload_n 0, 1) := by decide +kernel
theorem dM_init_76 : decode bM_init 76 = .ok (.sipush 256, 3) := by decide +kernel
theorem dM_init_79 : decode bM_init 79 = .ok (.newarray .long, 2) := by decide +kernel
theorem dM_init_81 : decode bM_init 81 = .ok (.putfield 35, 3) := by decide +kernel
theorem dM_init_84 : decode bM_init 84 = .ok (.aload_n 0, 1) := by decide +kernel
theorem dM_init_85 : decode bM_init 85 = .ok (.sipush 256, 3) := by decide +kernel
theorem dM_init_88 : decode bM_init 88 = .ok (.newarray .long, 2) := by decide +kernel
theorem dM_init_90 : decode bM_init 90 = .ok (.putfield 38, 3) := by decide +kernel
theorem dM_init_93 : decode bM_init 93 = .ok (.aload_n 0, 1) := by decide +kernel
theorem dM_init_94 : decode bM_init 94 = .ok (.sipush 4352, 3) := by decide +kernel
theorem dM_init_97 : decode bM_init 97 = .ok (.newarray .long, 2) := by decide +kernel
theorem dM_init_99 : decode bM_init 99 = .ok (.putfield 41, 3) := by decide +kernel
theorem dM_init_102 : decode bM_init 102 = .ok (.aload_n 0, 1) := by decide +kernel
theorem dM_init_103 : decode bM_init 103 = .ok (.bipush 16, 2) := by decide +kernel
theorem dM_init_105 : decode bM_init 105 = .ok (.newarray .long, 2) := by decide +kernel
theorem dM_init_107 : decode bM_init 107 = .ok (.putfield 44, 3) := by decide +kernel
theorem dM_init_110 : decode bM_init 110 = .ok (.aload_n 0, 1) := by decide +kernel
theorem dM_init_111 : decode bM_init 111 = .ok (.iconst 0, 1) := by decide +kernel
theorem dM_init_112 : decode bM_init 112 = .ok (.putfield 47, 3) := by decide +kernel
theorem dM_init_115 : decode bM_init 115 = .ok (.return_, 1) := by decide +kernel
theorem dX_init_0 : decode bX_init 0 = .ok (.aload_n 0, 1) := by decide +kernel
theorem dX_init_1 : decode bX_init 1 = .ok (.invokespecial 3, 3) := by decide +kernel
theorem dX_init_4 : decode bX_init 4 = .ok (.aload_n 0, 1) := by decide +kernel
theorem dX_init_5 : decode bX_init 5 = .ok (.new 9, 3) := by decide +kernel
theorem dX_init_8 : decode bX_init 8 = .ok (.dup, 1) := by decide +kernel
theorem dX_init_9 : decode bX_init 9 = .ok (.invokespecial 11, 3) := by decide +kernel
theorem dX_init_12 : decode bX_init 12 = .ok (.putfield 12, 3) := by decide +kernel
theorem dX_init_15 : decode bX_init 15 = .ok (.aload_n 0, 1) := by decide +kernel
theorem dX_init_16 : decode bX_init 16 = .ok (.new 18, 3) := by decide +kernel
theorem dX_init_19 : decode bX_init 19 = .ok (.dup, 1) := by decide +kernel
theorem dX_init_20 : decode bX_init 20 = .ok (.invokespecial 20, 3) := by decide +kernel
theorem dX_init_23 : decode bX_init 23 = .ok (.putfield 21, 3) := by decide +kernel
theorem dX_init_26 : decode bX_init 26 = .ok (.aload_n 0, 1) := by decide +kernel
theorem dX_init_27 : decode bX_init 27 = .ok (.new 25, 3) := by decide +kernel
theorem dX_init_30 : decode bX_init 30 = .ok (.dup, 1) := by decide +kernel
theorem dX_init_31 : decode bX_init 31 = .ok (.invokespecial 27, 3) := by decide +kernel
theorem dX_init_34 : decode bX_init 34 = .ok (.putfield 28, 3) := by decide +kernel
theorem dX_init_37 : decode bX_init 37 = .ok (.aload_n 0, 1) := by decide +kernel
theorem dX_init_38 : decode bX_init 38 = .ok (.new 32, 3) := by decide +kernel
theorem dX_init_41 : decode bX_init 41 = .ok (.dup, 1) := by decide +kernel
theorem dX_init_42 : decode bX_init 42 = .ok (.invokespecial 34, 3) := by decide +kernel
theorem dX_init_45 : decode bX_init 45 = .ok (.putfield 35, 3) := by decide +kernel
theorem dX_init_48 : decode bX_init 48 = .ok (.aload_n 0, 1) := by decide +kernel
theorem dX_init_49 : decode bX_init 49 = .ok (.new 39, 3) := by decide +kernel
theorem dX_init_52 : decode bX_init 52 = .ok (.dup, 1) := by decide +kernel
theorem dX_init_53 : decode bX_init 53 = .ok (.invokespecial 41, 3) := by decide +kernel
theorem dX_init_56 : decode bX_init 56 = .ok (.putfield 42, 3) := by decide +kernel
theorem dX_init_59 : decode bX_init 59 = .ok (.aload_n 0, 1) := by decide +kernel
theorem dX_init_60 : decode bX_init 60 = .ok (.iconst 0, 1) := by decide +kernel
theorem dX_init_61 : decode bX_init 61 = .ok (.putfield 46, 3) := by decide +kernel
theorem dX_init_64 : decode bX_init 64 = .ok (.aload_n 0, 1) := by decide +kernel
theorem dX_init_65 : decode bX_init 65 = .ok (.iconst 0, 1) := by decide +kernel
theorem dX_init_66 : decode bX_init 66 = .ok (.putfield 50, 3) := by decide +kernel
theorem dX_init_69 : decode bX_init 69 = .ok (.return_, 1) := by decide +kernel
theorem k_c0 : (.methodLink REv 3 Lib.objectInit : Cond) ∈ TBL := TBL_in (by decide +kernel) (by decide +kernel)
theorem k_c1 : (.instanceMethod Lib.objectInit : Cond) ∈ TBL := TBL_in (by decide +kernel) (by decide +kernel)
theorem k_c2 : (.code Lib.objectInit ⟨#[0xb1]⟩ 1 none : Cond) ∈ TBL := TBL_in (by decide +kernel) (by decide +kernel)
theorem k_c3 : (.arrayClass .int : Cond) ∈ TBL := TBL_in (by decide +kernel) (by decide +kernel)
theorem k_c4 : (.fieldLink REv 9 REv "sources" "[I" : Cond) ∈ TBL := TBL_in (by decide +kernel) (by decide +kernel)
theorem k_c5 : (.fieldLink REv 15 REv "items" "[I" : Cond) ∈ TBL := TBL_in (by decide +kernel) (by decide +kernel)
theorem k_c6 : (.fieldLink REv 18 REv "kinds" "[I" : Cond) ∈ TBL := TBL_in (by decide +kernel) (by decide +kernel)
theorem k_c7 : (.fieldLink REv 21 REv "places" "[I" : Cond) ∈ TBL := TBL_in (by decide +kernel) (by decide +kernel)
theorem k_c8 : (.arrayClass .long : Cond) ∈ TBL := TBL_in (by decide +kernel) (by decide +kernel)
theorem k_c9 : (.fieldLink REv 24 REv "clocks" "[J" : Cond) ∈ TBL := TBL_in (by decide +kernel) (by decide +kernel)
theorem k_c10 : (.fieldLink REv 28 REv "count" "I" : Cond) ∈ TBL := TBL_in (by decide +kernel) (by decide +kernel)
theorem k_c11 : (.methodLink RNd 3 Lib.objectInit : Cond) ∈ TBL := TBL_in (by decide +kernel) (by decide +kernel)
theorem k_c12 : (.fieldLink RNd 9 RNd "firsts" "[I" : Cond) ∈ TBL := TBL_in (by decide +kernel) (by decide +kernel)
theorem k_c13 : (.fieldLink RNd 15 RNd "seconds" "[I" : Cond) ∈ TBL := TBL_in (by decide +kernel) (by decide +kernel)
theorem k_c14 : (.fieldLink RNd 18 RNd "count" "I" : Cond) ∈ TBL := TBL_in (by decide +kernel) (by decide +kernel)
theorem k_c15 : (.methodLink RLi 3 Lib.objectInit : Cond) ∈ TBL := TBL_in (by decide +kernel) (by decide +kernel)
theorem k_c16 : (.classLink RLi 9 "[[J" : Cond) ∈ TBL := TBL_in (by decide +kernel) (by decide +kernel)
theorem k_c17 : (.fieldLink RLi 11 RLi "weights" "[[J" : Cond) ∈ TBL := TBL_in (by decide +kernel) (by decide +kernel)
theorem k_c18 : (.fieldLink RLi 16 RLi "bounds" "[[J" : Cond) ∈ TBL := TBL_in (by decide +kernel) (by decide +kernel)
theorem k_c19 : (.fieldLink RLi 19 RLi "offsets" "[J" : Cond) ∈ TBL := TBL_in (by decide +kernel) (by decide +kernel)
theorem k_c20 : (.methodLink RRg 3 Lib.objectInit : Cond) ∈ TBL := TBL_in (by decide +kernel) (by decide +kernel)
theorem k_c21 : (.fieldLink RRg 9 RRg "row" "[I" : Cond) ∈ TBL := TBL_in (by decide +kernel) (by decide +kernel)
theorem k_c22 : (.classLink RRg 15 "[[J" : Cond) ∈ TBL := TBL_in (by decide +kernel) (by decide +kernel)
theorem k_c23 : (.fieldLink RRg 17 RRg "homeward" "[[J" : Cond) ∈ TBL := TBL_in (by decide +kernel) (by decide +kernel)
theorem k_c24 : (.fieldLink RRg 20 RRg "length" "I" : Cond) ∈ TBL := TBL_in (by decide +kernel) (by decide +kernel)
theorem k_c25 : (.methodLink RTl 3 Lib.objectInit : Cond) ∈ TBL := TBL_in (by decide +kernel) (by decide +kernel)
theorem k_c26 : (.fieldLink RTl 9 RTl "times" "[J" : Cond) ∈ TBL := TBL_in (by decide +kernel) (by decide +kernel)
theorem k_c27 : (.fieldLink RTl 15 RTl "order" "[I" : Cond) ∈ TBL := TBL_in (by decide +kernel) (by decide +kernel)
theorem k_c28 : (.fieldLink RTl 19 RTl "count" "I" : Cond) ∈ TBL := TBL_in (by decide +kernel) (by decide +kernel)
theorem k_c29 : (.methodLink RM 1 Lib.objectInit : Cond) ∈ TBL := TBL_in (by decide +kernel) (by decide +kernel)
theorem k_c30 : (.fieldLink RM 7 RM "source" "[I" : Cond) ∈ TBL := TBL_in (by decide +kernel) (by decide +kernel)
theorem k_c31 : (.fieldLink RM 13 RM "item" "[I" : Cond) ∈ TBL := TBL_in (by decide +kernel) (by decide +kernel)
theorem k_c32 : (.fieldLink RM 16 RM "kind" "[I" : Cond) ∈ TBL := TBL_in (by decide +kernel) (by decide +kernel)
theorem k_c33 : (.fieldLink RM 19 RM "place" "[I" : Cond) ∈ TBL := TBL_in (by decide +kernel) (by decide +kernel)
theorem k_c34 : (.fieldLink RM 22 RM "clock" "[J" : Cond) ∈ TBL := TBL_in (by decide +kernel) (by decide +kernel)
theorem k_c35 : (.fieldLink RM 26 RM "first" "[I" : Cond) ∈ TBL := TBL_in (by decide +kernel) (by decide +kernel)
theorem k_c36 : (.fieldLink RM 29 RM "second" "[I" : Cond) ∈ TBL := TBL_in (by decide +kernel) (by decide +kernel)
theorem k_c37 : (.fieldLink RM 32 RM "ring" "[I" : Cond) ∈ TBL := TBL_in (by decide +kernel) (by decide +kernel)
theorem k_c38 : (.fieldLink RM 35 RM "weights" "[J" : Cond) ∈ TBL := TBL_in (by decide +kernel) (by decide +kernel)
theorem k_c39 : (.fieldLink RM 38 RM "bounds" "[J" : Cond) ∈ TBL := TBL_in (by decide +kernel) (by decide +kernel)
theorem k_c40 : (.fieldLink RM 41 RM "ways" "[J" : Cond) ∈ TBL := TBL_in (by decide +kernel) (by decide +kernel)
theorem k_c41 : (.fieldLink RM 44 RM "offsets" "[J" : Cond) ∈ TBL := TBL_in (by decide +kernel) (by decide +kernel)
theorem k_c42 : (.fieldLink RM 47 RM "sources" "I" : Cond) ∈ TBL := TBL_in (by decide +kernel) (by decide +kernel)
theorem k_c43 : (.methodLink RX 3 Lib.objectInit : Cond) ∈ TBL := TBL_in (by decide +kernel) (by decide +kernel)
theorem k_c44 : (.classLink RX 9 REv : Cond) ∈ TBL := TBL_in (by decide +kernel) (by decide +kernel)
theorem k_c45 : (.instantiable REv 6 : Cond) ∈ TBL := TBL_in (by decide +kernel) (by decide +kernel)
theorem k_c46 : (.initialized REv : Cond) ∈ TBL := TBL_in (by decide +kernel) (by decide +kernel)
theorem k_c47 : (.code yEv_init bEv_init 1 none : Cond) ∈ TBL := TBL_in (by decide +kernel) (by decide +kernel)
theorem k_c48 : (.initialized yEv_init.cls : Cond) ∈ TBL := TBL_in (by decide +kernel) (by decide +kernel)
theorem k_c49 : (.methodLink RX 11 yEv_init : Cond) ∈ TBL := TBL_in (by decide +kernel) (by decide +kernel)
theorem k_c50 : (.instanceMethod yEv_init : Cond) ∈ TBL := TBL_in (by decide +kernel) (by decide +kernel)
theorem k_c51 : (.fieldLink RX 12 RX "events" "LEventOrder$Events;" : Cond) ∈ TBL := TBL_in (by decide +kernel) (by decide +kernel)
theorem k_c52 : (.classLink RX 18 RNd : Cond) ∈ TBL := TBL_in (by decide +kernel) (by decide +kernel)
theorem k_c53 : (.instantiable RNd 3 : Cond) ∈ TBL := TBL_in (by decide +kernel) (by decide +kernel)
theorem k_c54 : (.initialized RNd : Cond) ∈ TBL := TBL_in (by decide +kernel) (by decide +kernel)
theorem k_c55 : (.code yNd_init bNd_init 1 none : Cond) ∈ TBL := TBL_in (by decide +kernel) (by decide +kernel)
theorem k_c56 : (.initialized yNd_init.cls : Cond) ∈ TBL := TBL_in (by decide +kernel) (by decide +kernel)
theorem k_c57 : (.methodLink RX 20 yNd_init : Cond) ∈ TBL := TBL_in (by decide +kernel) (by decide +kernel)
theorem k_c58 : (.instanceMethod yNd_init : Cond) ∈ TBL := TBL_in (by decide +kernel) (by decide +kernel)
theorem k_c59 : (.fieldLink RX 21 RX "needs" "LEventOrder$Needs;" : Cond) ∈ TBL := TBL_in (by decide +kernel) (by decide +kernel)
theorem k_c60 : (.classLink RX 25 RLi : Cond) ∈ TBL := TBL_in (by decide +kernel) (by decide +kernel)
theorem k_c61 : (.instantiable RLi 3 : Cond) ∈ TBL := TBL_in (by decide +kernel) (by decide +kernel)
theorem k_c62 : (.initialized RLi : Cond) ∈ TBL := TBL_in (by decide +kernel) (by decide +kernel)
theorem k_c63 : (.code yLi_init bLi_init 1 none : Cond) ∈ TBL := TBL_in (by decide +kernel) (by decide +kernel)
theorem k_c64 : (.initialized yLi_init.cls : Cond) ∈ TBL := TBL_in (by decide +kernel) (by decide +kernel)
theorem k_c65 : (.methodLink RX 27 yLi_init : Cond) ∈ TBL := TBL_in (by decide +kernel) (by decide +kernel)
theorem k_c66 : (.instanceMethod yLi_init : Cond) ∈ TBL := TBL_in (by decide +kernel) (by decide +kernel)
theorem k_c67 : (.fieldLink RX 28 RX "limits" "LEventOrder$Limits;" : Cond) ∈ TBL := TBL_in (by decide +kernel) (by decide +kernel)
theorem k_c68 : (.classLink RX 32 RRg : Cond) ∈ TBL := TBL_in (by decide +kernel) (by decide +kernel)
theorem k_c69 : (.instantiable RRg 3 : Cond) ∈ TBL := TBL_in (by decide +kernel) (by decide +kernel)
theorem k_c70 : (.initialized RRg : Cond) ∈ TBL := TBL_in (by decide +kernel) (by decide +kernel)
theorem k_c71 : (.code yRg_init bRg_init 1 none : Cond) ∈ TBL := TBL_in (by decide +kernel) (by decide +kernel)
theorem k_c72 : (.initialized yRg_init.cls : Cond) ∈ TBL := TBL_in (by decide +kernel) (by decide +kernel)
theorem k_c73 : (.methodLink RX 34 yRg_init : Cond) ∈ TBL := TBL_in (by decide +kernel) (by decide +kernel)
theorem k_c74 : (.instanceMethod yRg_init : Cond) ∈ TBL := TBL_in (by decide +kernel) (by decide +kernel)
theorem k_c75 : (.fieldLink RX 35 RX "told" "LEventOrder$Ring;" : Cond) ∈ TBL := TBL_in (by decide +kernel) (by decide +kernel)
theorem k_c76 : (.classLink RX 39 RTl : Cond) ∈ TBL := TBL_in (by decide +kernel) (by decide +kernel)
theorem k_c77 : (.instantiable RTl 3 : Cond) ∈ TBL := TBL_in (by decide +kernel) (by decide +kernel)
theorem k_c78 : (.initialized RTl : Cond) ∈ TBL := TBL_in (by decide +kernel) (by decide +kernel)
theorem k_c79 : (.code yTl_init bTl_init 1 none : Cond) ∈ TBL := TBL_in (by decide +kernel) (by decide +kernel)
theorem k_c80 : (.initialized yTl_init.cls : Cond) ∈ TBL := TBL_in (by decide +kernel) (by decide +kernel)
theorem k_c81 : (.methodLink RX 41 yTl_init : Cond) ∈ TBL := TBL_in (by decide +kernel) (by decide +kernel)
theorem k_c82 : (.instanceMethod yTl_init : Cond) ∈ TBL := TBL_in (by decide +kernel) (by decide +kernel)
theorem k_c83 : (.fieldLink RX 42 RX "timeline" "LEventOrder$Timeline;" : Cond) ∈ TBL := TBL_in (by decide +kernel) (by decide +kernel)
theorem k_c84 : (.fieldLink RX 46 RX "sourceCount" "I" : Cond) ∈ TBL := TBL_in (by decide +kernel) (by decide +kernel)
theorem k_c85 : (.fieldLink RX 50 RX "settled" "Z" : Cond) ∈ TBL := TBL_in (by decide +kernel) (by decide +kernel)
end
section
def w0Ev (cI cL cO : ClassId) (a : Nat) (u : Nat → Nat) : va_W := ((((([(a, .inr (1, [.ref (u 0), .ref (u 1), .ref (u 2), .ref (u 3), .ref (u 4), .int 0]))] ++ [((u 0), .inl (cI, 301, .inl (fun _ => 0)))]) ++ [((u 1), .inl (cI, 301, .inl (fun _ => 0)))]) ++ [((u 2), .inl (cI, 301, .inl (fun _ => 0)))]) ++ [((u 3), .inl (cI, 301, .inl (fun _ => 0)))]) ++ [((u 4), .inl (cL, 301, .inr (.inl (fun _ => 0))))])
abbrev rm_Events_init : Room := { frames := 1, cells := 5, slots := 1505, locals := 20 }
set_option maxHeartbeats 4000000 in
set_option maxRecDepth 100000 in
theorem c_Events_init {l : Launch} {D : va_G} {cI cL cO : ClassId} {a : Nat} (sz : Nat) : Met l yEv_init (Cond.code yEv_init bEv_init 1 none :: TBL) rm_Events_init (va_Pc [.ref a] (fun U => XP D vwCl (tysX cI cL cO) [(a, .inr (1, [.null, .null, .null, .null, .null, .int 0]))] sz U ∧ XO U)) (va_Qv (fun _ => True) (fun (u : Nat → Nat) t => XB D vwCl (tysX cI cL cO) (va_A [(a, .inr (1, [.null, .null, .null, .null, .null, .int 0]))] sz) (w0Ev cI cL cO a u) t) (va_A [(a, .inr (1, [.null, .null, .null, .null, .null, .int 0]))] sz)) rm_Events_init.cells rm_Events_init.slots (va_A [(a, .inr (1, [.null, .null, .null, .null, .null, .int 0]))] sz) := by
  refine x_metP [.ref a] TBL_good (by decide) (Nat.le_of_ble_eq_true rfl) ?_
  intro p e s m args below meth c hC hr hlk hnm hO
  show XW p l e rm_Events_init s m args below meth c D vwCl (va_A [(a, .inr (1, [.null, .null, .null, .null, .null, .int 0]))] sz) 1 _ 0 0 [(a, .inr (1, [.null, .null, .null, .null, .null, .int 0]))] 0 [(0, .ref a)] []
  refine x_aload_n hC dEv_init_0 rfl 0 rfl ?_
  refine x_objInit hC k_c0 k_c1 k_c2 dEv_init_1 (by decide) (by decide) ?_
  refine x_aload_n hC dEv_init_4 rfl 0 rfl ?_
  refine x_sipush (v := 301) hC dEv_init_5 (by decide) ?_
  refine x_newi hC 301 0 rfl k_c3 (by decide) (by decide) (by decide) (by decide) (by decide) dEv_init_8 (fun q1 => ?_)
  refine x_putF (ty := .array .int) (ws' := ([(a, .inr (1, [.ref q1, .null, .null, .null, .null, .int 0]))] ++ [(q1, .inl (cI, 301, .inl (fun _ => 0)))])) hC iEv 0 rfl rfl 0 (by decide) k_c4 rfl tEv tEv_ok nEv rfl hnm rfl (by decide +kernel) rfl rfl (Nat.le_of_ble_eq_true rfl) rfl dEv_init_10 ?_
  refine x_aload_n hC dEv_init_13 rfl 0 rfl ?_
  refine x_sipush (v := 301) hC dEv_init_14 (by decide) ?_
  refine x_newi hC 301 0 rfl k_c3 (by decide) (by decide) (by decide) (by decide) (by decide) dEv_init_17 (fun q2 => ?_)
  refine x_putF (ty := .array .int) (ws' := (([(a, .inr (1, [.ref q1, .ref q2, .null, .null, .null, .int 0]))] ++ [(q1, .inl (cI, 301, .inl (fun _ => 0)))]) ++ [(q2, .inl (cI, 301, .inl (fun _ => 0)))])) hC iEv 0 rfl rfl 1 (by decide) k_c5 rfl tEv tEv_ok nEv rfl hnm rfl (by decide +kernel) rfl rfl (Nat.le_of_ble_eq_true rfl) rfl dEv_init_19 ?_
  refine x_aload_n hC dEv_init_22 rfl 0 rfl ?_
  refine x_sipush (v := 301) hC dEv_init_23 (by decide) ?_
  refine x_newi hC 301 0 rfl k_c3 (by decide) (by decide) (by decide) (by decide) (by decide) dEv_init_26 (fun q3 => ?_)
  refine x_putF (ty := .array .int) (ws' := ((([(a, .inr (1, [.ref q1, .ref q2, .ref q3, .null, .null, .int 0]))] ++ [(q1, .inl (cI, 301, .inl (fun _ => 0)))]) ++ [(q2, .inl (cI, 301, .inl (fun _ => 0)))]) ++ [(q3, .inl (cI, 301, .inl (fun _ => 0)))])) hC iEv 0 rfl rfl 2 (by decide) k_c6 rfl tEv tEv_ok nEv rfl hnm rfl (by decide +kernel) rfl rfl (Nat.le_of_ble_eq_true rfl) rfl dEv_init_28 ?_
  refine x_aload_n hC dEv_init_31 rfl 0 rfl ?_
  refine x_sipush (v := 301) hC dEv_init_32 (by decide) ?_
  refine x_newi hC 301 0 rfl k_c3 (by decide) (by decide) (by decide) (by decide) (by decide) dEv_init_35 (fun q4 => ?_)
  refine x_putF (ty := .array .int) (ws' := (((([(a, .inr (1, [.ref q1, .ref q2, .ref q3, .ref q4, .null, .int 0]))] ++ [(q1, .inl (cI, 301, .inl (fun _ => 0)))]) ++ [(q2, .inl (cI, 301, .inl (fun _ => 0)))]) ++ [(q3, .inl (cI, 301, .inl (fun _ => 0)))]) ++ [(q4, .inl (cI, 301, .inl (fun _ => 0)))])) hC iEv 0 rfl rfl 3 (by decide) k_c7 rfl tEv tEv_ok nEv rfl hnm rfl (by decide +kernel) rfl rfl (Nat.le_of_ble_eq_true rfl) rfl dEv_init_37 ?_
  refine x_aload_n hC dEv_init_40 rfl 0 rfl ?_
  refine x_sipush (v := 301) hC dEv_init_41 (by decide) ?_
  refine x_newl hC 301 1 rfl k_c8 (by decide) (by decide) (by decide) (by decide) (by decide) dEv_init_44 (fun q5 => ?_)
  refine x_putF (ty := .array .long) (ws' := ((((([(a, .inr (1, [.ref q1, .ref q2, .ref q3, .ref q4, .ref q5, .int 0]))] ++ [(q1, .inl (cI, 301, .inl (fun _ => 0)))]) ++ [(q2, .inl (cI, 301, .inl (fun _ => 0)))]) ++ [(q3, .inl (cI, 301, .inl (fun _ => 0)))]) ++ [(q4, .inl (cI, 301, .inl (fun _ => 0)))]) ++ [(q5, .inl (cL, 301, .inr (.inl (fun _ => 0))))])) hC iEv 0 rfl rfl 4 (by decide) k_c9 rfl tEv tEv_ok nEv rfl hnm rfl (by decide +kernel) rfl rfl (Nat.le_of_ble_eq_true rfl) rfl dEv_init_46 ?_
  refine x_aload_n hC dEv_init_49 rfl 0 rfl ?_
  refine x_iconst (v := 0) hC dEv_init_50 (by decide) ?_
  refine x_put (ty := .int) (ws' := ((((([(a, .inr (1, [.ref q1, .ref q2, .ref q3, .ref q4, .ref q5, .int 0]))] ++ [(q1, .inl (cI, 301, .inl (fun _ => 0)))]) ++ [(q2, .inl (cI, 301, .inl (fun _ => 0)))]) ++ [(q3, .inl (cI, 301, .inl (fun _ => 0)))]) ++ [(q4, .inl (cI, 301, .inl (fun _ => 0)))]) ++ [(q5, .inl (cL, 301, .inr (.inl (fun _ => 0))))])) hC iEv 0 rfl rfl 5 (by decide) k_c10 rfl tEv tEv_ok nEv rfl (by decide +kernel) rfl rfl (Nat.le_of_ble_eq_true rfl) rfl dEv_init_51 ?_
  exact x_vretP (u := fun k => ([q1, q2, q3, q4, q5] : List Nat).getD k 0) (wf := fun u => w0Ev cI cL cO a u) hC (by decide) (by decide) hr hlk dEv_init_54 trivial rfl
def w0Nd (cI cL cO : ClassId) (a : Nat) (u : Nat → Nat) : va_W := (([(a, .inr (2, [.ref (u 0), .ref (u 1), .int 0]))] ++ [((u 0), .inl (cI, 300, .inl (fun _ => 0)))]) ++ [((u 1), .inl (cI, 300, .inl (fun _ => 0)))])
abbrev rm_Needs_init : Room := { frames := 1, cells := 2, slots := 600, locals := 20 }
set_option maxHeartbeats 4000000 in
set_option maxRecDepth 100000 in
theorem c_Needs_init {l : Launch} {D : va_G} {cI cL cO : ClassId} {a : Nat} (sz : Nat) : Met l yNd_init (Cond.code yNd_init bNd_init 1 none :: TBL) rm_Needs_init (va_Pc [.ref a] (fun U => XP D vwCl (tysX cI cL cO) [(a, .inr (2, [.null, .null, .int 0]))] sz U ∧ XO U)) (va_Qv (fun _ => True) (fun (u : Nat → Nat) t => XB D vwCl (tysX cI cL cO) (va_A [(a, .inr (2, [.null, .null, .int 0]))] sz) (w0Nd cI cL cO a u) t) (va_A [(a, .inr (2, [.null, .null, .int 0]))] sz)) rm_Needs_init.cells rm_Needs_init.slots (va_A [(a, .inr (2, [.null, .null, .int 0]))] sz) := by
  refine x_metP [.ref a] TBL_good (by decide) (Nat.le_of_ble_eq_true rfl) ?_
  intro p e s m args below meth c hC hr hlk hnm hO
  show XW p l e rm_Needs_init s m args below meth c D vwCl (va_A [(a, .inr (2, [.null, .null, .int 0]))] sz) 1 _ 0 0 [(a, .inr (2, [.null, .null, .int 0]))] 0 [(0, .ref a)] []
  refine x_aload_n hC dNd_init_0 rfl 0 rfl ?_
  refine x_objInit hC k_c11 k_c1 k_c2 dNd_init_1 (by decide) (by decide) ?_
  refine x_aload_n hC dNd_init_4 rfl 0 rfl ?_
  refine x_sipush (v := 300) hC dNd_init_5 (by decide) ?_
  refine x_newi hC 300 0 rfl k_c3 (by decide) (by decide) (by decide) (by decide) (by decide) dNd_init_8 (fun q1 => ?_)
  refine x_putF (ty := .array .int) (ws' := ([(a, .inr (2, [.ref q1, .null, .int 0]))] ++ [(q1, .inl (cI, 300, .inl (fun _ => 0)))])) hC iNd 0 rfl rfl 0 (by decide) k_c12 rfl tNd tNd_ok nNd rfl hnm rfl (by decide +kernel) rfl rfl (Nat.le_of_ble_eq_true rfl) rfl dNd_init_10 ?_
  refine x_aload_n hC dNd_init_13 rfl 0 rfl ?_
  refine x_sipush (v := 300) hC dNd_init_14 (by decide) ?_
  refine x_newi hC 300 0 rfl k_c3 (by decide) (by decide) (by decide) (by decide) (by decide) dNd_init_17 (fun q2 => ?_)
  refine x_putF (ty := .array .int) (ws' := (([(a, .inr (2, [.ref q1, .ref q2, .int 0]))] ++ [(q1, .inl (cI, 300, .inl (fun _ => 0)))]) ++ [(q2, .inl (cI, 300, .inl (fun _ => 0)))])) hC iNd 0 rfl rfl 1 (by decide) k_c13 rfl tNd tNd_ok nNd rfl hnm rfl (by decide +kernel) rfl rfl (Nat.le_of_ble_eq_true rfl) rfl dNd_init_19 ?_
  refine x_aload_n hC dNd_init_22 rfl 0 rfl ?_
  refine x_iconst (v := 0) hC dNd_init_23 (by decide) ?_
  refine x_put (ty := .int) (ws' := (([(a, .inr (2, [.ref q1, .ref q2, .int 0]))] ++ [(q1, .inl (cI, 300, .inl (fun _ => 0)))]) ++ [(q2, .inl (cI, 300, .inl (fun _ => 0)))])) hC iNd 0 rfl rfl 2 (by decide) k_c14 rfl tNd tNd_ok nNd rfl (by decide +kernel) rfl rfl (Nat.le_of_ble_eq_true rfl) rfl dNd_init_24 ?_
  exact x_vretP (u := fun k => ([q1, q2] : List Nat).getD k 0) (wf := fun u => w0Nd cI cL cO a u) hC (by decide) (by decide) hr hlk dNd_init_27 trivial rfl
def w0Li (cI cL cO : ClassId) (a : Nat) (u : Nat → Nat) : va_W := ((([(a, .inr (3, [.ref (u 0), .ref (u 1), .ref (u 2)]))] ++ (((u 0), .inl (cO, 16, .inr (.inr (.inr (.inr (fun i => some ((u 0) + 1 + i))))))) :: x_grid (fun i => i) cL ((u 0) + 1) 16 16 (fun _ _ => 0))) ++ (((u 1), .inl (cO, 16, .inr (.inr (.inr (.inr (fun i => some ((u 1) + 1 + i))))))) :: x_grid (fun i => i) cL ((u 1) + 1) 16 16 (fun _ _ => 0))) ++ [((u 2), .inl (cL, 16, .inr (.inl (fun _ => 0))))])
abbrev rm_Limits_init : Room := { frames := 1, cells := 35, slots := 560, locals := 20 }
set_option maxHeartbeats 4000000 in
set_option maxRecDepth 100000 in
theorem c_Limits_init {l : Launch} {D : va_G} {cI cL cO : ClassId} {a : Nat} (sz : Nat) : Met l yLi_init (Cond.code yLi_init bLi_init 1 none :: TBL) rm_Limits_init (va_Pc [.ref a] (fun U => XP D vwCl (tysX cI cL cO) [(a, .inr (3, [.null, .null, .null]))] sz U ∧ XO U)) (va_Qv (fun _ => True) (fun (u : Nat → Nat) t => XB D vwCl (tysX cI cL cO) (va_A [(a, .inr (3, [.null, .null, .null]))] sz) (w0Li cI cL cO a u) t) (va_A [(a, .inr (3, [.null, .null, .null]))] sz)) rm_Limits_init.cells rm_Limits_init.slots (va_A [(a, .inr (3, [.null, .null, .null]))] sz) := by
  refine x_metP [.ref a] TBL_good (by decide) (Nat.le_of_ble_eq_true rfl) ?_
  intro p e s m args below meth c hC hr hlk hnm hO
  show XW p l e rm_Limits_init s m args below meth c D vwCl (va_A [(a, .inr (3, [.null, .null, .null]))] sz) 1 _ 0 0 [(a, .inr (3, [.null, .null, .null]))] 0 [(0, .ref a)] []
  refine x_aload_n hC dLi_init_0 rfl 0 rfl ?_
  refine x_objInit hC k_c15 k_c1 k_c2 dLi_init_1 (by decide) (by decide) ?_
  refine x_aload_n hC dLi_init_4 rfl 0 rfl ?_
  refine x_bipush (v := 16) hC dLi_init_5 (by decide) ?_
  refine x_bipush (v := 16) hC dLi_init_7 (by decide) ?_
  refine x_mna hC 2 1 rfl rfl k_c16 hO k_c8 16 16 (by decide) (by decide) (by decide) (by decide) (by decide) (by decide) (by decide) (by decide) dLi_init_9 (fun q1 => ?_)
  refine x_putF (ty := .array (.array .long)) (ws' := ([(a, .inr (3, [.ref q1, .null, .null]))] ++ ((q1, .inl (cO, 16, .inr (.inr (.inr (.inr (fun i => some (q1 + 1 + i))))))) :: x_grid (fun i => i) cL (q1 + 1) 16 16 (fun _ _ => 0)))) hC iLi 0 rfl rfl 0 (by decide) k_c17 rfl tLi tLi_ok nLi rfl hnm rfl (by decide +kernel) rfl rfl (Nat.le_of_ble_eq_true rfl) rfl dLi_init_13 ?_
  refine x_aload_n hC dLi_init_16 rfl 0 rfl ?_
  refine x_bipush (v := 16) hC dLi_init_17 (by decide) ?_
  refine x_bipush (v := 16) hC dLi_init_19 (by decide) ?_
  refine x_mna hC 2 1 rfl rfl k_c16 hO k_c8 16 16 (by decide) (by decide) (by decide) (by decide) (by decide) (by decide) (by decide) (by decide) dLi_init_21 (fun q2 => ?_)
  refine x_putF (ty := .array (.array .long)) (ws' := (([(a, .inr (3, [.ref q1, .ref q2, .null]))] ++ ((q1, .inl (cO, 16, .inr (.inr (.inr (.inr (fun i => some (q1 + 1 + i))))))) :: x_grid (fun i => i) cL (q1 + 1) 16 16 (fun _ _ => 0))) ++ ((q2, .inl (cO, 16, .inr (.inr (.inr (.inr (fun i => some (q2 + 1 + i))))))) :: x_grid (fun i => i) cL (q2 + 1) 16 16 (fun _ _ => 0)))) hC iLi 0 rfl rfl 1 (by decide) k_c18 rfl tLi tLi_ok nLi rfl hnm rfl (by decide +kernel) rfl rfl (Nat.le_of_ble_eq_true rfl) rfl dLi_init_25 ?_
  refine x_aload_n hC dLi_init_28 rfl 0 rfl ?_
  refine x_bipush (v := 16) hC dLi_init_29 (by decide) ?_
  refine x_newl hC 16 1 rfl k_c8 (by decide) (by decide) (by decide) (by decide) (by decide) dLi_init_31 (fun q3 => ?_)
  refine x_putF (ty := .array .long) (ws' := ((([(a, .inr (3, [.ref q1, .ref q2, .ref q3]))] ++ ((q1, .inl (cO, 16, .inr (.inr (.inr (.inr (fun i => some (q1 + 1 + i))))))) :: x_grid (fun i => i) cL (q1 + 1) 16 16 (fun _ _ => 0))) ++ ((q2, .inl (cO, 16, .inr (.inr (.inr (.inr (fun i => some (q2 + 1 + i))))))) :: x_grid (fun i => i) cL (q2 + 1) 16 16 (fun _ _ => 0))) ++ [(q3, .inl (cL, 16, .inr (.inl (fun _ => 0))))])) hC iLi 0 rfl rfl 2 (by decide) k_c19 rfl tLi tLi_ok nLi rfl hnm rfl (by decide +kernel) rfl rfl (Nat.le_of_ble_eq_true rfl) rfl dLi_init_33 ?_
  exact x_vretP (u := fun k => ([q1, q2, q3] : List Nat).getD k 0) (wf := fun u => w0Li cI cL cO a u) hC (by decide) (by decide) hr hlk dLi_init_36 trivial rfl
def w0Rg (cI cL cO : ClassId) (a : Nat) (u : Nat → Nat) : va_W := (([(a, .inr (4, [.ref (u 0), .ref (u 1), .int 0]))] ++ [((u 0), .inl (cI, 16, .inl (fun _ => 0)))]) ++ (((u 1), .inl (cO, 17, .inr (.inr (.inr (.inr (fun i => some ((u 1) + 1 + i))))))) :: x_grid (fun i => i) cL ((u 1) + 1) 17 16 (fun _ _ => 0)))
abbrev rm_Ring_init : Room := { frames := 1, cells := 19, slots := 305, locals := 20 }
set_option maxHeartbeats 4000000 in
set_option maxRecDepth 100000 in
theorem c_Ring_init {l : Launch} {D : va_G} {cI cL cO : ClassId} {a : Nat} (sz : Nat) : Met l yRg_init (Cond.code yRg_init bRg_init 1 none :: TBL) rm_Ring_init (va_Pc [.ref a] (fun U => XP D vwCl (tysX cI cL cO) [(a, .inr (4, [.null, .null, .int 0]))] sz U ∧ XO U)) (va_Qv (fun _ => True) (fun (u : Nat → Nat) t => XB D vwCl (tysX cI cL cO) (va_A [(a, .inr (4, [.null, .null, .int 0]))] sz) (w0Rg cI cL cO a u) t) (va_A [(a, .inr (4, [.null, .null, .int 0]))] sz)) rm_Ring_init.cells rm_Ring_init.slots (va_A [(a, .inr (4, [.null, .null, .int 0]))] sz) := by
  refine x_metP [.ref a] TBL_good (by decide) (Nat.le_of_ble_eq_true rfl) ?_
  intro p e s m args below meth c hC hr hlk hnm hO
  show XW p l e rm_Ring_init s m args below meth c D vwCl (va_A [(a, .inr (4, [.null, .null, .int 0]))] sz) 1 _ 0 0 [(a, .inr (4, [.null, .null, .int 0]))] 0 [(0, .ref a)] []
  refine x_aload_n hC dRg_init_0 rfl 0 rfl ?_
  refine x_objInit hC k_c20 k_c1 k_c2 dRg_init_1 (by decide) (by decide) ?_
  refine x_aload_n hC dRg_init_4 rfl 0 rfl ?_
  refine x_bipush (v := 16) hC dRg_init_5 (by decide) ?_
  refine x_newi hC 16 0 rfl k_c3 (by decide) (by decide) (by decide) (by decide) (by decide) dRg_init_7 (fun q1 => ?_)
  refine x_putF (ty := .array .int) (ws' := ([(a, .inr (4, [.ref q1, .null, .int 0]))] ++ [(q1, .inl (cI, 16, .inl (fun _ => 0)))])) hC iRg 0 rfl rfl 0 (by decide) k_c21 rfl tRg tRg_ok nRg rfl hnm rfl (by decide +kernel) rfl rfl (Nat.le_of_ble_eq_true rfl) rfl dRg_init_9 ?_
  refine x_aload_n hC dRg_init_12 rfl 0 rfl ?_
  refine x_bipush (v := 17) hC dRg_init_13 (by decide) ?_
  refine x_bipush (v := 16) hC dRg_init_15 (by decide) ?_
  refine x_mna hC 2 1 rfl rfl k_c22 hO k_c8 17 16 (by decide) (by decide) (by decide) (by decide) (by decide) (by decide) (by decide) (by decide) dRg_init_17 (fun q2 => ?_)
  refine x_putF (ty := .array (.array .long)) (ws' := (([(a, .inr (4, [.ref q1, .ref q2, .int 0]))] ++ [(q1, .inl (cI, 16, .inl (fun _ => 0)))]) ++ ((q2, .inl (cO, 17, .inr (.inr (.inr (.inr (fun i => some (q2 + 1 + i))))))) :: x_grid (fun i => i) cL (q2 + 1) 17 16 (fun _ _ => 0)))) hC iRg 0 rfl rfl 1 (by decide) k_c23 rfl tRg tRg_ok nRg rfl hnm rfl (by decide +kernel) rfl rfl (Nat.le_of_ble_eq_true rfl) rfl dRg_init_21 ?_
  refine x_aload_n hC dRg_init_24 rfl 0 rfl ?_
  refine x_iconst (v := 0) hC dRg_init_25 (by decide) ?_
  refine x_put (ty := .int) (ws' := (([(a, .inr (4, [.ref q1, .ref q2, .int 0]))] ++ [(q1, .inl (cI, 16, .inl (fun _ => 0)))]) ++ ((q2, .inl (cO, 17, .inr (.inr (.inr (.inr (fun i => some (q2 + 1 + i))))))) :: x_grid (fun i => i) cL (q2 + 1) 17 16 (fun _ _ => 0)))) hC iRg 0 rfl rfl 2 (by decide) k_c24 rfl tRg tRg_ok nRg rfl (by decide +kernel) rfl rfl (Nat.le_of_ble_eq_true rfl) rfl dRg_init_26 ?_
  exact x_vretP (u := fun k => ([q1, q2] : List Nat).getD k 0) (wf := fun u => w0Rg cI cL cO a u) hC (by decide) (by decide) hr hlk dRg_init_29 trivial rfl
def w0Tl (cI cL cO : ClassId) (a : Nat) (u : Nat → Nat) : va_W := (([(a, .inr (5, [.ref (u 0), .ref (u 1), .int 0]))] ++ [((u 0), .inl (cL, 301, .inr (.inl (fun _ => 0))))]) ++ [((u 1), .inl (cI, 300, .inl (fun _ => 0)))])
abbrev rm_Timeline_init : Room := { frames := 1, cells := 2, slots := 601, locals := 20 }
set_option maxHeartbeats 4000000 in
set_option maxRecDepth 100000 in
theorem c_Timeline_init {l : Launch} {D : va_G} {cI cL cO : ClassId} {a : Nat} (sz : Nat) : Met l yTl_init (Cond.code yTl_init bTl_init 1 none :: TBL) rm_Timeline_init (va_Pc [.ref a] (fun U => XP D vwCl (tysX cI cL cO) [(a, .inr (5, [.null, .null, .int 0]))] sz U ∧ XO U)) (va_Qv (fun _ => True) (fun (u : Nat → Nat) t => XB D vwCl (tysX cI cL cO) (va_A [(a, .inr (5, [.null, .null, .int 0]))] sz) (w0Tl cI cL cO a u) t) (va_A [(a, .inr (5, [.null, .null, .int 0]))] sz)) rm_Timeline_init.cells rm_Timeline_init.slots (va_A [(a, .inr (5, [.null, .null, .int 0]))] sz) := by
  refine x_metP [.ref a] TBL_good (by decide) (Nat.le_of_ble_eq_true rfl) ?_
  intro p e s m args below meth c hC hr hlk hnm hO
  show XW p l e rm_Timeline_init s m args below meth c D vwCl (va_A [(a, .inr (5, [.null, .null, .int 0]))] sz) 1 _ 0 0 [(a, .inr (5, [.null, .null, .int 0]))] 0 [(0, .ref a)] []
  refine x_aload_n hC dTl_init_0 rfl 0 rfl ?_
  refine x_objInit hC k_c25 k_c1 k_c2 dTl_init_1 (by decide) (by decide) ?_
  refine x_aload_n hC dTl_init_4 rfl 0 rfl ?_
  refine x_sipush (v := 301) hC dTl_init_5 (by decide) ?_
  refine x_newl hC 301 1 rfl k_c8 (by decide) (by decide) (by decide) (by decide) (by decide) dTl_init_8 (fun q1 => ?_)
  refine x_putF (ty := .array .long) (ws' := ([(a, .inr (5, [.ref q1, .null, .int 0]))] ++ [(q1, .inl (cL, 301, .inr (.inl (fun _ => 0))))])) hC iTl 0 rfl rfl 0 (by decide) k_c26 rfl tTl tTl_ok nTl rfl hnm rfl (by decide +kernel) rfl rfl (Nat.le_of_ble_eq_true rfl) rfl dTl_init_10 ?_
  refine x_aload_n hC dTl_init_13 rfl 0 rfl ?_
  refine x_sipush (v := 300) hC dTl_init_14 (by decide) ?_
  refine x_newi hC 300 0 rfl k_c3 (by decide) (by decide) (by decide) (by decide) (by decide) dTl_init_17 (fun q2 => ?_)
  refine x_putF (ty := .array .int) (ws' := (([(a, .inr (5, [.ref q1, .ref q2, .int 0]))] ++ [(q1, .inl (cL, 301, .inr (.inl (fun _ => 0))))]) ++ [(q2, .inl (cI, 300, .inl (fun _ => 0)))])) hC iTl 0 rfl rfl 1 (by decide) k_c27 rfl tTl tTl_ok nTl rfl hnm rfl (by decide +kernel) rfl rfl (Nat.le_of_ble_eq_true rfl) rfl dTl_init_19 ?_
  refine x_aload_n hC dTl_init_22 rfl 0 rfl ?_
  refine x_iconst (v := 0) hC dTl_init_23 (by decide) ?_
  refine x_put (ty := .int) (ws' := (([(a, .inr (5, [.ref q1, .ref q2, .int 0]))] ++ [(q1, .inl (cL, 301, .inr (.inl (fun _ => 0))))]) ++ [(q2, .inl (cI, 300, .inl (fun _ => 0)))])) hC iTl 0 rfl rfl 2 (by decide) k_c28 rfl tTl tTl_ok nTl rfl (by decide +kernel) rfl rfl (Nat.le_of_ble_eq_true rfl) rfl dTl_init_24 ?_
  exact x_vretP (u := fun k => ([q1, q2] : List Nat).getD k 0) (wf := fun u => w0Tl cI cL cO a u) hC (by decide) (by decide) hr hlk dTl_init_27 trivial rfl
end
section
abbrev rm_M_init : Room := { frames := 1, cells := 12, slots := 7001, locals := 20 }
set_option maxHeartbeats 4000000 in
set_option maxRecDepth 100000 in
theorem c_M_init {l : Launch} {D : va_G} {cI cL cO : ClassId} {a : Nat} (sz : Nat) : Met l yM_init (Cond.code yM_init bM_init 1 none :: TBL) rm_M_init (va_Pc [.ref a] (fun U => XP D vwCl (tysX cI cL cO) [(a, .inr (6, [.int 0, .int 0, .int 0, .null, .null, .null, .null, .null, .int 0, .null, .null, .int 0, .int 0, .null, .null, .null, .null, .null]))] sz U ∧ XO U)) (va_Qv (fun u => u 0 = a) (fun (u : Nat → Nat) t => XB D vwCl (tysX cI cL cO) (va_A [(a, .inr (6, [.int 0, .int 0, .int 0, .null, .null, .null, .null, .null, .int 0, .null, .null, .int 0, .int 0, .null, .null, .null, .null, .null]))] sz) (wM u cI cL cO 0 0 0 (fun _ => 0) (fun _ => 0) (fun _ => 0) (fun _ => 0) (fun _ => 0) 0 (fun _ => 0) (fun _ => 0) 0 0 (fun _ => 0) (fun _ => 0) (fun _ => 0) (fun _ => 0) (fun _ => 0)) t) (va_A [(a, .inr (6, [.int 0, .int 0, .int 0, .null, .null, .null, .null, .null, .int 0, .null, .null, .int 0, .int 0, .null, .null, .null, .null, .null]))] sz)) rm_M_init.cells rm_M_init.slots (va_A [(a, .inr (6, [.int 0, .int 0, .int 0, .null, .null, .null, .null, .null, .int 0, .null, .null, .int 0, .int 0, .null, .null, .null, .null, .null]))] sz) := by
  refine x_metP [.ref a] TBL_good (by decide) (Nat.le_of_ble_eq_true rfl) ?_
  intro p e s m args below meth c hC hr hlk hnm hO
  show XW p l e rm_M_init s m args below meth c D vwCl (va_A [(a, .inr (6, [.int 0, .int 0, .int 0, .null, .null, .null, .null, .null, .int 0, .null, .null, .int 0, .int 0, .null, .null, .null, .null, .null]))] sz) 1 _ 0 0 [(a, .inr (6, [.int 0, .int 0, .int 0, .null, .null, .null, .null, .null, .int 0, .null, .null, .int 0, .int 0, .null, .null, .null, .null, .null]))] 0 [(0, .ref a)] []
  refine x_aload_n hC dM_init_0 rfl 0 rfl ?_
  refine x_objInit hC k_c29 k_c1 k_c2 dM_init_1 (by decide) (by decide) ?_
  refine x_aload_n hC dM_init_4 rfl 0 rfl ?_
  refine x_sipush (v := 301) hC dM_init_5 (by decide) ?_
  refine x_newi hC 301 0 rfl k_c3 (by decide) (by decide) (by decide) (by decide) (by decide) dM_init_8 (fun q1 => ?_)
  refine x_putF (ty := .array .int) (ws' := ([(a, .inr (6, [.int 0, .int 0, .int 0, .ref q1, .null, .null, .null, .null, .int 0, .null, .null, .int 0, .int 0, .null, .null, .null, .null, .null]))] ++ [(q1, .inl (cI, 301, .inl (fun _ => 0)))])) hC iM 0 rfl rfl 3 (by decide) k_c30 rfl tM tM_ok nM rfl hnm rfl (by decide +kernel) rfl rfl (Nat.le_of_ble_eq_true rfl) rfl dM_init_10 ?_
  refine x_aload_n hC dM_init_13 rfl 0 rfl ?_
  refine x_sipush (v := 301) hC dM_init_14 (by decide) ?_
  refine x_newi hC 301 0 rfl k_c3 (by decide) (by decide) (by decide) (by decide) (by decide) dM_init_17 (fun q2 => ?_)
  refine x_putF (ty := .array .int) (ws' := (([(a, .inr (6, [.int 0, .int 0, .int 0, .ref q1, .ref q2, .null, .null, .null, .int 0, .null, .null, .int 0, .int 0, .null, .null, .null, .null, .null]))] ++ [(q1, .inl (cI, 301, .inl (fun _ => 0)))]) ++ [(q2, .inl (cI, 301, .inl (fun _ => 0)))])) hC iM 0 rfl rfl 4 (by decide) k_c31 rfl tM tM_ok nM rfl hnm rfl (by decide +kernel) rfl rfl (Nat.le_of_ble_eq_true rfl) rfl dM_init_19 ?_
  refine x_aload_n hC dM_init_22 rfl 0 rfl ?_
  refine x_sipush (v := 301) hC dM_init_23 (by decide) ?_
  refine x_newi hC 301 0 rfl k_c3 (by decide) (by decide) (by decide) (by decide) (by decide) dM_init_26 (fun q3 => ?_)
  refine x_putF (ty := .array .int) (ws' := ((([(a, .inr (6, [.int 0, .int 0, .int 0, .ref q1, .ref q2, .ref q3, .null, .null, .int 0, .null, .null, .int 0, .int 0, .null, .null, .null, .null, .null]))] ++ [(q1, .inl (cI, 301, .inl (fun _ => 0)))]) ++ [(q2, .inl (cI, 301, .inl (fun _ => 0)))]) ++ [(q3, .inl (cI, 301, .inl (fun _ => 0)))])) hC iM 0 rfl rfl 5 (by decide) k_c32 rfl tM tM_ok nM rfl hnm rfl (by decide +kernel) rfl rfl (Nat.le_of_ble_eq_true rfl) rfl dM_init_28 ?_
  refine x_aload_n hC dM_init_31 rfl 0 rfl ?_
  refine x_sipush (v := 301) hC dM_init_32 (by decide) ?_
  refine x_newi hC 301 0 rfl k_c3 (by decide) (by decide) (by decide) (by decide) (by decide) dM_init_35 (fun q4 => ?_)
  refine x_putF (ty := .array .int) (ws' := (((([(a, .inr (6, [.int 0, .int 0, .int 0, .ref q1, .ref q2, .ref q3, .ref q4, .null, .int 0, .null, .null, .int 0, .int 0, .null, .null, .null, .null, .null]))] ++ [(q1, .inl (cI, 301, .inl (fun _ => 0)))]) ++ [(q2, .inl (cI, 301, .inl (fun _ => 0)))]) ++ [(q3, .inl (cI, 301, .inl (fun _ => 0)))]) ++ [(q4, .inl (cI, 301, .inl (fun _ => 0)))])) hC iM 0 rfl rfl 6 (by decide) k_c33 rfl tM tM_ok nM rfl hnm rfl (by decide +kernel) rfl rfl (Nat.le_of_ble_eq_true rfl) rfl dM_init_37 ?_
  refine x_aload_n hC dM_init_40 rfl 0 rfl ?_
  refine x_sipush (v := 301) hC dM_init_41 (by decide) ?_
  refine x_newl hC 301 1 rfl k_c8 (by decide) (by decide) (by decide) (by decide) (by decide) dM_init_44 (fun q5 => ?_)
  refine x_putF (ty := .array .long) (ws' := ((((([(a, .inr (6, [.int 0, .int 0, .int 0, .ref q1, .ref q2, .ref q3, .ref q4, .ref q5, .int 0, .null, .null, .int 0, .int 0, .null, .null, .null, .null, .null]))] ++ [(q1, .inl (cI, 301, .inl (fun _ => 0)))]) ++ [(q2, .inl (cI, 301, .inl (fun _ => 0)))]) ++ [(q3, .inl (cI, 301, .inl (fun _ => 0)))]) ++ [(q4, .inl (cI, 301, .inl (fun _ => 0)))]) ++ [(q5, .inl (cL, 301, .inr (.inl (fun _ => 0))))])) hC iM 0 rfl rfl 7 (by decide) k_c34 rfl tM tM_ok nM rfl hnm rfl (by decide +kernel) rfl rfl (Nat.le_of_ble_eq_true rfl) rfl dM_init_46 ?_
  refine x_aload_n hC dM_init_49 rfl 0 rfl ?_
  refine x_sipush (v := 300) hC dM_init_50 (by decide) ?_
  refine x_newi hC 300 0 rfl k_c3 (by decide) (by decide) (by decide) (by decide) (by decide) dM_init_53 (fun q6 => ?_)
  refine x_putF (ty := .array .int) (ws' := (((((([(a, .inr (6, [.int 0, .int 0, .int 0, .ref q1, .ref q2, .ref q3, .ref q4, .ref q5, .int 0, .ref q6, .null, .int 0, .int 0, .null, .null, .null, .null, .null]))] ++ [(q1, .inl (cI, 301, .inl (fun _ => 0)))]) ++ [(q2, .inl (cI, 301, .inl (fun _ => 0)))]) ++ [(q3, .inl (cI, 301, .inl (fun _ => 0)))]) ++ [(q4, .inl (cI, 301, .inl (fun _ => 0)))]) ++ [(q5, .inl (cL, 301, .inr (.inl (fun _ => 0))))]) ++ [(q6, .inl (cI, 300, .inl (fun _ => 0)))])) hC iM 0 rfl rfl 9 (by decide) k_c35 rfl tM tM_ok nM rfl hnm rfl (by decide +kernel) rfl rfl (Nat.le_of_ble_eq_true rfl) rfl dM_init_55 ?_
  refine x_aload_n hC dM_init_58 rfl 0 rfl ?_
  refine x_sipush (v := 300) hC dM_init_59 (by decide) ?_
  refine x_newi hC 300 0 rfl k_c3 (by decide) (by decide) (by decide) (by decide) (by decide) dM_init_62 (fun q7 => ?_)
  refine x_putF (ty := .array .int) (ws' := ((((((([(a, .inr (6, [.int 0, .int 0, .int 0, .ref q1, .ref q2, .ref q3, .ref q4, .ref q5, .int 0, .ref q6, .ref q7, .int 0, .int 0, .null, .null, .null, .null, .null]))] ++ [(q1, .inl (cI, 301, .inl (fun _ => 0)))]) ++ [(q2, .inl (cI, 301, .inl (fun _ => 0)))]) ++ [(q3, .inl (cI, 301, .inl (fun _ => 0)))]) ++ [(q4, .inl (cI, 301, .inl (fun _ => 0)))]) ++ [(q5, .inl (cL, 301, .inr (.inl (fun _ => 0))))]) ++ [(q6, .inl (cI, 300, .inl (fun _ => 0)))]) ++ [(q7, .inl (cI, 300, .inl (fun _ => 0)))])) hC iM 0 rfl rfl 10 (by decide) k_c36 rfl tM tM_ok nM rfl hnm rfl (by decide +kernel) rfl rfl (Nat.le_of_ble_eq_true rfl) rfl dM_init_64 ?_
  refine x_aload_n hC dM_init_67 rfl 0 rfl ?_
  refine x_bipush (v := 16) hC dM_init_68 (by decide) ?_
  refine x_newi hC 16 0 rfl k_c3 (by decide) (by decide) (by decide) (by decide) (by decide) dM_init_70 (fun q8 => ?_)
  refine x_putF (ty := .array .int) (ws' := (((((((([(a, .inr (6, [.int 0, .int 0, .int 0, .ref q1, .ref q2, .ref q3, .ref q4, .ref q5, .int 0, .ref q6, .ref q7, .int 0, .int 0, .ref q8, .null, .null, .null, .null]))] ++ [(q1, .inl (cI, 301, .inl (fun _ => 0)))]) ++ [(q2, .inl (cI, 301, .inl (fun _ => 0)))]) ++ [(q3, .inl (cI, 301, .inl (fun _ => 0)))]) ++ [(q4, .inl (cI, 301, .inl (fun _ => 0)))]) ++ [(q5, .inl (cL, 301, .inr (.inl (fun _ => 0))))]) ++ [(q6, .inl (cI, 300, .inl (fun _ => 0)))]) ++ [(q7, .inl (cI, 300, .inl (fun _ => 0)))]) ++ [(q8, .inl (cI, 16, .inl (fun _ => 0)))])) hC iM 0 rfl rfl 13 (by decide) k_c37 rfl tM tM_ok nM rfl hnm rfl (by decide +kernel) rfl rfl (Nat.le_of_ble_eq_true rfl) rfl dM_init_72 ?_
  refine x_aload_n hC dM_init_75 rfl 0 rfl ?_
  refine x_sipush (v := 256) hC dM_init_76 (by decide) ?_
  refine x_newl hC 256 1 rfl k_c8 (by decide) (by decide) (by decide) (by decide) (by decide) dM_init_79 (fun q9 => ?_)
  refine x_putF (ty := .array .long) (ws' := ((((((((([(a, .inr (6, [.int 0, .int 0, .int 0, .ref q1, .ref q2, .ref q3, .ref q4, .ref q5, .int 0, .ref q6, .ref q7, .int 0, .int 0, .ref q8, .ref q9, .null, .null, .null]))] ++ [(q1, .inl (cI, 301, .inl (fun _ => 0)))]) ++ [(q2, .inl (cI, 301, .inl (fun _ => 0)))]) ++ [(q3, .inl (cI, 301, .inl (fun _ => 0)))]) ++ [(q4, .inl (cI, 301, .inl (fun _ => 0)))]) ++ [(q5, .inl (cL, 301, .inr (.inl (fun _ => 0))))]) ++ [(q6, .inl (cI, 300, .inl (fun _ => 0)))]) ++ [(q7, .inl (cI, 300, .inl (fun _ => 0)))]) ++ [(q8, .inl (cI, 16, .inl (fun _ => 0)))]) ++ [(q9, .inl (cL, 256, .inr (.inl (fun _ => 0))))])) hC iM 0 rfl rfl 14 (by decide) k_c38 rfl tM tM_ok nM rfl hnm rfl (by decide +kernel) rfl rfl (Nat.le_of_ble_eq_true rfl) rfl dM_init_81 ?_
  refine x_aload_n hC dM_init_84 rfl 0 rfl ?_
  refine x_sipush (v := 256) hC dM_init_85 (by decide) ?_
  refine x_newl hC 256 1 rfl k_c8 (by decide) (by decide) (by decide) (by decide) (by decide) dM_init_88 (fun q10 => ?_)
  refine x_putF (ty := .array .long) (ws' := (((((((((([(a, .inr (6, [.int 0, .int 0, .int 0, .ref q1, .ref q2, .ref q3, .ref q4, .ref q5, .int 0, .ref q6, .ref q7, .int 0, .int 0, .ref q8, .ref q9, .ref q10, .null, .null]))] ++ [(q1, .inl (cI, 301, .inl (fun _ => 0)))]) ++ [(q2, .inl (cI, 301, .inl (fun _ => 0)))]) ++ [(q3, .inl (cI, 301, .inl (fun _ => 0)))]) ++ [(q4, .inl (cI, 301, .inl (fun _ => 0)))]) ++ [(q5, .inl (cL, 301, .inr (.inl (fun _ => 0))))]) ++ [(q6, .inl (cI, 300, .inl (fun _ => 0)))]) ++ [(q7, .inl (cI, 300, .inl (fun _ => 0)))]) ++ [(q8, .inl (cI, 16, .inl (fun _ => 0)))]) ++ [(q9, .inl (cL, 256, .inr (.inl (fun _ => 0))))]) ++ [(q10, .inl (cL, 256, .inr (.inl (fun _ => 0))))])) hC iM 0 rfl rfl 15 (by decide) k_c39 rfl tM tM_ok nM rfl hnm rfl (by decide +kernel) rfl rfl (Nat.le_of_ble_eq_true rfl) rfl dM_init_90 ?_
  refine x_aload_n hC dM_init_93 rfl 0 rfl ?_
  refine x_sipush (v := 4352) hC dM_init_94 (by decide) ?_
  refine x_newl hC 4352 1 rfl k_c8 (by decide) (by decide) (by decide) (by decide) (by decide) dM_init_97 (fun q11 => ?_)
  refine x_putF (ty := .array .long) (ws' := ((((((((((([(a, .inr (6, [.int 0, .int 0, .int 0, .ref q1, .ref q2, .ref q3, .ref q4, .ref q5, .int 0, .ref q6, .ref q7, .int 0, .int 0, .ref q8, .ref q9, .ref q10, .ref q11, .null]))] ++ [(q1, .inl (cI, 301, .inl (fun _ => 0)))]) ++ [(q2, .inl (cI, 301, .inl (fun _ => 0)))]) ++ [(q3, .inl (cI, 301, .inl (fun _ => 0)))]) ++ [(q4, .inl (cI, 301, .inl (fun _ => 0)))]) ++ [(q5, .inl (cL, 301, .inr (.inl (fun _ => 0))))]) ++ [(q6, .inl (cI, 300, .inl (fun _ => 0)))]) ++ [(q7, .inl (cI, 300, .inl (fun _ => 0)))]) ++ [(q8, .inl (cI, 16, .inl (fun _ => 0)))]) ++ [(q9, .inl (cL, 256, .inr (.inl (fun _ => 0))))]) ++ [(q10, .inl (cL, 256, .inr (.inl (fun _ => 0))))]) ++ [(q11, .inl (cL, 4352, .inr (.inl (fun _ => 0))))])) hC iM 0 rfl rfl 16 (by decide) k_c40 rfl tM tM_ok nM rfl hnm rfl (by decide +kernel) rfl rfl (Nat.le_of_ble_eq_true rfl) rfl dM_init_99 ?_
  refine x_aload_n hC dM_init_102 rfl 0 rfl ?_
  refine x_bipush (v := 16) hC dM_init_103 (by decide) ?_
  refine x_newl hC 16 1 rfl k_c8 (by decide) (by decide) (by decide) (by decide) (by decide) dM_init_105 (fun q12 => ?_)
  refine x_putF (ty := .array .long) (ws' := (((((((((((([(a, .inr (6, [.int 0, .int 0, .int 0, .ref q1, .ref q2, .ref q3, .ref q4, .ref q5, .int 0, .ref q6, .ref q7, .int 0, .int 0, .ref q8, .ref q9, .ref q10, .ref q11, .ref q12]))] ++ [(q1, .inl (cI, 301, .inl (fun _ => 0)))]) ++ [(q2, .inl (cI, 301, .inl (fun _ => 0)))]) ++ [(q3, .inl (cI, 301, .inl (fun _ => 0)))]) ++ [(q4, .inl (cI, 301, .inl (fun _ => 0)))]) ++ [(q5, .inl (cL, 301, .inr (.inl (fun _ => 0))))]) ++ [(q6, .inl (cI, 300, .inl (fun _ => 0)))]) ++ [(q7, .inl (cI, 300, .inl (fun _ => 0)))]) ++ [(q8, .inl (cI, 16, .inl (fun _ => 0)))]) ++ [(q9, .inl (cL, 256, .inr (.inl (fun _ => 0))))]) ++ [(q10, .inl (cL, 256, .inr (.inl (fun _ => 0))))]) ++ [(q11, .inl (cL, 4352, .inr (.inl (fun _ => 0))))]) ++ [(q12, .inl (cL, 16, .inr (.inl (fun _ => 0))))])) hC iM 0 rfl rfl 17 (by decide) k_c41 rfl tM tM_ok nM rfl hnm rfl (by decide +kernel) rfl rfl (Nat.le_of_ble_eq_true rfl) rfl dM_init_107 ?_
  refine x_aload_n hC dM_init_110 rfl 0 rfl ?_
  refine x_iconst (v := 0) hC dM_init_111 (by decide) ?_
  refine x_put (ty := .int) (ws' := (((((((((((([(a, .inr (6, [.int 0, .int 0, .int 0, .ref q1, .ref q2, .ref q3, .ref q4, .ref q5, .int 0, .ref q6, .ref q7, .int 0, .int 0, .ref q8, .ref q9, .ref q10, .ref q11, .ref q12]))] ++ [(q1, .inl (cI, 301, .inl (fun _ => 0)))]) ++ [(q2, .inl (cI, 301, .inl (fun _ => 0)))]) ++ [(q3, .inl (cI, 301, .inl (fun _ => 0)))]) ++ [(q4, .inl (cI, 301, .inl (fun _ => 0)))]) ++ [(q5, .inl (cL, 301, .inr (.inl (fun _ => 0))))]) ++ [(q6, .inl (cI, 300, .inl (fun _ => 0)))]) ++ [(q7, .inl (cI, 300, .inl (fun _ => 0)))]) ++ [(q8, .inl (cI, 16, .inl (fun _ => 0)))]) ++ [(q9, .inl (cL, 256, .inr (.inl (fun _ => 0))))]) ++ [(q10, .inl (cL, 256, .inr (.inl (fun _ => 0))))]) ++ [(q11, .inl (cL, 4352, .inr (.inl (fun _ => 0))))]) ++ [(q12, .inl (cL, 16, .inr (.inl (fun _ => 0))))])) hC iM 0 rfl rfl 1 (by decide) k_c42 rfl tM tM_ok nM rfl (by decide +kernel) rfl rfl (Nat.le_of_ble_eq_true rfl) rfl dM_init_112 ?_
  exact x_vretP (u := fun k => ([a, q1, q2, q3, q4, q5, q6, q7, q8, q9, q10, q11, q12] : List Nat).getD k 0) (wf := fun u => wM u cI cL cO 0 0 0 (fun _ => 0) (fun _ => 0) (fun _ => 0) (fun _ => 0) (fun _ => 0) 0 (fun _ => 0) (fun _ => 0) 0 0 (fun _ => 0) (fun _ => 0) (fun _ => 0) (fun _ => 0) (fun _ => 0)) hC (by decide) (by decide) hr hlk dM_init_115 rfl rfl
end
section
def x_ad (a q1 q2 q3 q4 q5 : Nat) (u1 u2 u3 u4 u5 : Nat → Nat) : Nat → Nat := fun k => if k < 20 then ([a, q1, u1 0, u1 1, u1 2, u1 3, u1 4, q2, u2 0, u2 1, q3, u3 0, u3 1, u3 2, q4, u4 0, u4 1, q5, u5 0, u5 1] : List Nat).getD k 0 else if k < 36 then u3 0 + 1 + (k - 20) else if k < 52 then u3 1 + 1 + (k - 36) else u4 1 + 1 + (k - 52)
theorem x_P_nil {D : va_G} {cl : List vw_C} {H : Heap} : va_P D cl [] H := fun _ _ h => by simp at h
theorem x_P_cons {D : va_G} {cl : List vw_C} {H : Heap} {q : Nat × va_E} {ws : va_W} (h : va_at D cl q H) (t : va_P D cl ws H) : va_P D cl (q :: ws) H := x_mem_P fun x hx => by
  rcases List.mem_cons.mp hx with e | e
  · rw [e]; exact h
  · exact x_P_mem t x e
theorem x_outer_at {D : va_G} {cl : List vw_C} {H : Heap} {a N : Nat} {cA : ClassId} {f g : Nat → Option Nat} (h : ∀ i, i < N → f i = g i) (k : va_at D cl (a, .inl (cA, N, .inr (.inr (.inr (.inr f))))) H) : va_at D cl (a, .inl (cA, N, .inr (.inr (.inr (.inr g))))) H := by
  have k : H[a]? = some (vp_cell cA (N, .inr (.inr (.inr (.inr f))))) := k
  show H[a]? = some (vp_cell cA (N, .inr (.inr (.inr (.inr g)))))
  rw [k, x_outerC h]
theorem x_grid_P {D : va_G} {cl : List vw_C} {H : Heap} {ad : Nat → Nat} {cL : ClassId} {base n k b2 : Nat} {M : Nat → Nat → Int64} (he : ∀ i, i < n → ad (base + i) = b2 + i) (h : va_P D cl (x_grid (fun i => i) cL b2 n k M) H) : va_P D cl (x_grid ad cL base n k M) H := x_mem_P fun q hq => by
  obtain ⟨i, hi, rfl⟩ := List.mem_map.mp hq
  have hi := List.mem_range.mp hi
  rw [he i hi]
  exact h i _ (x_grid_get hi)
theorem x_P_sub {D : va_G} {cl : List vw_C} {H : Heap} {ws w : va_W} (h : va_P D cl ws H) (hs : ∀ q ∈ w, q ∈ ws) : va_P D cl w H := x_mem_P fun q hq => x_P_mem h q (hs q hq)
theorem x_perm_D {A : Nat → Prop} {ws ws' : va_W} (hD : va_D A ws) (is : List Nat) (hn : va_nd is = true) (hs : is.map (fun i => (ws[i]?).map Prod.fst) = ws'.map (fun q => some q.1)) : va_D A ws' := by
  have key : ∀ (k : Nat) (q : Nat × va_E), ws'[k]? = some q → ∃ (i : Nat) (x : Nat × va_E), is[k]? = some i ∧ ws[i]? = some x ∧ x.1 = q.1 := by
    intro k q hk
    have h1 : (is.map (fun i => (ws[i]?).map Prod.fst))[k]? = some (some q.1) := by rw [hs, List.getElem?_map, hk]; rfl
    rw [List.getElem?_map] at h1
    obtain ⟨i, hi, h2⟩ := Option.map_eq_some_iff.mp h1
    obtain ⟨x, hx, h3⟩ := Option.map_eq_some_iff.mp h2
    exact ⟨i, x, hi, hx, h3⟩
  refine ⟨fun i j p q hi hj e => ?_, fun k q hk => ?_⟩
  · obtain ⟨i1, x1, a1, b1, c1⟩ := key i p hi
    obtain ⟨i2, x2, a2, b2, c2⟩ := key j q hj
    have := hD.1 i1 i2 x1 x2 b1 b2 (by rw [c1, c2]; exact e)
    subst this
    exact va_nd_inj is hn i j i1 a1 a2
  · obtain ⟨i, x, -, b, c⟩ := key k q hk
    rw [← c]
    exact hD.2 i x b
theorem x_ad_a {a q1 q2 q3 q4 q5 : Nat} {u1 u2 u3 u4 u5 : Nat → Nat} {i : Nat} (h : i < 16) : x_ad a q1 q2 q3 q4 q5 u1 u2 u3 u4 u5 (20 + i) = u3 0 + 1 + i := by
  show (if 20 + i < 20 then _ else _) = _
  rw [if_neg (by omega)]; rw [if_pos (by omega)]; omega
theorem x_ad_b {a q1 q2 q3 q4 q5 : Nat} {u1 u2 u3 u4 u5 : Nat → Nat} {i : Nat} (h : i < 16) : x_ad a q1 q2 q3 q4 q5 u1 u2 u3 u4 u5 (36 + i) = u3 1 + 1 + i := by
  show (if 36 + i < 20 then _ else _) = _
  rw [if_neg (by omega)]; rw [if_neg (by omega)]; rw [if_pos (by omega)]; omega
theorem x_ad_c {a q1 q2 q3 q4 q5 : Nat} {u1 u2 u3 u4 u5 : Nat → Nat} {i : Nat} (h : i < 17) : x_ad a q1 q2 q3 q4 q5 u1 u2 u3 u4 u5 (52 + i) = u4 1 + 1 + i := by
  show (if 52 + i < 20 then _ else _) = _
  rw [if_neg (by omega)]; rw [if_neg (by omega), if_neg (by omega)]; omega
set_option maxHeartbeats 4000000 in
set_option maxRecDepth 100000 in
theorem x_made_P {D : va_G} {cI cL cO : ClassId} {H : Heap} {a q1 q2 q3 q4 q5 : Nat} {u1 u2 u3 u4 u5 : Nat → Nat} (h : va_P D vwCl (((((([(a, .inr (0, [.ref q1, .ref q2, .ref q3, .ref q4, .ref q5, .int 0, .int 0]))] ++ w0Ev cI cL cO q1 u1) ++ w0Nd cI cL cO q2 u2) ++ w0Li cI cL cO q3 u3) ++ w0Rg cI cL cO q4 u4) ++ w0Tl cI cL cO q5 u5)) H) : va_P D vwCl (wX (x_ad a q1 q2 q3 q4 q5 u1 u2 u3 u4 u5) cI cL cO 0 0 (fun _ => 0) (fun _ => 0) (fun _ => 0) (fun _ => 0) (fun _ => 0) 0 (fun _ => 0) (fun _ => 0) 0 (fun _ _ => 0) (fun _ _ => 0) (fun _ => 0) (fun _ => 0) (fun _ _ => 0) 0 (fun _ => 0) (fun _ => 0) 0) H := by
  unfold wX
  refine va_P.app ?_ (va_P.app ?_ (va_P.app ?_ ?_))
  · refine x_P_cons (h 0 _ rfl) (x_P_cons (h 1 _ rfl) (x_P_cons (h 2 _ rfl) (x_P_cons (h 3 _ rfl) (x_P_cons (h 4 _ rfl) (x_P_cons (h 5 _ rfl) (x_P_cons (h 6 _ rfl) (x_P_cons (h 7 _ rfl) (x_P_cons (h 8 _ rfl) (x_P_cons (h 9 _ rfl) (x_P_cons (h 10 _ rfl) (x_P_cons (x_outer_at (g := fun i => some (x_ad a q1 q2 q3 q4 q5 u1 u2 u3 u4 u5 (20 + i))) (fun i hi => by show some _ = some _; rw [x_ad_a hi]) (h 11 _ rfl)) (x_P_cons (x_outer_at (g := fun i => some (x_ad a q1 q2 q3 q4 q5 u1 u2 u3 u4 u5 (36 + i))) (fun i hi => by show some _ = some _; rw [x_ad_b hi]) (h 28 _ rfl)) (x_P_cons (h 45 _ rfl) (x_P_cons (h 46 _ rfl) (x_P_cons (h 47 _ rfl) (x_P_cons (x_outer_at (g := fun i => some (x_ad a q1 q2 q3 q4 q5 u1 u2 u3 u4 u5 (52 + i))) (fun i hi => by show some _ = some _; rw [x_ad_c hi]) (h 48 _ rfl)) (x_P_cons (h 66 _ rfl) (x_P_cons (h 67 _ rfl) (x_P_cons (h 68 _ rfl) (x_P_nil))))))))))))))))))))
  · exact x_grid_P (b2 := u3 0 + 1) (fun i hi => by rw [x_ad_a hi]) (x_P_sub h (fun q hq => by simp [w0Li, hq]))
  · exact x_grid_P (b2 := u3 1 + 1) (fun i hi => by rw [x_ad_b hi]) (x_P_sub h (fun q hq => by simp [w0Li, hq]))
  · exact x_grid_P (b2 := u4 1 + 1) (fun i hi => by rw [x_ad_c hi]) (x_P_sub h (fun q hq => by simp [w0Rg, hq]))
set_option maxHeartbeats 4000000 in
set_option maxRecDepth 100000 in
theorem x_made_D {A : Nat → Prop} {cI cL cO : ClassId} {a q1 q2 q3 q4 q5 : Nat} {u1 u2 u3 u4 u5 : Nat → Nat} (h : va_D A (((((([(a, .inr (0, [.ref q1, .ref q2, .ref q3, .ref q4, .ref q5, .int 0, .int 0]))] ++ w0Ev cI cL cO q1 u1) ++ w0Nd cI cL cO q2 u2) ++ w0Li cI cL cO q3 u3) ++ w0Rg cI cL cO q4 u4) ++ w0Tl cI cL cO q5 u5))) : va_D A (wX (x_ad a q1 q2 q3 q4 q5 u1 u2 u3 u4 u5) cI cL cO 0 0 (fun _ => 0) (fun _ => 0) (fun _ => 0) (fun _ => 0) (fun _ => 0) 0 (fun _ => 0) (fun _ => 0) 0 (fun _ _ => 0) (fun _ _ => 0) (fun _ => 0) (fun _ => 0) (fun _ _ => 0) 0 (fun _ => 0) (fun _ => 0) 0) := x_perm_D h [0, 1, 2, 3, 4, 5, 6, 7, 8, 9, 10, 11, 28, 45, 46, 47, 48, 66, 67, 68, 12, 13, 14, 15, 16, 17, 18, 19, 20, 21, 22, 23, 24, 25, 26, 27, 29, 30, 31, 32, 33, 34, 35, 36, 37, 38, 39, 40, 41, 42, 43, 44, 49, 50, 51, 52, 53, 54, 55, 56, 57, 58, 59, 60, 61, 62, 63, 64, 65] (by decide) rfl
end
section
abbrev rm_X_init : Room := { frames := 2, cells := 68, slots := 3589, locals := 40 }
set_option maxHeartbeats 4000000 in
set_option maxRecDepth 100000 in
theorem c_X_init {l : Launch} {D : va_G} {cI cL cO : ClassId} {a : Nat} (sz : Nat) : Met l yX_init (Cond.code yX_init bX_init 1 none :: TBL) rm_X_init (va_Pc [.ref a] (fun U => XP D vwCl (tysX cI cL cO) [(a, .inr (0, [.null, .null, .null, .null, .null, .int 0, .int 0]))] sz U ∧ XO U)) (va_Qv (fun u => u 0 = a) (fun (u : Nat → Nat) t => XB D vwCl (tysX cI cL cO) (va_A [(a, .inr (0, [.null, .null, .null, .null, .null, .int 0, .int 0]))] sz) (wX u cI cL cO 0 0 (fun _ => 0) (fun _ => 0) (fun _ => 0) (fun _ => 0) (fun _ => 0) 0 (fun _ => 0) (fun _ => 0) 0 (fun _ _ => 0) (fun _ _ => 0) (fun _ => 0) (fun _ => 0) (fun _ _ => 0) 0 (fun _ => 0) (fun _ => 0) 0) t) (va_A [(a, .inr (0, [.null, .null, .null, .null, .null, .int 0, .int 0]))] sz)) rm_X_init.cells rm_X_init.slots (va_A [(a, .inr (0, [.null, .null, .null, .null, .null, .int 0, .int 0]))] sz) := by
  refine x_metP [.ref a] TBL_good (by decide) (Nat.le_of_ble_eq_true rfl) ?_
  intro p e s m args below meth c hC hr hlk hnm hO
  show XW p l e rm_X_init s m args below meth c D vwCl (va_A [(a, .inr (0, [.null, .null, .null, .null, .null, .int 0, .int 0]))] sz) 1 _ 0 0 [(a, .inr (0, [.null, .null, .null, .null, .null, .int 0, .int 0]))] 0 [(0, .ref a)] []
  refine x_aload_n hC dX_init_0 rfl 0 rfl ?_
  refine x_objInit hC k_c43 k_c1 k_c2 dX_init_1 (by decide) (by decide) ?_
  refine x_aload_n hC dX_init_4 rfl 0 rfl ?_
  refine x_new (fs := [.null, .null, .null, .null, .null, .int 0]) (ci := 1) hC iEv tEv tEv_ok k_c44 k_c45 k_c46 rfl (by decide) (by decide) (by decide) dX_init_5 (fun q1 => ?_)
  refine x_dup hC dX_init_8 rfl ?_
  refine x_callI (S := Nat → Nat) (wl := [(a, .inr (0, [.null, .null, .null, .null, .null, .int 0, .int 0]))]) (wr := []) (w1 := [(q1, .inr (1, [.null, .null, .null, .null, .null, .int 0]))]) (wf := fun u => w0Ev cI cL cO q1 u) (wf2 := fun u => [(a, .inr (0, [.null, .null, .null, .null, .null, .int 0, .int 0]))] ++ w0Ev cI cL cO q1 u) hC [] (by rfl) (fun u => by rw [List.append_nil]) (fun sz => c_Events_init (l := l) sz) (by decide) (by decide) k_c47 k_c48 k_c49 (by decide) 0 rfl (by decide +kernel) ⟨by decide, by decide⟩ (Nat.le_of_ble_eq_true rfl) hO rfl k_c50 rfl dX_init_9 (fun u1 hu1 => ?_)
  refine x_putF (ty := .object "EventOrder$Events") (ws' := ([(a, .inr (0, [.ref q1, .null, .null, .null, .null, .int 0, .int 0]))] ++ w0Ev cI cL cO q1 u1)) hC iX 0 rfl rfl 0 (by decide) k_c51 rfl tX tX_ok nX rfl hnm rfl (by decide +kernel) rfl rfl (Nat.le_of_ble_eq_true rfl) rfl dX_init_12 ?_
  refine x_aload_n hC dX_init_15 rfl 0 rfl ?_
  refine x_new (fs := [.null, .null, .int 0]) (ci := 2) hC iNd tNd tNd_ok k_c52 k_c53 k_c54 rfl (by decide) (by decide) (by decide) dX_init_16 (fun q2 => ?_)
  refine x_dup hC dX_init_19 rfl ?_
  refine x_callI (S := Nat → Nat) (wl := ([(a, .inr (0, [.ref q1, .null, .null, .null, .null, .int 0, .int 0]))] ++ w0Ev cI cL cO q1 u1)) (wr := []) (w1 := [(q2, .inr (2, [.null, .null, .int 0]))]) (wf := fun u => w0Nd cI cL cO q2 u) (wf2 := fun u => ([(a, .inr (0, [.ref q1, .null, .null, .null, .null, .int 0, .int 0]))] ++ w0Ev cI cL cO q1 u1) ++ w0Nd cI cL cO q2 u) hC [] (by rfl) (fun u => by rw [List.append_nil]) (fun sz => c_Needs_init (l := l) sz) (by decide) (by decide) k_c55 k_c56 k_c57 (by decide) 0 rfl (by decide +kernel) ⟨by decide, by decide⟩ (Nat.le_of_ble_eq_true rfl) hO rfl k_c58 rfl dX_init_20 (fun u2 hu2 => ?_)
  refine x_putF (ty := .object "EventOrder$Needs") (ws' := (([(a, .inr (0, [.ref q1, .ref q2, .null, .null, .null, .int 0, .int 0]))] ++ w0Ev cI cL cO q1 u1) ++ w0Nd cI cL cO q2 u2)) hC iX 0 rfl rfl 1 (by decide) k_c59 rfl tX tX_ok nX rfl hnm rfl (by decide +kernel) rfl rfl (Nat.le_of_ble_eq_true rfl) rfl dX_init_23 ?_
  refine x_aload_n hC dX_init_26 rfl 0 rfl ?_
  refine x_new (fs := [.null, .null, .null]) (ci := 3) hC iLi tLi tLi_ok k_c60 k_c61 k_c62 rfl (by decide) (by decide) (by decide) dX_init_27 (fun q3 => ?_)
  refine x_dup hC dX_init_30 rfl ?_
  refine x_callI (S := Nat → Nat) (wl := (([(a, .inr (0, [.ref q1, .ref q2, .null, .null, .null, .int 0, .int 0]))] ++ w0Ev cI cL cO q1 u1) ++ w0Nd cI cL cO q2 u2)) (wr := []) (w1 := [(q3, .inr (3, [.null, .null, .null]))]) (wf := fun u => w0Li cI cL cO q3 u) (wf2 := fun u => (([(a, .inr (0, [.ref q1, .ref q2, .null, .null, .null, .int 0, .int 0]))] ++ w0Ev cI cL cO q1 u1) ++ w0Nd cI cL cO q2 u2) ++ w0Li cI cL cO q3 u) hC [] (by rfl) (fun u => by rw [List.append_nil]) (fun sz => c_Limits_init (l := l) sz) (by decide) (by decide) k_c63 k_c64 k_c65 (by decide) 0 rfl (by decide +kernel) ⟨by decide, by decide⟩ (Nat.le_of_ble_eq_true rfl) hO rfl k_c66 rfl dX_init_31 (fun u3 hu3 => ?_)
  refine x_putF (ty := .object "EventOrder$Limits") (ws' := ((([(a, .inr (0, [.ref q1, .ref q2, .ref q3, .null, .null, .int 0, .int 0]))] ++ w0Ev cI cL cO q1 u1) ++ w0Nd cI cL cO q2 u2) ++ w0Li cI cL cO q3 u3)) hC iX 0 rfl rfl 2 (by decide) k_c67 rfl tX tX_ok nX rfl hnm rfl (by decide +kernel) rfl rfl (Nat.le_of_ble_eq_true rfl) rfl dX_init_34 ?_
  refine x_aload_n hC dX_init_37 rfl 0 rfl ?_
  refine x_new (fs := [.null, .null, .int 0]) (ci := 4) hC iRg tRg tRg_ok k_c68 k_c69 k_c70 rfl (by decide) (by decide) (by decide) dX_init_38 (fun q4 => ?_)
  refine x_dup hC dX_init_41 rfl ?_
  refine x_callI (S := Nat → Nat) (wl := ((([(a, .inr (0, [.ref q1, .ref q2, .ref q3, .null, .null, .int 0, .int 0]))] ++ w0Ev cI cL cO q1 u1) ++ w0Nd cI cL cO q2 u2) ++ w0Li cI cL cO q3 u3)) (wr := []) (w1 := [(q4, .inr (4, [.null, .null, .int 0]))]) (wf := fun u => w0Rg cI cL cO q4 u) (wf2 := fun u => ((([(a, .inr (0, [.ref q1, .ref q2, .ref q3, .null, .null, .int 0, .int 0]))] ++ w0Ev cI cL cO q1 u1) ++ w0Nd cI cL cO q2 u2) ++ w0Li cI cL cO q3 u3) ++ w0Rg cI cL cO q4 u) hC [] (by rfl) (fun u => by rw [List.append_nil]) (fun sz => c_Ring_init (l := l) sz) (by decide) (by decide) k_c71 k_c72 k_c73 (by decide) 0 rfl (by decide +kernel) ⟨by decide, by decide⟩ (Nat.le_of_ble_eq_true rfl) hO rfl k_c74 rfl dX_init_42 (fun u4 hu4 => ?_)
  refine x_putF (ty := .object "EventOrder$Ring") (ws' := (((([(a, .inr (0, [.ref q1, .ref q2, .ref q3, .ref q4, .null, .int 0, .int 0]))] ++ w0Ev cI cL cO q1 u1) ++ w0Nd cI cL cO q2 u2) ++ w0Li cI cL cO q3 u3) ++ w0Rg cI cL cO q4 u4)) hC iX 0 rfl rfl 3 (by decide) k_c75 rfl tX tX_ok nX rfl hnm rfl (by decide +kernel) rfl rfl (Nat.le_of_ble_eq_true rfl) rfl dX_init_45 ?_
  refine x_aload_n hC dX_init_48 rfl 0 rfl ?_
  refine x_new (fs := [.null, .null, .int 0]) (ci := 5) hC iTl tTl tTl_ok k_c76 k_c77 k_c78 rfl (by decide) (by decide) (by decide) dX_init_49 (fun q5 => ?_)
  refine x_dup hC dX_init_52 rfl ?_
  refine x_callI (S := Nat → Nat) (wl := (((([(a, .inr (0, [.ref q1, .ref q2, .ref q3, .ref q4, .null, .int 0, .int 0]))] ++ w0Ev cI cL cO q1 u1) ++ w0Nd cI cL cO q2 u2) ++ w0Li cI cL cO q3 u3) ++ w0Rg cI cL cO q4 u4)) (wr := []) (w1 := [(q5, .inr (5, [.null, .null, .int 0]))]) (wf := fun u => w0Tl cI cL cO q5 u) (wf2 := fun u => (((([(a, .inr (0, [.ref q1, .ref q2, .ref q3, .ref q4, .null, .int 0, .int 0]))] ++ w0Ev cI cL cO q1 u1) ++ w0Nd cI cL cO q2 u2) ++ w0Li cI cL cO q3 u3) ++ w0Rg cI cL cO q4 u4) ++ w0Tl cI cL cO q5 u) hC [] (by rfl) (fun u => by rw [List.append_nil]) (fun sz => c_Timeline_init (l := l) sz) (by decide) (by decide) k_c79 k_c80 k_c81 (by decide) 0 rfl (by decide +kernel) ⟨by decide, by decide⟩ (Nat.le_of_ble_eq_true rfl) hO rfl k_c82 rfl dX_init_53 (fun u5 hu5 => ?_)
  refine x_putF (ty := .object "EventOrder$Timeline") (ws' := ((((([(a, .inr (0, [.ref q1, .ref q2, .ref q3, .ref q4, .ref q5, .int 0, .int 0]))] ++ w0Ev cI cL cO q1 u1) ++ w0Nd cI cL cO q2 u2) ++ w0Li cI cL cO q3 u3) ++ w0Rg cI cL cO q4 u4) ++ w0Tl cI cL cO q5 u5)) hC iX 0 rfl rfl 4 (by decide) k_c83 rfl tX tX_ok nX rfl hnm rfl (by decide +kernel) rfl rfl (Nat.le_of_ble_eq_true rfl) rfl dX_init_56 ?_
  refine x_aload_n hC dX_init_59 rfl 0 rfl ?_
  refine x_iconst (v := 0) hC dX_init_60 (by decide) ?_
  refine x_put (ty := .int) (ws' := ((((([(a, .inr (0, [.ref q1, .ref q2, .ref q3, .ref q4, .ref q5, .int 0, .int 0]))] ++ w0Ev cI cL cO q1 u1) ++ w0Nd cI cL cO q2 u2) ++ w0Li cI cL cO q3 u3) ++ w0Rg cI cL cO q4 u4) ++ w0Tl cI cL cO q5 u5)) hC iX 0 rfl rfl 5 (by decide) k_c84 rfl tX tX_ok nX rfl (by decide +kernel) rfl rfl (Nat.le_of_ble_eq_true rfl) rfl dX_init_61 ?_
  refine x_aload_n hC dX_init_64 rfl 0 rfl ?_
  refine x_iconst (v := 0) hC dX_init_65 (by decide) ?_
  refine x_put (ty := .boolean) (ws' := ((((([(a, .inr (0, [.ref q1, .ref q2, .ref q3, .ref q4, .ref q5, .int 0, .int 0]))] ++ w0Ev cI cL cO q1 u1) ++ w0Nd cI cL cO q2 u2) ++ w0Li cI cL cO q3 u3) ++ w0Rg cI cL cO q4 u4) ++ w0Tl cI cL cO q5 u5)) hC iX 0 rfl rfl 6 (by decide) k_c85 rfl tX tX_ok nX rfl (by decide +kernel) rfl rfl (Nat.le_of_ble_eq_true rfl) rfl dX_init_66 ?_
  refine x_re (ws' := wX (x_ad a q1 q2 q3 q4 q5 u1 u2 u3 u4 u5) cI cL cO 0 0 (fun _ => 0) (fun _ => 0) (fun _ => 0) (fun _ => 0) (fun _ => 0) 0 (fun _ => 0) (fun _ => 0) 0 (fun _ _ => 0) (fun _ _ => 0) (fun _ => 0) (fun _ => 0) (fun _ _ => 0) 0 (fun _ => 0) (fun _ => 0) 0) (fun H => x_made_P) x_made_D ?_
  exact x_vretP (u := x_ad a q1 q2 q3 q4 q5 u1 u2 u3 u4 u5) (wf := fun u => wX u cI cL cO 0 0 (fun _ => 0) (fun _ => 0) (fun _ => 0) (fun _ => 0) (fun _ => 0) 0 (fun _ => 0) (fun _ => 0) 0 (fun _ _ => 0) (fun _ _ => 0) (fun _ => 0) (fun _ => 0) (fun _ _ => 0) 0 (fun _ => 0) (fun _ => 0) 0) hC (by decide) (by decide) hr hlk dX_init_69 rfl rfl
end
