section
-- ===== PART A: goes FIRST, ahead of the names: the tables' words, and 'selects' of the private methods out of them =====
/-- a private method of a class that the tables say can be made, by its rows of tables_1 -/
def lw_okq (q : MethodName × Nat) : Prop := (q.1.cls ≠ "java/lang/invoke/MethodHandle" ∧ q.1.cls ≠ "java/lang/invoke/VarHandle") ∧ Cond.instantiable q.1.cls q.2 ∈ tables_1 ∧ Cond.privateMethod q.1 ∈ tables_1 ∧ Cond.instanceMethod q.1 ∈ tables_1
theorem lw_p0 : lw_okq (⟨"EventOrder$Limits", "closesBelowZero", "(I)Z"⟩, 3) := ⟨⟨by decide +kernel, by decide +kernel⟩, List.mem_of_getElem? (i := 86) (by decide +kernel), List.mem_of_getElem? (i := 181) (by decide +kernel), List.mem_of_getElem? (i := 182) (by decide +kernel)⟩
theorem lw_p1 : lw_okq (⟨"EventOrder$Limits", "shortenThrough", "(II)V"⟩, 3) := ⟨⟨by decide +kernel, by decide +kernel⟩, List.mem_of_getElem? (i := 86) (by decide +kernel), List.mem_of_getElem? (i := 185) (by decide +kernel), List.mem_of_getElem? (i := 186) (by decide +kernel)⟩
theorem lw_p2 : lw_okq (⟨"EventOrder$Ring", "stepsBack", "(III[[J)I"⟩, 3) := ⟨⟨by decide +kernel, by decide +kernel⟩, List.mem_of_getElem? (i := 107) (by decide +kernel), List.mem_of_getElem? (i := 193) (by decide +kernel), List.mem_of_getElem? (i := 194) (by decide +kernel)⟩
theorem lw_p3 : lw_okq (⟨"EventOrder$Ring", "trace", "(II[[J)V"⟩, 3) := ⟨⟨by decide +kernel, by decide +kernel⟩, List.mem_of_getElem? (i := 107) (by decide +kernel), List.mem_of_getElem? (i := 202) (by decide +kernel), List.mem_of_getElem? (i := 203) (by decide +kernel)⟩
theorem lw_p4 : lw_okq (⟨"EventOrder$Timeline", "isLater", "(II[I)Z"⟩, 3) := ⟨⟨by decide +kernel, by decide +kernel⟩, List.mem_of_getElem? (i := 126) (by decide +kernel), List.mem_of_getElem? (i := 221) (by decide +kernel), List.mem_of_getElem? (i := 222) (by decide +kernel)⟩
theorem lw_p5 : lw_okq (⟨"java/lang/Throwable", "fillInStackTrace", "(I)Ljava/lang/Throwable;"⟩, 6) := ⟨⟨by decide +kernel, by decide +kernel⟩, List.mem_of_getElem? (i := 276) (by decide +kernel), List.mem_of_getElem? (i := 274) (by decide +kernel), List.mem_of_getElem? (i := 275) (by decide +kernel)⟩
theorem lw_p6 : lw_okq (⟨"EventOrder", "checkSource", "(I)V"⟩, 7) := ⟨⟨by decide +kernel, by decide +kernel⟩, List.mem_of_getElem? (i := 17) (by decide +kernel), List.mem_of_getElem? (i := 315) (by decide +kernel), List.mem_of_getElem? (i := 316) (by decide +kernel)⟩
theorem lw_p7 : lw_okq (⟨"EventOrder", "checkEvent", "(I)V"⟩, 7) := ⟨⟨by decide +kernel, by decide +kernel⟩, List.mem_of_getElem? (i := 17) (by decide +kernel), List.mem_of_getElem? (i := 385) (by decide +kernel), List.mem_of_getElem? (i := 386) (by decide +kernel)⟩
theorem lw_p8 : lw_okq (⟨"EventOrder", "checkSettled", "()V"⟩, 7) := ⟨⟨by decide +kernel, by decide +kernel⟩, List.mem_of_getElem? (i := 17) (by decide +kernel), List.mem_of_getElem? (i := 404) (by decide +kernel), List.mem_of_getElem? (i := 405) (by decide +kernel)⟩
theorem lw_p9 : lw_okq (⟨"EventOrderModel", "refused", "(ZZZ)Z"⟩, 18) := ⟨⟨by decide +kernel, by decide +kernel⟩, List.mem_of_getElem? (i := 484) (by decide +kernel), List.mem_of_getElem? (i := 553) (by decide +kernel), List.mem_of_getElem? (i := 554) (by decide +kernel)⟩
theorem lw_p10 : lw_okq (⟨"EventOrderModel", "isSource", "(I)Z"⟩, 18) := ⟨⟨by decide +kernel, by decide +kernel⟩, List.mem_of_getElem? (i := 484) (by decide +kernel), List.mem_of_getElem? (i := 561) (by decide +kernel), List.mem_of_getElem? (i := 562) (by decide +kernel)⟩
theorem lw_p11 : lw_okq (⟨"EventOrderModel", "find", "(IIIIJ)I"⟩, 18) := ⟨⟨by decide +kernel, by decide +kernel⟩, List.mem_of_getElem? (i := 484) (by decide +kernel), List.mem_of_getElem? (i := 572) (by decide +kernel), List.mem_of_getElem? (i := 573) (by decide +kernel)⟩
theorem lw_p12 : lw_okq (⟨"EventOrderModel", "isEvent", "(I)Z"⟩, 18) := ⟨⟨by decide +kernel, by decide +kernel⟩, List.mem_of_getElem? (i := 484) (by decide +kernel), List.mem_of_getElem? (i := 580) (by decide +kernel), List.mem_of_getElem? (i := 581) (by decide +kernel)⟩
theorem lw_p13 : lw_okq (⟨"EventOrderModel", "weigh", "()V"⟩, 18) := ⟨⟨by decide +kernel, by decide +kernel⟩, List.mem_of_getElem? (i := 484) (by decide +kernel), List.mem_of_getElem? (i := 592) (by decide +kernel), List.mem_of_getElem? (i := 593) (by decide +kernel)⟩
theorem lw_p14 : lw_okq (⟨"EventOrderModel", "step", "(I)V"⟩, 18) := ⟨⟨by decide +kernel, by decide +kernel⟩, List.mem_of_getElem? (i := 484) (by decide +kernel), List.mem_of_getElem? (i := 597) (by decide +kernel), List.mem_of_getElem? (i := 598) (by decide +kernel)⟩
theorem lw_p15 : lw_okq (⟨"EventOrderModel", "tellRing", "(II)V"⟩, 18) := ⟨⟨by decide +kernel, by decide +kernel⟩, List.mem_of_getElem? (i := 484) (by decide +kernel), List.mem_of_getElem? (i := 604) (by decide +kernel), List.mem_of_getElem? (i := 605) (by decide +kernel)⟩
def lw_privs_1 : List (MethodName × Nat) := [(⟨"EventOrder$Limits", "closesBelowZero", "(I)Z"⟩, 3), (⟨"EventOrder$Limits", "shortenThrough", "(II)V"⟩, 3), (⟨"EventOrder$Ring", "stepsBack", "(III[[J)I"⟩, 3), (⟨"EventOrder$Ring", "trace", "(II[[J)V"⟩, 3), (⟨"EventOrder$Timeline", "isLater", "(II[I)Z"⟩, 3), (⟨"java/lang/Throwable", "fillInStackTrace", "(I)Ljava/lang/Throwable;"⟩, 6), (⟨"EventOrder", "checkSource", "(I)V"⟩, 7), (⟨"EventOrder", "checkEvent", "(I)V"⟩, 7), (⟨"EventOrder", "checkSettled", "()V"⟩, 7), (⟨"EventOrderModel", "refused", "(ZZZ)Z"⟩, 18), (⟨"EventOrderModel", "isSource", "(I)Z"⟩, 18), (⟨"EventOrderModel", "find", "(IIIIJ)I"⟩, 18), (⟨"EventOrderModel", "isEvent", "(I)Z"⟩, 18), (⟨"EventOrderModel", "weigh", "()V"⟩, 18), (⟨"EventOrderModel", "step", "(I)V"⟩, 18), (⟨"EventOrderModel", "tellRing", "(II)V"⟩, 18)]
theorem lw_r1 : ∀ q ∈ lw_privs_1, lw_okq q := List.forall_mem_cons.mpr ⟨lw_p0, List.forall_mem_cons.mpr ⟨lw_p1, List.forall_mem_cons.mpr ⟨lw_p2, List.forall_mem_cons.mpr ⟨lw_p3, List.forall_mem_cons.mpr ⟨lw_p4, List.forall_mem_cons.mpr ⟨lw_p5, List.forall_mem_cons.mpr ⟨lw_p6, List.forall_mem_cons.mpr ⟨lw_p7, List.forall_mem_cons.mpr ⟨lw_p8, List.forall_mem_cons.mpr ⟨lw_p9, List.forall_mem_cons.mpr ⟨lw_p10, List.forall_mem_cons.mpr ⟨lw_p11, List.forall_mem_cons.mpr ⟨lw_p12, List.forall_mem_cons.mpr ⟨lw_p13, List.forall_mem_cons.mpr ⟨lw_p14, List.forall_mem_cons.mpr ⟨lw_p15, fun _ h => absurd h List.not_mem_nil⟩⟩⟩⟩⟩⟩⟩⟩⟩⟩⟩⟩⟩⟩⟩⟩
theorem lw_p16 : lw_okq (⟨"EventOrderModel", "isOn", "(JIIII)Z"⟩, 18) := ⟨⟨by decide +kernel, by decide +kernel⟩, List.mem_of_getElem? (i := 484) (by decide +kernel), List.mem_of_getElem? (i := 608) (by decide +kernel), List.mem_of_getElem? (i := 609) (by decide +kernel)⟩
theorem lw_p17 : lw_okq (⟨"EventOrderModel", "bind", "()V"⟩, 18) := ⟨⟨by decide +kernel, by decide +kernel⟩, List.mem_of_getElem? (i := 484) (by decide +kernel), List.mem_of_getElem? (i := 612) (by decide +kernel), List.mem_of_getElem? (i := 613) (by decide +kernel)⟩
theorem lw_p18 : lw_okq (⟨"EventOrderModel", "timeOf", "(I)J"⟩, 18) := ⟨⟨by decide +kernel, by decide +kernel⟩, List.mem_of_getElem? (i := 484) (by decide +kernel), List.mem_of_getElem? (i := 633) (by decide +kernel), List.mem_of_getElem? (i := 634) (by decide +kernel)⟩
theorem lw_p19 : lw_okq (⟨"EventOrderModel", "isBefore", "(II)Z"⟩, 18) := ⟨⟨by decide +kernel, by decide +kernel⟩, List.mem_of_getElem? (i := 484) (by decide +kernel), List.mem_of_getElem? (i := 641) (by decide +kernel), List.mem_of_getElem? (i := 642) (by decide +kernel)⟩
theorem lw_p20 : lw_okq (⟨"EventOrderModel", "isImplied", "(III)Z"⟩, 18) := ⟨⟨by decide +kernel, by decide +kernel⟩, List.mem_of_getElem? (i := 484) (by decide +kernel), List.mem_of_getElem? (i := 651) (by decide +kernel), List.mem_of_getElem? (i := 652) (by decide +kernel)⟩
theorem lw_p21 : lw_okq (⟨"EventOrderModel", "outOf", "(II)I"⟩, 18) := ⟨⟨by decide +kernel, by decide +kernel⟩, List.mem_of_getElem? (i := 484) (by decide +kernel), List.mem_of_getElem? (i := 655) (by decide +kernel), List.mem_of_getElem? (i := 656) (by decide +kernel)⟩
def lw_privs_2 : List (MethodName × Nat) := [(⟨"EventOrderModel", "isOn", "(JIIII)Z"⟩, 18), (⟨"EventOrderModel", "bind", "()V"⟩, 18), (⟨"EventOrderModel", "timeOf", "(I)J"⟩, 18), (⟨"EventOrderModel", "isBefore", "(II)Z"⟩, 18), (⟨"EventOrderModel", "isImplied", "(III)Z"⟩, 18), (⟨"EventOrderModel", "outOf", "(II)I"⟩, 18)]
theorem lw_r2 : ∀ q ∈ lw_privs_2, lw_okq q := List.forall_mem_cons.mpr ⟨lw_p16, List.forall_mem_cons.mpr ⟨lw_p17, List.forall_mem_cons.mpr ⟨lw_p18, List.forall_mem_cons.mpr ⟨lw_p19, List.forall_mem_cons.mpr ⟨lw_p20, List.forall_mem_cons.mpr ⟨lw_p21, fun _ h => absurd h List.not_mem_nil⟩⟩⟩⟩⟩⟩
def lw_privs : List (MethodName × Nat) := lw_privs_1 ++ (lw_privs_2)
def lw_tbl : List Cond := k2_sels lw_privs ++ tables_1
theorem lw_privs_ok : ∀ q ∈ lw_privs, lw_okq q := by
  show ∀ q ∈ lw_privs_1 ++ (lw_privs_2), lw_okq q
  exact List.forall_mem_append.mpr ⟨lw_r1, lw_r2⟩
/-- the words that outlive a call -/
def TBL : List Cond := lw_tbl.filter goodWord
theorem TBL_good : GoodIn TBL TBL := fun w h => ⟨h, good_of_word (List.mem_filter.mp h).2⟩
/-- the words that outlive a call by the wider law -/
def TBX : List Cond := lw_tbl.filter (fun w => w.onTables && w.keepsFace)
theorem TBX_in {w : Cond} (h : w ∈ lw_tbl) (g : (w.onTables && w.keepsFace) = true) : w ∈ TBX := List.mem_filter.mpr ⟨h, g⟩
theorem TBX_at {w : Cond} (h : w ∈ TBX) {s U : State} {a a' : Array Value} (hW : s.WarmedH U.vm) (hb : w.before a s = true) : w.before a' U = true := by
  have g := (List.mem_filter.mp h).2
  rw [Bool.and_eq_true] at g
  have h3 : w.before a (s.setVm U.vm) = true := Cond.before_shiftedFace (State.Shifted.of_warmed hW) w g.2 hb
  have e : w.before a' (U.setVm U.vm) = w.before a (s.setVm U.vm) := Cond.onTables_vm U.vm w g.1
  rw [State.setVm_self] at e
  rw [e]
  exact h3
theorem TBL_in {w : Cond} (h : w ∈ lw_tbl) (g : goodWord w = true) : w ∈ TBL := List.mem_filter.mpr ⟨h, g⟩
end
section
/-! ===== BEGIN words of one list among another's, by their places ===== -/
theorem goodIn_r {big : List Cond} (ws : List Cond) (ps : List Nat) (hp : ws = ps.filterMap (fun i => big[i]?)) (h : ws.all goodWord = true) : GoodIn big ws := by
  intro w hw
  have h1 := List.all_eq_true.mp h w hw
  rw [hp] at hw
  obtain ⟨i, -, hi⟩ := List.mem_filterMap.mp hw
  have hm : w ∈ big := by first | exact List.mem_of_getElem? hi | exact List.getElem?_mem hi
  exact ⟨hm, good_of_word h1⟩
theorem goodIn_app {big a b : List Cond} (ha : GoodIn big a) (hb : GoodIn big b) : GoodIn big (a ++ b) := fun w h => (List.mem_append.mp h).elim (ha w) (hb w)
theorem goodIn_ca {big a b : List Cond} {c : Cond} (ha : GoodIn big (c :: a)) (hb : GoodIn big b) : GoodIn big (c :: (a ++ b)) := fun w h => (List.mem_cons.mp h).elim (fun e => ha w (List.mem_cons.mpr (Or.inl e))) (fun h => (List.mem_append.mp h).elim (fun h => ha w (List.mem_cons.mpr (Or.inr h))) (hb w))
theorem goodIn_sub {big ws : List Cond} (hm : ∀ w ∈ ws, w ∈ big) (h : ws.all goodWord = true) : GoodIn big ws := fun w hw => ⟨hm w hw, good_of_word (List.all_eq_true.mp h w hw)⟩
/-! ===== END ===== -/

/-! ===== BEGIN exceptions that leave a method, and their catching by the caller (launches without stack traces) ===== -/
section VXA
/-! The laws vx_back, vx_callV, vx_callS, vx_callSW, vx_throw0, vx_throwS follow proofs of the library, with one case more: JvmDerived/Free/Laws.lean (Back.of_free), Shelf42/LK1.lean (callV, callS), Shelf/KitTraced.lean (throwNew0V, throwNewS). -/
/-- where a method has thrown q: the class by its name, the cell, what was written, the world -/
def vx_T (XC : String → State → State → Prop) (st : State) (q : Addr) (t : State) (mc ms : Nat) (free : Addr → Prop) : Prop :=
  ∃ (E : String) (ce : Cell) (L : List Loc), XC E st t ∧ t.heap[q]? = some ce ∧ ce.vm = .none ∧ st.vm.findClass E = some ce.cls ∧ st.WarmedH t.vm ∧ st.sameButNew ({ t with vm := st.vm } : State) L mc ms ∧ ∀ z ∈ L, free z.base
def vx_Q (Qc : Array Value → State → Outcome → State → Prop) (XC : String → State → State → Prop) (mc ms : Nat) (free : Addr → Prop) : Array Value → State → Outcome → State → Prop := fun a st o t =>
  (Qc a st o t ∧ ∃ L, FrameEnd st o t L mc ms ∧ ∀ q ∈ L, free q.base) ∨ ∃ q, o = .threw q ∧ vx_T XC st q t mc ms free
/-- a callee that returns or throws -/
def vx_Met (l : Launch) (y : MethodName) (ws : List Cond) (rm : Room) (Pc : Array Value → State → Prop) (Qc : Array Value → State → Outcome → State → Prop) (XC : String → State → State → Prop) (mc ms : Nat) (free : Addr → Prop) : Prop :=
  MetFree l y (headSpec ws rm) Pc (fun _ _ _ _ _ => True) (vx_Q Qc XC mc ms free)
def vx_Post (XC : String → State → State → Prop) (mc ms : Nat) (free : Addr → Prop) : Pt → Array Value → Addr → Pt → Prop := fun A a q B =>
  ∃ (g : JFrame) (mk : MethodId) (t : State) (L : List Loc) (E : String) (ce : Cell), B.U.heap = t.heap ∧ B.U.vm = t.vm ∧ XC E (A.U.calling g mk a) t ∧ t.heap[q]? = some ce ∧ ce.vm = .none ∧ A.U.vm.findClass E = some ce.cls ∧ B.locs = A.locs ++ L ∧ (∀ z ∈ L, free z.base) ∧ B.cells = A.cells + mc ∧ B.slots = A.slots + ms
def vx_Back (l : Launch) (R : Room) (p : Program) (e : Env) (below : List Frame) (s : State) (sargs : Array Value) (y : MethodName) (len W9 : Nat)
    (Pre : Pt → Array Value → Prop) (Post : Pt → Array Value → Option Value → Pt → Prop) (PostX : Pt → Array Value → Addr → Pt → Prop) : Prop :=
  ∀ (m : MethodId) (meth : Method) (c : Code) (A : Pt) (g : JFrame) (ig : Instr) (mk : MethodId) (a : Array Value),
    Stand p l e R s m sargs below meth c A.U A.locs A.cells A.slots → g.method = m → g.locals.size = c.maxLocals → decode c.code g.pc = .ok (ig, len) →
    2 * g.monitorRoom + (g.stack.map fun v => v.category).sum ≤ W9 → A.U.methodNamed? y = some mk → Pre A a →
    (∃ (v : Option Value) (B : Pt), Stand p l e R s m sargs below meth c B.U B.locs B.cells B.slots ∧ Post A a v B ∧
      Steps p.tables e below (doInvoke e (A.U.setTop g) [] mk a).1 (B.U.setTop { g with pc := g.pc + len, stack := v.toList ++ g.stack })) ∨
    (∃ (q : Addr) (B : Pt), Stand p l e R s m sargs below meth c B.U B.locs B.cells B.slots ∧ PostX A a q B ∧
      Steps p.tables e below (doInvoke e (A.U.setTop g) [] mk a).1 ((B.U.setTop g).pushFrame (.throwing q)))
section Payer
variable {l : Launch} {R : Room} {p : Program} {e : Env} {below : List Frame} {s : State} {sargs : Array Value} {y : MethodName} {len W9 : Nat}
theorem vx_back {ws : List Cond} {rm : Room} {Pc : Array Value → State → Prop} {Qc : Array Value → State → Outcome → State → Prop} {XC : String → State → State → Prop} {mc ms : Nat} {free : Addr → Prop} {bytes : ByteArray} {maxL : Nat} {ret : Option FieldType}
    (hM : vx_Met l y ws rm Pc Qc XC mc ms free) (hblind : FrameBlind Pc) (hrc : rm.cells = mc) (hrs : rm.slots = ms)
    (hframes : rm.frames + 1 ≤ R.frames) (hlocals : W9 + (maxL + 11) + rm.locals ≤ R.locals)
    (hws : ∀ w ∈ ws, ∀ a' U, s.WarmedH U.vm → w.before a' U = true) (hcode : Cond.code y bytes maxL ret ∈ ws) (hinit : ∀ a' U, s.WarmedH U.vm → (Cond.initialized y.cls).before a' U = true) :
    vx_Back l R p e below s sargs y len W9 (PreOf R mc ms Pc) (PostOf Qc mc ms free) (vx_Post XC mc ms free) := by
  intro m meth c A g ig mk a X hg hsize hdg hW hn hp
  have h1 : (headSpec ws rm).pre.before a A.U = true := atoms_intro fun w hw => hws w hw _ _ X.warmed
  have h2 : (Cond.code y bytes maxL ret).before a A.U = true := hws _ hcode _ _ X.warmed
  have h3 : (Cond.initialized y.cls).before a A.U = true := hinit _ _ X.warmed
  have h4 : A.cells + (headSpec ws rm).room.cells ≤ R.cells := by rw [show (headSpec ws rm).room.cells = mc from hrc]; exact hp.1
  have h5 : A.slots + (headSpec ws rm).room.slots ≤ R.slots := by rw [show (headSpec ws rm).room.slots = ms from hrs]; exact hp.2.1
  have hPc : Pc a (A.U.calling g mk a) := hblind _ _ _ _ hp.2.2
  obtain ⟨U, Ls, c0, s0⟩ := A
  dsimp only [Pt.U, Pt.locs, Pt.cells, Pt.slots] at h1 h2 h3 h4 h5 X hn hPc ⊢
  obtain ⟨methY, cY, hmY, hcY, -, hlY, -, -, -, -⟩ := Cond.code_spec hn h2
  obtain ⟨kY, hkY, -⟩ := className_of_methodNamed hn
  have hinitY : kY.init = .initialized := Cond.initialized_spec (findClass_of_methodNamed hn) hkY h3
  have h : At U g.method c below := by rw [hg]; exact X.here
  have hlocals9 : W9 + (maxL + 11) + (headSpec ws rm).room.locals ≤ R.locals := hlocals
  have happ : (headSpec ws rm).appliesLoose y e.platform (U.calling g mk a) = true :=
    Spec.appliesLoose_calling (g := g) h hdg hn hkY hinitY
      (X.room_calling (g := g) (R' := (headSpec ws rm).room) hsize hmY hcY hframes (by rw [hlY]; omega) h4 h5) h1
  obtain ⟨mid, hmid⟩ := h.above
  have hfr : (U.setTop g).frames = (.java g :: mid) ++ below := by rw [State.frames_setTop' g h.top, hmid]; rfl
  obtain ⟨o, s₂, hsteps, -, hend, hq⟩ := Steps.callFree hM p X.admits X.cas X.clock (acts := []) hfr happ hPc trivial
  have hq' : vx_Q Qc XC mc ms free a (U.calling g mk a) o s₂ := hq
  rw [State.frames_setTop' g h.top] at hend
  obtain ⟨g₀, hg0⟩ := Option.isSome_iff_exists.mp h.top
  obtain ⟨r, hr⟩ := State.topJava?_eq_some.mp hg0
  have hr' : (({ U with heap := s₂.heap, slotsUsed := s₂.slotsUsed } : State).setVm s₂.vm).frames = .java g₀ :: r := hr
  rcases hq' with ⟨hqc, L, hfe, hL⟩ | ⟨q, rfl, E, ce, L, hx, hce, hcv, hcl, hW₂, hsm, hL⟩
  · obtain ⟨⟨v, rfl⟩, hW₂, e2, q2, q3, q4, q5, q6⟩ := id hfe
    have e3 : s₂ = ({ (U.calling g mk a).setFrames s₂.frames with heap := s₂.heap, slotsUsed := s₂.slotsUsed } : State).setVm s₂.vm := by
      have : s₂ = ({ s₂ with vm := (U.calling g mk a).vm } : State).setVm s₂.vm := rfl
      rw [e2] at this
      exact this
    obtain ⟨c₂, i₂, len₂, hc₂, hd₂, hf₂⟩ := hend
    have hW' : U.WarmedH s₂.vm := hW₂
    have hcc : c₂ = c := by
      have h1 : s₂.code? g.method = U.code? g.method := by
        rw [State.code?_eq, State.code?_eq, hW'.alike.method?]
      exact Option.some.inj (hc₂.symm.trans (h1.trans h.code))
    subst hcc
    have hlen : len₂ = len := by rw [hdg] at hd₂; cases hd₂; rfl
    subst hlen
    have hs₂ : s₂ = (({ U with heap := s₂.heap, slotsUsed := s₂.slotsUsed } : State).setVm s₂.vm).setTop { g with pc := g.pc + len₂, stack := v.toList ++ g.stack } := by
      refine e3.trans ?_
      rw [hf₂, State.calling_eq h.top, State.setFrames_setFrames, State.setTop_of_frames _ hr', hr]
      rfl
    have hsame : U.sameButNew ({ U with heap := s₂.heap, slotsUsed := s₂.slotsUsed } : State) L mc ms := by
      refine ⟨?_, q2, q3, q4, q5, q6⟩
      obtain ⟨t, ht, -⟩ := State.frames_cons hr
      show ({ U with heap := s₂.heap, slotsUsed := s₂.slotsUsed } : State) = { U.setFrames U.frames with heap := s₂.heap, slotsUsed := s₂.slotsUsed }
      rw [State.setFrames_self ht]
    subst hg
    refine Or.inl ⟨v, ⟨(({ U with heap := s₂.heap, slotsUsed := s₂.slotsUsed } : State).setVm s₂.vm), Ls ++ L, c0 + mc, s0 + ms⟩,
      ⟨X.admits, X.cas, X.clock, X.frames, X.room, X.hears, X.method, X.code, (X.here.setHeapUsed s₂.heap s₂.slotsUsed).setVm hW'.alike, X.tail, State.WarmedH.trans X.warmed hW', X.limits, X.bytes, X.same.trans (hsame.setVm s.vm)⟩,
      ⟨g, mk, s₂, L, rfl, rfl, hqc, rfl, hL, rfl, rfl⟩, ?_⟩
    show Steps p.tables e below _ ((({ U with heap := s₂.heap, slotsUsed := s₂.slotsUsed } : State).setVm s₂.vm).setTop { g with pc := g.pc + len₂, stack := v.toList ++ g.stack })
    rw [← hs₂]
    exact hsteps
  · obtain ⟨e2, q2, q3, q4, q5, q6⟩ := id hsm
    have e3 : s₂ = ({ (U.calling g mk a).setFrames s₂.frames with heap := s₂.heap, slotsUsed := s₂.slotsUsed } : State).setVm s₂.vm := by
      have : s₂ = ({ s₂ with vm := (U.calling g mk a).vm } : State).setVm s₂.vm := rfl
      rw [e2] at this
      exact this
    have hf₂ : s₂.frames = .throwing q :: .java g :: U.frames.tail := hend
    have hW' : U.WarmedH s₂.vm := hW₂
    have hs₂ : s₂ = ((({ U with heap := s₂.heap, slotsUsed := s₂.slotsUsed } : State).setVm s₂.vm).setTop g).pushFrame (.throwing q) := by
      refine e3.trans ?_
      rw [hf₂, State.calling_eq h.top, State.setFrames_setFrames, State.pushFrame, State.frames_setTop _ hr', State.setTop_of_frames _ hr', State.setFrames_setFrames, hr]
      rfl
    have hsame : U.sameButNew ({ U with heap := s₂.heap, slotsUsed := s₂.slotsUsed } : State) L mc ms := by
      refine ⟨?_, q2, q3, q4, q5, q6⟩
      obtain ⟨t, ht, -⟩ := State.frames_cons hr
      show ({ U with heap := s₂.heap, slotsUsed := s₂.slotsUsed } : State) = { U.setFrames U.frames with heap := s₂.heap, slotsUsed := s₂.slotsUsed }
      rw [State.setFrames_self ht]
    subst hg
    refine Or.inr ⟨q, ⟨(({ U with heap := s₂.heap, slotsUsed := s₂.slotsUsed } : State).setVm s₂.vm), Ls ++ L, c0 + mc, s0 + ms⟩,
      ⟨X.admits, X.cas, X.clock, X.frames, X.room, X.hears, X.method, X.code, (X.here.setHeapUsed s₂.heap s₂.slotsUsed).setVm hW'.alike, X.tail, State.WarmedH.trans X.warmed hW', X.limits, X.bytes, X.same.trans (hsame.setVm s.vm)⟩,
      ⟨g, mk, s₂, L, E, ce, rfl, rfl, hx, hce, hcv, hcl, rfl, hL, rfl, rfl⟩, ?_⟩
    show Steps p.tables e below _ (((({ U with heap := s₂.heap, slotsUsed := s₂.slotsUsed } : State).setVm s₂.vm).setTop g).pushFrame (.throwing q))
    rw [← hs₂]
    exact hsteps
end Payer
section Calls
variable {p : Program} {l : Launch} {e : Env} {R : Room} {s : State} {m : MethodId} {args : Array Value} {below : List Frame} {meth : Method} {c : Code} {T : State} {locs : List Loc} {cells slots : Nat}
theorem vx_callV (X : Stand p l e R s m args below meth c T locs cells slots) (hexec : p.tables.exec = Jvm.exec) {own C : String} {index : Nat} {y : MethodName} {bytes : ByteArray} {maxL : Nat} {ret : Option FieldType}
    (hown : s.vm.findClass own = some m.cls) (hlink : (Cond.methodLink own index y).before args s = true) (hinst : (Cond.instanceMethod y).before args s = true) (hsel : (Cond.selects C y y).before args s = true)
    (hcode : (Cond.code y bytes maxL ret).before args s = true) (hy : y.cls ≠ "java/lang/invoke/MethodHandle" ∧ y.cls ≠ "java/lang/invoke/VarHandle")
    {W9 : Nat} {Pre : Pt → Array Value → Prop} {Post : Pt → Array Value → Option Value → Pt → Prop} {PostX : Pt → Array Value → Addr → Pt → Prop} (hK : vx_Back l R p e below s args y 3 W9 Pre Post PostX)
    {b : Addr} {cellB : Cell} (hcell : T.heap[b]? = some cellB) (hobj : cellB.vm.isStatics = false) (hcls : s.vm.findClass C = some cellB.cls)
    {g : JFrame} (hg : g.method = m) (hsize : g.locals.size = c.maxLocals) {argsL rest : List Value} (hlen : ∀ sig, parseMethodDescriptor y.desc = some sig → argsL.length = sig.parameters.length)
    (hstack : g.stack = argsL.reverse ++ .ref b :: rest) (hW : 2 * g.monitorRoom + (rest.map fun v => v.category).sum ≤ W9) (hdg : decode c.code g.pc = .ok (.invokevirtual index, 3))
    (hpre : ∀ vm₁, s.WarmedH vm₁ → Pre ⟨T.setVm vm₁, locs, cells, slots⟩ (Value.ref b :: argsL).toArray) :
    (∃ (v : Option Value) (vm₁ : Vm) (B : Pt), s.WarmedH vm₁ ∧ Stand p l e R s m args below meth c B.U B.locs B.cells B.slots ∧ Post ⟨T.setVm vm₁, locs, cells, slots⟩ (Value.ref b :: argsL).toArray v B ∧
      ∀ target, Steps p.tables e below (B.U.setTop { g with pc := g.pc + 3, stack := v.toList ++ rest }) target → Steps p.tables e below (T.setTop g) target) ∨
    (∃ (q : Addr) (vm₁ : Vm) (B : Pt), s.WarmedH vm₁ ∧ Stand p l e R s m args below meth c B.U B.locs B.cells B.slots ∧ PostX ⟨T.setVm vm₁, locs, cells, slots⟩ (Value.ref b :: argsL).toArray q B ∧
      Steps p.tables e below (T.setTop g) ((B.U.setTop { g with stack := rest }).pushFrame (.throwing q))) := by
  obtain ⟨mk, methM, hnamed, hmethM, hstM, habM⟩ := Cond.instanceMethod_spec hinst
  obtain ⟨methM', cM, hmethM', -, -, -, -, -, -, hsigM⟩ := Cond.code_spec hnamed hcode
  cases hmethM.symm.trans hmethM'
  obtain ⟨c2, r2, m2, q1, q2, q3, q4, kP, hkP, hkPi⟩ := Cond.selects_spec hsel
  cases hcls.symm.trans q1
  cases (State.methodFound?_of_named hnamed hy).symm.trans q2
  cases hnamed.symm.trans q3
  have hselP : selectMethod e.platform s.vm cellB.cls mk = .method mk := by rw [Launch.admits_selectMethod X.admits]; exact q4
  obtain ⟨vm₁, X₁, hstep₁⟩ := X.invokevirtual hexec hown hlink hnamed hmethM hstM hkP hkPi hy (a := b) (cell := cellB) hcell
    (fun z h => by rw [h] at hobj; cases hobj) hselP hmethM habM hkP hkPi (g := g) hg (argsL := argsL) (rest := rest) (hlen _ hsigM) hstack hdg
  rcases hK m meth c ⟨T.setVm vm₁, locs, cells, slots⟩ { g with stack := rest } (.invokevirtual index) mk (Value.ref b :: argsL).toArray X₁ hg hsize hdg hW (X₁.named hnamed) (hpre vm₁ X₁.warmed) with ⟨v, B, X', hpost, hsteps⟩ | ⟨q, B, X', hpost, hsteps⟩
  · exact Or.inl ⟨v, vm₁, B, X₁.warmed, X', hpost, fun target h => hstep₁ _ fun acts => by rw [doInvoke_state]; exact hsteps.trans h⟩
  · exact Or.inr ⟨q, vm₁, B, X₁.warmed, X', hpost, hstep₁ _ fun acts => by rw [doInvoke_state]; exact hsteps⟩
theorem vx_callS (X : Stand p l e R s m args below meth c T locs cells slots) (hexec : p.tables.exec = Jvm.exec) {own : String} {index : Nat} {y : MethodName} {bytes : ByteArray} {maxL : Nat} {ret : Option FieldType}
    (hown : s.vm.findClass own = some m.cls) (hlink : (Cond.methodLink own index y).before args s = true) (hstat : (Cond.static y).before args s = true) (hinit : (Cond.initialized y.cls).before args s = true)
    (hcode : (Cond.code y bytes maxL ret).before args s = true) (hy : y.cls ≠ "java/lang/invoke/MethodHandle" ∧ y.cls ≠ "java/lang/invoke/VarHandle")
    {W9 : Nat} {Pre : Pt → Array Value → Prop} {Post : Pt → Array Value → Option Value → Pt → Prop} {PostX : Pt → Array Value → Addr → Pt → Prop} (hK : vx_Back l R p e below s args y 3 W9 Pre Post PostX)
    {g : JFrame} (hg : g.method = m) (hsize : g.locals.size = c.maxLocals) {argsL rest : List Value} (hlen : ∀ sig, parseMethodDescriptor y.desc = some sig → argsL.length = sig.parameters.length)
    (hstack : g.stack = argsL.reverse ++ rest) (hW : 2 * g.monitorRoom + (rest.map fun v => v.category).sum ≤ W9) (hdg : decode c.code g.pc = .ok (.invokestatic index, 3))
    (hpre : ∀ vm₁, s.WarmedH vm₁ → Pre ⟨T.setVm vm₁, locs, cells, slots⟩ argsL.toArray) :
    (∃ (v : Option Value) (vm₁ : Vm) (B : Pt), s.WarmedH vm₁ ∧ Stand p l e R s m args below meth c B.U B.locs B.cells B.slots ∧ Post ⟨T.setVm vm₁, locs, cells, slots⟩ argsL.toArray v B ∧
      ∀ target, Steps p.tables e below (B.U.setTop { g with pc := g.pc + 3, stack := v.toList ++ rest }) target → Steps p.tables e below (T.setTop g) target) ∨
    (∃ (q : Addr) (vm₁ : Vm) (B : Pt), s.WarmedH vm₁ ∧ Stand p l e R s m args below meth c B.U B.locs B.cells B.slots ∧ PostX ⟨T.setVm vm₁, locs, cells, slots⟩ argsL.toArray q B ∧
      Steps p.tables e below (T.setTop g) ((B.U.setTop { g with stack := rest }).pushFrame (.throwing q))) := by
  obtain ⟨mk, hnamed⟩ := Cond.code_named hcode
  obtain ⟨methM, cM, hmethM, -, -, -, -, -, -, hsigM⟩ := Cond.code_spec hnamed hcode
  have hstatic : methM.isStatic = true := Cond.static_spec hnamed hmethM hstat
  obtain ⟨kP, hkP, -⟩ := className_of_methodNamed hnamed
  have hinitP : kP.init = .initialized := Cond.initialized_spec (findClass_of_methodNamed hnamed) hkP hinit
  obtain ⟨vm₁, X₁, hstep₁⟩ := X.invokestatic hexec hown hlink hnamed hmethM hstatic hkP hinitP hy (g := g) hg (argsL := argsL) (rest := rest) (hlen _ hsigM) hstack hdg
  rcases hK m meth c ⟨T.setVm vm₁, locs, cells, slots⟩ { g with stack := rest } (.invokestatic index) mk argsL.toArray X₁ hg hsize hdg hW (X₁.named hnamed) (hpre vm₁ X₁.warmed) with ⟨v, B, X', hpost, hsteps⟩ | ⟨q, B, X', hpost, hsteps⟩
  · exact Or.inl ⟨v, vm₁, B, X₁.warmed, X', hpost, fun target h => hstep₁ _ fun acts => by rw [doInvoke_state]; exact hsteps.trans h⟩
  · exact Or.inr ⟨q, vm₁, B, X₁.warmed, X', hpost, hstep₁ _ fun acts => by rw [doInvoke_state]; exact hsteps⟩
end Calls
theorem vx_cls {s : State} {T : State} {vm₁ : Vm} {E : String} {k : ClassId} (hW : s.WarmedH vm₁) (h : (T.setVm vm₁).vm.findClass E = some k) : s.vm.findClass E = some k := by
  have h1 : vm₁.findClass E = some k := h
  rw [hW.alike.findClass] at h1
  exact h1
/-- the method's frame g, with q thrown over it -/
def vx_W (p : Program) (l : Launch) (e : Env) (R : Room) (s : State) (m : MethodId) (args : Array Value) (below : List Frame) (meth : Method) (c : Code) (H : Heap) (locs : List Loc) (cells slots : Nat) (Q : State → Prop) (g : JFrame) (q : Addr) : Prop :=
  ∀ T : State, T.heap = H → Stand p l e R s m args below meth c T locs cells slots → ∃ t, Steps p.tables e below ((T.setTop g).pushFrame (.throwing q)) t ∧ Q t
def vx_Run (p : Program) (l : Launch) (e : Env) (R : Room) (s : State) (m : MethodId) (args : Array Value) (below : List Frame) (meth : Method) (c : Code) (H : Heap) (locs : List Loc) (cells slots mc ms : Nat) (g : JFrame) (rest : List Value) (Qa : State → Outcome → State → Prop) (XC : String → State → State → Prop) (free : Addr → Prop) : Prop :=
  ∀ T : State, T.heap = H → Stand p l e R s m args below meth c T locs cells slots →
    (∃ (v : Option Value) (st₀ t T' : State) (L : List Loc), st₀.heap = H ∧ Stand p l e R s m args below meth c T' (locs ++ L) (cells + mc) (slots + ms) ∧ (∀ q ∈ L, free q.base) ∧ T'.heap = t.heap ∧ T'.vm = t.vm ∧ Qa st₀ (.returned v) t ∧
      Goes p e below T g T' { g with pc := g.pc + 3, stack := v.toList ++ rest }) ∨
    (∃ (q : Addr) (st₀ t T' : State) (L : List Loc) (E : String) (ce : Cell), st₀.heap = H ∧ Stand p l e R s m args below meth c T' (locs ++ L) (cells + mc) (slots + ms) ∧ (∀ z ∈ L, free z.base) ∧ T'.heap = t.heap ∧ T'.vm = t.vm ∧ XC E st₀ t ∧ t.heap[q]? = some ce ∧ ce.vm = .none ∧ s.vm.findClass E = some ce.cls ∧
      Steps p.tables e below (T.setTop g) ((T'.setTop { g with stack := rest }).pushFrame (.throwing q)))
def vx_X {S : Type} (px : S → Prop) (B : String → S → State → Prop) (A : Nat → Prop) : String → State → State → Prop := fun E st t => ∃ u : S, px u ∧ B E u t ∧ va_F A st t
section Runs
variable {p : Program} {l : Launch} {e : Env} {R : Room} {s : State} {m : MethodId} {args : Array Value} {below : List Frame} {meth : Method} {c : Code} {H : Heap} {locs : List Loc} {cells slots : Nat}
variable {y : MethodName} {bytes cc : ByteArray} {maxL nL mc ms n index : Nat} {ret : Option FieldType} {ws : List Cond} {rm : Room} {Pc : Array Value → State → Prop} {Qc : Array Value → State → Outcome → State → Prop} {XC : String → State → State → Prop} {free : Addr → Prop} {Ts : List Cond} {own C : String} {b : Addr} {As rest : List Value} {g : JFrame}
theorem vx_callBack (cb : CallB R s args own index y bytes maxL ret ws rm mc ms n) (hM : vx_Met l y ws rm Pc Qc XC mc ms free) (hbl : FrameBlind Pc) : vx_Back l R p e below s args y 3 8 (PreOf R mc ms Pc) (PostOf Qc mc ms free) (vx_Post XC mc ms free) := by
  obtain ⟨hrc, hrs, hfr, hlo, hws, hcw, -, hini, -⟩ := cb
  exact vx_back (bytes := bytes) (maxL := maxL) (ret := ret) hM hbl hrc hrs hfr hlo hws hcw (fun a' U hW => word_at hW (Or.inl (by first | rfl | simp [Cond.onTables, Cond.keeps, Cond.steady])) hini)
theorem vx_runV (S : CallFix p m c cc nL s args Ts own) (hM : vx_Met l y ws rm Pc Qc XC mc ms free) (cw : CallW R s args own C index y bytes maxL ret ws rm mc ms n) (hp : PreV s H C b Pc As)
    (hg : g.method = m) (hn : As.length = n) (hsize : g.locals.size = nL) (hstack : g.stack = As.reverse ++ .ref b :: rest) (hW : 2 * g.monitorRoom + (rest.map fun v => v.category).sum ≤ 8) (hdg : decode cc g.pc = .ok (.invokevirtual index, 3)) (hf : cells + mc ≤ R.cells ∧ slots + ms ≤ R.slots) :
    vx_Run p l e R s m args below meth c H locs cells slots mc ms g rest (Qc (Value.ref b :: As).toArray) XC free := by
  have hK : vx_Back l R p e below s args y 3 8 (PreOf R mc ms Pc) (PostOf Qc mc ms free) (vx_Post XC mc ms free) := vx_callBack cw.1 hM hp.1
  obtain ⟨⟨-, -, -, -, -, -, hcode, -, hy, hlen, hl⟩, hin, hse⟩ := cw
  obtain ⟨hx, hb, hml, ho, -⟩ := S
  obtain ⟨-, ⟨cellB, hcB, hoB, hclB⟩, hPc⟩ := hp
  intro T hT X
  rcases vx_callV X hx (C := C) (bytes := bytes) (maxL := maxL) (ret := ret) ho hl hin hse hcode hy hK (by rw [hT]; exact hcB) hoB hclB hg (hsize.trans hml.symm) (argsL := As) (rest := rest) (fun sig h => hn.trans (hlen sig h)) hstack hW (by rw [hb]; exact hdg)
    (fun vm₁ hW₁ => ⟨hf.1, hf.2, hPc (T.setVm vm₁) hT hW₁⟩) with ⟨v, vm₁, ⟨U', l2, c2, s2⟩, hW₁, X', ⟨g', mk, t, L, e1, e2, hq, h1, hL, h2, h3⟩, st⟩ | ⟨q, vm₁, ⟨U', l2, c2, s2⟩, hW₁, X', ⟨g', mk, t, L, E, ce, e1, e2, hq, hce, hcv, hcl, h1, hL, h2, h3⟩, st⟩
  · dsimp only [Pt.U, Pt.locs, Pt.cells, Pt.slots] at X' e1 e2 h1 h2 h3 st
    subst h1; subst h2; subst h3
    exact Or.inl ⟨v, (T.setVm vm₁).calling g' mk (Value.ref b :: As).toArray, t, U', L, hT, X', hL, e1, e2, hq, st⟩
  · dsimp only [Pt.U, Pt.locs, Pt.cells, Pt.slots] at X' e1 e2 h1 h2 h3 st hcl
    subst h1; subst h2; subst h3
    exact Or.inr ⟨q, (T.setVm vm₁).calling g' mk (Value.ref b :: As).toArray, t, U', L, E, ce, hT, X', hL, e1, e2, hq, hce, hcv, vx_cls hW₁ hcl, st⟩
theorem vx_runS (S : CallFix p m c cc nL s args Ts own) (hM : vx_Met l y ws rm Pc Qc XC mc ms free) (cw : CallB R s args own index y bytes maxL ret ws rm mc ms n ∧ (Cond.static y).before args s = true) (hp : PreS s H Pc As)
    (hg : g.method = m) (hn : As.length = n) (hsize : g.locals.size = nL) (hstack : g.stack = As.reverse ++ rest) (hW : 2 * g.monitorRoom + (rest.map fun v => v.category).sum ≤ 8) (hdg : decode cc g.pc = .ok (.invokestatic index, 3)) (hf : cells + mc ≤ R.cells ∧ slots + ms ≤ R.slots) :
    vx_Run p l e R s m args below meth c H locs cells slots mc ms g rest (Qc As.toArray) XC free := by
  have hK : vx_Back l R p e below s args y 3 8 (PreOf R mc ms Pc) (PostOf Qc mc ms free) (vx_Post XC mc ms free) := vx_callBack cw.1 hM hp.1
  obtain ⟨⟨-, -, -, -, -, -, hcode, hini, hy, hlen, hl⟩, hstt⟩ := cw
  obtain ⟨hx, hb, hml, ho, -⟩ := S
  intro T hT X
  rcases vx_callS X hx (bytes := bytes) (maxL := maxL) (ret := ret) ho hl hstt hini hcode hy hK hg (hsize.trans hml.symm) (argsL := As) (rest := rest) (fun sig h => hn.trans (hlen sig h)) hstack hW (by rw [hb]; exact hdg)
    (fun vm₁ hW₁ => ⟨hf.1, hf.2, hp.2 (T.setVm vm₁) hT hW₁⟩) with ⟨v, vm₁, ⟨U', l2, c2, s2⟩, hW₁, X', ⟨g', mk, t, L, e1, e2, hq, h1, hL, h2, h3⟩, st⟩ | ⟨q, vm₁, ⟨U', l2, c2, s2⟩, hW₁, X', ⟨g', mk, t, L, E, ce, e1, e2, hq, hce, hcv, hcl, h1, hL, h2, h3⟩, st⟩
  · dsimp only [Pt.U, Pt.locs, Pt.cells, Pt.slots] at X' e1 e2 h1 h2 h3 st
    subst h1; subst h2; subst h3
    exact Or.inl ⟨v, (T.setVm vm₁).calling g' mk As.toArray, t, U', L, hT, X', hL, e1, e2, hq, st⟩
  · dsimp only [Pt.U, Pt.locs, Pt.cells, Pt.slots] at X' e1 e2 h1 h2 h3 st hcl
    subst h1; subst h2; subst h3
    exact Or.inr ⟨q, (T.setVm vm₁).calling g' mk As.toArray, t, U', L, E, ce, hT, X', hL, e1, e2, hq, hce, hcv, vx_cls hW₁ hcl, st⟩
end Runs
section Rows
variable {p : Program} {l : Launch} {e : Env} {R : Room} {s : State} {m : MethodId} {args : Array Value} {below : List Frame} {meth : Method} {c : Code} {H : Heap} {locs : List Loc} {cells slots : Nat} {Q : State → Prop}
variable {mc ms : Nat} {free : Addr → Prop} {A0 A1 : Nat → Prop} {H0 : Heap} {a : Array Value} {pc : Nat} {ls : Array Slot} {st0 rest : List Value}
theorem vx_keep {st₀ t T' : State} {L : List Loc} (h0 : st₀.heap = H) (e1 : T'.heap = t.heap) (hS : va_S A0 H0 H locs) (hA : ∀ q, q < H.size → A1 q → A0 q) (hf : ∀ q, free q → A0 q) (hL : ∀ q ∈ L, free q.base) (hF : va_F A1 st₀ t) :
    H.size ≤ T'.heap.size ∧ (∀ q : Nat, q < H.size → ¬ A1 q → T'.heap[q]? = H[q]?) ∧ va_S A0 H0 T'.heap (locs ++ L) := by
  obtain ⟨hz, hk⟩ := hF
  rw [h0] at hz hk
  exact ⟨by rw [e1]; exact hz, fun q h1 h2 => by rw [e1]; exact hk q h1 h2,
    ⟨Nat.le_trans hS.1 (by rw [e1]; exact hz), fun q h1 h2 => by rw [e1, hk q (Nat.lt_of_lt_of_le h1 hS.1) (fun z => h2 (hA q (Nat.lt_of_lt_of_le h1 hS.1) z))]; exact hS.2.1 q h1 h2, fun q hq => by
      rcases List.mem_append.mp hq with h | h
      · exact hS.2.2 q h
      · exact hf _ (hL q h)⟩⟩
theorem vx_calli {S SX : Type} {post : Int32 → S → Prop} {px : SX → Prop} {B : S → State → Prop} {BX : String → SX → State → Prop} {AX : Nat → Prop} (hr : vx_Run p l e R s m args below meth c H locs cells slots mc ms (F0 m pc ls st0) rest (va_Qi post B A1 a) (vx_X px BX AX) free) (hS : va_S A0 H0 H locs) (hA : ∀ q, q < H.size → A1 q → A0 q) (hf : ∀ q, free q → A0 q) (hAX : ∀ q, q < H.size → AX q → A0 q)
    (kx : ∀ (E : String) (ce : Cell) (q9 : Addr) (u : SX) (t : State) (H1 : Heap) (locs1 : List Loc), t.heap = H1 → s.vm.Alike t.vm → px u → BX E u t → H.size ≤ H1.size → (∀ q : Nat, q < H.size → ¬ AX q → H1[q]? = H[q]?) → va_S A0 H0 H1 locs1 → H1[q9]? = some ce → ce.vm = .none → s.vm.findClass E = some ce.cls → vx_W p l e R s m args below meth c H1 locs1 (cells + mc) (slots + ms) Q (F0 m pc ls rest) q9)
    (kk : ∀ (r : Int32) (u : S) (t : State) (H1 : Heap) (locs1 : List Loc), t.heap = H1 → s.vm.Alike t.vm → post r u → B u t → H.size ≤ H1.size → (∀ q : Nat, q < H.size → ¬ A1 q → H1[q]? = H[q]?) → va_S A0 H0 H1 locs1 → W p l e R s m args below meth c H1 locs1 (cells + mc) (slots + ms) Q (F0 m (pc + 3) ls (.int r :: rest))) : W p l e R s m args below meth c H locs cells slots Q (F0 m pc ls st0) := by
  intro T hT X
  rcases hr T hT X with ⟨v, st₀, t, T', L, h0, X', hL, e1, e2, ⟨⟨r, u, hv, hp, hb⟩, hF⟩, st⟩ | ⟨q, st₀, t, T', L, E, ce, h0, X', hL, e1, e2, ⟨u, hp, hb, hF⟩, hce, hcv, hcl, st⟩
  · cases hv
    obtain ⟨k1, k2, k3⟩ := vx_keep h0 e1 hS hA hf hL hF
    obtain ⟨t2, a1, b1⟩ := kk r u t T'.heap (locs ++ L) e1.symm (by rw [← e2]; exact X'.warmed.alike) hp hb k1 k2 k3 T' rfl X'
    exact ⟨t2, st t2 a1, b1⟩
  · obtain ⟨k1, k2, k3⟩ := vx_keep h0 e1 hS hAX hf hL hF
    obtain ⟨t2, a1, b1⟩ := kx E ce q u t T'.heap (locs ++ L) e1.symm (by rw [← e2]; exact X'.warmed.alike) hp hb k1 k2 k3 (by rw [e1]; exact hce) hcv hcl T' rfl X'
    exact ⟨t2, st.trans a1, b1⟩
theorem vx_calll {S SX : Type} {post : Int64 → S → Prop} {px : SX → Prop} {B : S → State → Prop} {BX : String → SX → State → Prop} {AX : Nat → Prop} (hr : vx_Run p l e R s m args below meth c H locs cells slots mc ms (F0 m pc ls st0) rest (va_Ql post B A1 a) (vx_X px BX AX) free) (hS : va_S A0 H0 H locs) (hA : ∀ q, q < H.size → A1 q → A0 q) (hf : ∀ q, free q → A0 q) (hAX : ∀ q, q < H.size → AX q → A0 q)
    (kx : ∀ (E : String) (ce : Cell) (q9 : Addr) (u : SX) (t : State) (H1 : Heap) (locs1 : List Loc), t.heap = H1 → s.vm.Alike t.vm → px u → BX E u t → H.size ≤ H1.size → (∀ q : Nat, q < H.size → ¬ AX q → H1[q]? = H[q]?) → va_S A0 H0 H1 locs1 → H1[q9]? = some ce → ce.vm = .none → s.vm.findClass E = some ce.cls → vx_W p l e R s m args below meth c H1 locs1 (cells + mc) (slots + ms) Q (F0 m pc ls rest) q9)
    (kk : ∀ (r : Int64) (u : S) (t : State) (H1 : Heap) (locs1 : List Loc), t.heap = H1 → s.vm.Alike t.vm → post r u → B u t → H.size ≤ H1.size → (∀ q : Nat, q < H.size → ¬ A1 q → H1[q]? = H[q]?) → va_S A0 H0 H1 locs1 → W p l e R s m args below meth c H1 locs1 (cells + mc) (slots + ms) Q (F0 m (pc + 3) ls (.long r :: rest))) : W p l e R s m args below meth c H locs cells slots Q (F0 m pc ls st0) := by
  intro T hT X
  rcases hr T hT X with ⟨v, st₀, t, T', L, h0, X', hL, e1, e2, ⟨⟨r, u, hv, hp, hb⟩, hF⟩, st⟩ | ⟨q, st₀, t, T', L, E, ce, h0, X', hL, e1, e2, ⟨u, hp, hb, hF⟩, hce, hcv, hcl, st⟩
  · cases hv
    obtain ⟨k1, k2, k3⟩ := vx_keep h0 e1 hS hA hf hL hF
    obtain ⟨t2, a1, b1⟩ := kk r u t T'.heap (locs ++ L) e1.symm (by rw [← e2]; exact X'.warmed.alike) hp hb k1 k2 k3 T' rfl X'
    exact ⟨t2, st t2 a1, b1⟩
  · obtain ⟨k1, k2, k3⟩ := vx_keep h0 e1 hS hAX hf hL hF
    obtain ⟨t2, a1, b1⟩ := kx E ce q u t T'.heap (locs ++ L) e1.symm (by rw [← e2]; exact X'.warmed.alike) hp hb k1 k2 k3 (by rw [e1]; exact hce) hcv hcl T' rfl X'
    exact ⟨t2, st.trans a1, b1⟩
theorem vx_callf {S SX : Type} {post : UInt32 → S → Prop} {px : SX → Prop} {B : S → State → Prop} {BX : String → SX → State → Prop} {AX : Nat → Prop} (hr : vx_Run p l e R s m args below meth c H locs cells slots mc ms (F0 m pc ls st0) rest (va_Qf post B A1 a) (vx_X px BX AX) free) (hS : va_S A0 H0 H locs) (hA : ∀ q, q < H.size → A1 q → A0 q) (hf : ∀ q, free q → A0 q) (hAX : ∀ q, q < H.size → AX q → A0 q)
    (kx : ∀ (E : String) (ce : Cell) (q9 : Addr) (u : SX) (t : State) (H1 : Heap) (locs1 : List Loc), t.heap = H1 → s.vm.Alike t.vm → px u → BX E u t → H.size ≤ H1.size → (∀ q : Nat, q < H.size → ¬ AX q → H1[q]? = H[q]?) → va_S A0 H0 H1 locs1 → H1[q9]? = some ce → ce.vm = .none → s.vm.findClass E = some ce.cls → vx_W p l e R s m args below meth c H1 locs1 (cells + mc) (slots + ms) Q (F0 m pc ls rest) q9)
    (kk : ∀ (r : UInt32) (u : S) (t : State) (H1 : Heap) (locs1 : List Loc), t.heap = H1 → s.vm.Alike t.vm → post r u → B u t → H.size ≤ H1.size → (∀ q : Nat, q < H.size → ¬ A1 q → H1[q]? = H[q]?) → va_S A0 H0 H1 locs1 → W p l e R s m args below meth c H1 locs1 (cells + mc) (slots + ms) Q (F0 m (pc + 3) ls (.float r :: rest))) : W p l e R s m args below meth c H locs cells slots Q (F0 m pc ls st0) := by
  intro T hT X
  rcases hr T hT X with ⟨v, st₀, t, T', L, h0, X', hL, e1, e2, ⟨⟨r, u, hv, hp, hb⟩, hF⟩, st⟩ | ⟨q, st₀, t, T', L, E, ce, h0, X', hL, e1, e2, ⟨u, hp, hb, hF⟩, hce, hcv, hcl, st⟩
  · cases hv
    obtain ⟨k1, k2, k3⟩ := vx_keep h0 e1 hS hA hf hL hF
    obtain ⟨t2, a1, b1⟩ := kk r u t T'.heap (locs ++ L) e1.symm (by rw [← e2]; exact X'.warmed.alike) hp hb k1 k2 k3 T' rfl X'
    exact ⟨t2, st t2 a1, b1⟩
  · obtain ⟨k1, k2, k3⟩ := vx_keep h0 e1 hS hAX hf hL hF
    obtain ⟨t2, a1, b1⟩ := kx E ce q u t T'.heap (locs ++ L) e1.symm (by rw [← e2]; exact X'.warmed.alike) hp hb k1 k2 k3 (by rw [e1]; exact hce) hcv hcl T' rfl X'
    exact ⟨t2, st.trans a1, b1⟩
theorem vx_calld {S SX : Type} {post : UInt64 → S → Prop} {px : SX → Prop} {B : S → State → Prop} {BX : String → SX → State → Prop} {AX : Nat → Prop} (hr : vx_Run p l e R s m args below meth c H locs cells slots mc ms (F0 m pc ls st0) rest (va_Qd post B A1 a) (vx_X px BX AX) free) (hS : va_S A0 H0 H locs) (hA : ∀ q, q < H.size → A1 q → A0 q) (hf : ∀ q, free q → A0 q) (hAX : ∀ q, q < H.size → AX q → A0 q)
    (kx : ∀ (E : String) (ce : Cell) (q9 : Addr) (u : SX) (t : State) (H1 : Heap) (locs1 : List Loc), t.heap = H1 → s.vm.Alike t.vm → px u → BX E u t → H.size ≤ H1.size → (∀ q : Nat, q < H.size → ¬ AX q → H1[q]? = H[q]?) → va_S A0 H0 H1 locs1 → H1[q9]? = some ce → ce.vm = .none → s.vm.findClass E = some ce.cls → vx_W p l e R s m args below meth c H1 locs1 (cells + mc) (slots + ms) Q (F0 m pc ls rest) q9)
    (kk : ∀ (r : UInt64) (u : S) (t : State) (H1 : Heap) (locs1 : List Loc), t.heap = H1 → s.vm.Alike t.vm → post r u → B u t → H.size ≤ H1.size → (∀ q : Nat, q < H.size → ¬ A1 q → H1[q]? = H[q]?) → va_S A0 H0 H1 locs1 → W p l e R s m args below meth c H1 locs1 (cells + mc) (slots + ms) Q (F0 m (pc + 3) ls (.double r :: rest))) : W p l e R s m args below meth c H locs cells slots Q (F0 m pc ls st0) := by
  intro T hT X
  rcases hr T hT X with ⟨v, st₀, t, T', L, h0, X', hL, e1, e2, ⟨⟨r, u, hv, hp, hb⟩, hF⟩, st⟩ | ⟨q, st₀, t, T', L, E, ce, h0, X', hL, e1, e2, ⟨u, hp, hb, hF⟩, hce, hcv, hcl, st⟩
  · cases hv
    obtain ⟨k1, k2, k3⟩ := vx_keep h0 e1 hS hA hf hL hF
    obtain ⟨t2, a1, b1⟩ := kk r u t T'.heap (locs ++ L) e1.symm (by rw [← e2]; exact X'.warmed.alike) hp hb k1 k2 k3 T' rfl X'
    exact ⟨t2, st t2 a1, b1⟩
  · obtain ⟨k1, k2, k3⟩ := vx_keep h0 e1 hS hAX hf hL hF
    obtain ⟨t2, a1, b1⟩ := kx E ce q u t T'.heap (locs ++ L) e1.symm (by rw [← e2]; exact X'.warmed.alike) hp hb k1 k2 k3 (by rw [e1]; exact hce) hcv hcl T' rfl X'
    exact ⟨t2, st.trans a1, b1⟩
theorem vx_callv {S SX : Type} {post : S → Prop} {px : SX → Prop} {B : S → State → Prop} {BX : String → SX → State → Prop} {AX : Nat → Prop} (hr : vx_Run p l e R s m args below meth c H locs cells slots mc ms (F0 m pc ls st0) rest (va_Qv post B A1 a) (vx_X px BX AX) free) (hS : va_S A0 H0 H locs) (hA : ∀ q, q < H.size → A1 q → A0 q) (hf : ∀ q, free q → A0 q) (hAX : ∀ q, q < H.size → AX q → A0 q)
    (kx : ∀ (E : String) (ce : Cell) (q9 : Addr) (u : SX) (t : State) (H1 : Heap) (locs1 : List Loc), t.heap = H1 → s.vm.Alike t.vm → px u → BX E u t → H.size ≤ H1.size → (∀ q : Nat, q < H.size → ¬ AX q → H1[q]? = H[q]?) → va_S A0 H0 H1 locs1 → H1[q9]? = some ce → ce.vm = .none → s.vm.findClass E = some ce.cls → vx_W p l e R s m args below meth c H1 locs1 (cells + mc) (slots + ms) Q (F0 m pc ls rest) q9)
    (kk : ∀ (u : S) (t : State) (H1 : Heap) (locs1 : List Loc), t.heap = H1 → s.vm.Alike t.vm → post u → B u t → H.size ≤ H1.size → (∀ q : Nat, q < H.size → ¬ A1 q → H1[q]? = H[q]?) → va_S A0 H0 H1 locs1 → W p l e R s m args below meth c H1 locs1 (cells + mc) (slots + ms) Q (F0 m (pc + 3) ls (rest))) : W p l e R s m args below meth c H locs cells slots Q (F0 m pc ls st0) := by
  intro T hT X
  rcases hr T hT X with ⟨v, st₀, t, T', L, h0, X', hL, e1, e2, ⟨⟨u, hv, hp, hb⟩, hF⟩, st⟩ | ⟨q, st₀, t, T', L, E, ce, h0, X', hL, e1, e2, ⟨u, hp, hb, hF⟩, hce, hcv, hcl, st⟩
  · cases hv
    obtain ⟨k1, k2, k3⟩ := vx_keep h0 e1 hS hA hf hL hF
    obtain ⟨t2, a1, b1⟩ := kk u t T'.heap (locs ++ L) e1.symm (by rw [← e2]; exact X'.warmed.alike) hp hb k1 k2 k3 T' rfl X'
    exact ⟨t2, st t2 a1, b1⟩
  · obtain ⟨k1, k2, k3⟩ := vx_keep h0 e1 hS hAX hf hL hF
    obtain ⟨t2, a1, b1⟩ := kx E ce q u t T'.heap (locs ++ L) e1.symm (by rw [← e2]; exact X'.warmed.alike) hp hb k1 k2 k3 (by rw [e1]; exact hce) hcv hcl T' rfl X'
    exact ⟨t2, st.trans a1, b1⟩
/-- caught by the row x of this method's table; the rows ahead don't take it -/
theorem vx_catch {own name : String} {E : String} {ce : Cell} {q : Addr} (hown : s.vm.findClass own = some m.cls) (pre : List ExceptionTableEntry) (x : ExceptionTableEntry) (suf : List ExceptionTableEntry) (hsplit : c.exceptionTable.toList = pre ++ x :: suf)
    (hpass : ∀ z ∈ pre, covers z pc = false ∨ (z.catchType ≠ 0 ∧ ∃ nm : String, (Cond.classLink own z.catchType nm).before args s = true ∧ va_Nc E nm s)) (hx : covers x pc = true) (h0 : x.catchType ≠ 0)
    (hlink : (Cond.classLink own x.catchType name).before args s = true) (hcast : (Cond.castable E name).before args s = true) (hcell : H[q]? = some ce) (hv : ce.vm = .none) (hcl : s.vm.findClass E = some ce.cls)
    (kk : W p l e R s m args below meth c H locs cells slots Q (F0 m x.handlerPc ls [.ref q])) : vx_W p l e R s m args below meth c H locs cells slots Q (F0 m pc ls rest) q := by
  intro T hT X
  have hpl : e.platform.magicAccessors = ({} : Platform).magicAccessors := by rw [X.admits.platform]
  obtain ⟨c3, c4, hc3, hc4, hasg⟩ := Cond.castable_spec hcast
  cases Option.some.inj (hc3.symm.trans hcl)
  obtain ⟨c5, hc5, hcl5⟩ := Cond.classLink_spec hown hlink e.platform hpl
  cases Option.some.inj (hc4.symm.trans hc5)
  obtain ⟨vm', X', st⟩ := X.thenCaughtThrough q (g := F0 m pc ls rest) rfl (Steps.refl _) (by rw [hT]; exact hcell) (by rw [hv]; rfl) (by obtain ⟨k9, h9, -⟩ := Vm.findClass_spec hcl; exact ⟨k9, h9⟩) pre x suf hsplit
    (fun z hz => by
      rcases hpass z hz with h | ⟨hz0, nm, hl1, hn1⟩
      · exact Or.inl h
      · obtain ⟨c6, hc6, hcl6⟩ := Cond.classLink_spec hown hl1 e.platform hpl
        obtain ⟨a8, b8, h1, h2, h3⟩ := hn1
        cases Option.some.inj (h1.symm.trans hcl)
        cases Option.some.inj (h2.symm.trans hc6)
        exact Or.inr ⟨hz0, _, hcl6, h3⟩) hx (Or.inr ⟨h0, c4, hcl5, hasg⟩)
  obtain ⟨t, a1, b1⟩ := kk (T.setVm vm') hT X'
  exact ⟨t, st.trans a1, b1⟩
end Rows
section Ends
variable {p : Program} {l : Launch} {e : Env} {R : Room} {s : State} {m : MethodId} {args : Array Value} {below : List Frame} {meth : Method} {c : Code} {H : Heap} {locs : List Loc} {cells slots : Nat} {Q : State → Prop}
variable {mc ms : Nat} {free : Addr → Prop} {A0 A1 : Nat → Prop} {H0 : Heap} {a : Array Value} {ls : Array Slot} {st0 rest : List Value}
variable {Qc : Array Value → State → Outcome → State → Prop} {XC : String → State → State → Prop}
/-- what a body that may throw owes at its end -/
def vx_MQ (below : List Frame) (Qc : Array Value → State → Outcome → State → Prop) (XC : String → State → State → Prop) (a : Array Value) (s : State) (mc ms : Nat) (free : Addr → Prop) : State → Prop := fun t =>
  ∃ o, t.status = .running ∧ Ended t below o ∧ vx_Q Qc XC mc ms free a s o t
theorem vx_ret {g : JFrame} {mc ms : Nat} (k : W p l e R s m args below meth c H locs cells slots (MQ below Qc args s mc ms free) g) : W p l e R s m args below meth c H locs cells slots (vx_MQ below Qc XC args s mc ms free) g := by
  intro T hT X
  obtain ⟨t, a1, o, b1, b2, b3, b4⟩ := k T hT X
  exact ⟨t, a1, o, b1, b2, Or.inl ⟨b3, b4⟩⟩
/-- not caught here: it goes on to the caller -/
theorem vx_widen {g : JFrame} {q : Addr} {k n : Nat} (h1 : cells ≤ k) (h2 : slots ≤ n) (kk : vx_W p l e R s m args below meth c H locs k n Q g q) : vx_W p l e R s m args below meth c H locs cells slots Q g q := fun T hT X => kk T hT (stand_widen X h1 h2)
theorem vx_out {pc : Nat} {E : String} {ce : Cell} {q : Addr} {mc ms : Nat} (hout : ∀ x ∈ c.exceptionTable.toList, covers x pc = false) (hlocks : meth.locks = false) (hcell : H[q]? = some ce) (hv : ce.vm = .none) (hcl : s.vm.findClass E = some ce.cls)
    (hx : ∀ t : State, t.heap = H → s.vm.Alike t.vm → XC E s t) (hf : ∀ z ∈ locs, free z.base) (hc : cells ≤ mc) (hs : slots ≤ ms) :
    vx_W p l e R s m args below meth c H locs cells slots (vx_MQ below Qc XC args s mc ms free) (F0 m pc ls rest) q := by
  intro T hT X
  obtain ⟨st1, hrun, hend, hW, hsm⟩ := X.leaveThrown q (g := F0 m pc ls rest) rfl rfl rfl hout hlocks
  have hcell9 : (T.setFrames (.throwing q :: below)).heap[q]? = some ce := by
    show T.heap[q]? = some ce
    rw [hT]; exact hcell
  exact ⟨_, st1, .threw q, hrun, hend, Or.inr ⟨q, rfl, E, ce, locs, hx _ hT hW.alike, hcell9, hv, hcl, hW, hsm.mono hc hs, hf⟩⟩
theorem vx_frame {U : State} {k n : Nat} (h : s.sameButNew ({ U with vm := s.vm } : State) locs k n) : s.heap.size ≤ U.heap.size ∧ ∀ q : Nat, q < s.heap.size → (∀ z ∈ locs, z.base ≠ q) → U.heap[q]? = s.heap[q]? := by
  obtain ⟨-, h2, -, -, -, h6⟩ := h
  refine ⟨h2, fun q hq hz => ?_⟩
  obtain ⟨c9, e1, e2, e3, e4⟩ := h6 q _ (Array.getElem?_eq_getElem hq)
  have hs : c9.slots = (s.heap[q]).slots := Array.ext_getElem? fun i => e4 i fun hm => hz _ hm rfl
  have h9 : c9 = s.heap[q] := by
    rw [hs] at e2
    exact e2
  have e5 : U.heap[q]? = some c9 := e1
  rw [e5, h9, Array.getElem?_eq_getElem hq]
/-- the words of a throw but the four that speak of the heap -/
def vx_no (w : Cond) : Bool := decide (w ≠ .isRef (.static Bundle.tN "UNASSIGNED_STACK" Bundle.steD)) && decide (w ≠ .isRef (.static Bundle.tN "SUPPRESSED_SENTINEL" Bundle.listD)) && decide (w ≠ .laysStatic Bundle.tN "UNASSIGNED_STACK" Bundle.steD) && decide (w ≠ .laysStatic Bundle.tN "SUPPRESSED_SENTINEL" Bundle.listD)
def vx_at0 (own : String) (ic : Nat) (X : String) (names : List String) : List Cond := (Bundle.ownAtoms0 own ic X names).filter vx_no
def vx_atS (own : String) (ic : Nat) (X : String) (names : List String) : List Cond := (Bundle.ownAtoms own ic X names).filter vx_no
/-- a word that the tables alone decide, or a good one -/
def vx_ot (w : Cond) : Bool := w.onTables || goodWord w
theorem vx_ot_at {args a' : Array Value} {s U : State} {w : Cond} (hW : s.WarmedH U.vm) (hvm : s.vm = U.vm) (hg : vx_ot w = true) (h : w.before args s = true) : w.before a' U = true := by
  simp only [vx_ot, Bool.or_eq_true] at hg
  rcases hg with hg | hg
  · exact va_tabs hg hvm h
  · exact word_at hW (good_of_word hg) h
/-- a list's words: the good ones out of the method's own list, the others by premises of their own -/
theorem vx_hat {args : Array Value} {s : State} {L B : List Cond} (h1 : ∀ w ∈ L.filter goodWord, w.before args s = true) (h2 : ∀ w ∈ L.filter (fun w => !goodWord w), w ∈ B) (h3 : ∀ w ∈ B, w.before args s = true) : ∀ w ∈ L, w.before args s = true := by
  intro w hw
  by_cases g : goodWord w = true
  · exact h1 w (List.mem_filter.mpr ⟨hw, g⟩)
  · refine h3 w (h2 w (List.mem_filter.mpr ⟨hw, ?_⟩))
    show (!goodWord w) = true
    cases hgw : goodWord w
    · rfl
    · exact absurd hgw g
theorem vx_c {args : Array Value} {s : State} {w : Cond} {B : List Cond} (h : w.before args s = true) (t : ∀ w ∈ B, w.before args s = true) : ∀ w' ∈ w :: B, w'.before args s = true := fun w' h' => (List.mem_cons.mp h').elim (fun e => by rw [e]; exact h) (t w')
theorem vx_n {args : Array Value} {s : State} : ∀ w ∈ ([] : List Cond), w.before args s = true := fun _ h => nomatch h
theorem vx_own {args : Array Value} {s : State} {L : List Cond} (h1 : ∀ w ∈ L.filter vx_no, w.before args s = true)
    (hU : (Cond.isRef (.static Bundle.tN "UNASSIGNED_STACK" Bundle.steD)).before args s = true) (hN : (Cond.isRef (.static Bundle.tN "SUPPRESSED_SENTINEL" Bundle.listD)).before args s = true)
    (lU : (Cond.laysStatic Bundle.tN "UNASSIGNED_STACK" Bundle.steD).before args s = true) (lN : (Cond.laysStatic Bundle.tN "SUPPRESSED_SENTINEL" Bundle.listD).before args s = true) : ∀ w ∈ L, w.before args s = true := by
  intro w hw
  by_cases e1 : w = .isRef (.static Bundle.tN "UNASSIGNED_STACK" Bundle.steD)
  · rw [e1]; exact hU
  · by_cases e2 : w = .isRef (.static Bundle.tN "SUPPRESSED_SENTINEL" Bundle.listD)
    · rw [e2]; exact hN
    · by_cases e3 : w = .laysStatic Bundle.tN "UNASSIGNED_STACK" Bundle.steD
      · rw [e3]; exact lU
      · by_cases e4 : w = .laysStatic Bundle.tN "SUPPRESSED_SENTINEL" Bundle.listD
        · rw [e4]; exact lN
        · exact h1 w (List.mem_filter.mpr ⟨hw, by unfold vx_no; rw [decide_eq_true e1, decide_eq_true e2, decide_eq_true e3, decide_eq_true e4]; rfl⟩)
/-- where a static field lies, its class's statics cell in H -/
def vx_L (C n d : String) (A : Nat → Prop) (U : State) (H : Heap) : Prop := ∃ (c : ClassId) (k : Class) (i : Nat) (f : Field) (a : Nat) (cell : Cell), U.vm.findClass C = some c ∧ U.fieldFound? C n d = some (c, k, i, f) ∧ f.isStatic = true ∧ k.statics = some a ∧ H[a]? = some cell ∧ cell.vm.isStatics = true ∧ cell.cls = c ∧ f.slot < cell.slots.size ∧ k.staticTypes[f.slot]? = some f.type ∧ ¬ A a
theorem vx_L.moved {C n d : String} {A : Nat → Prop} {u U : State} {H : Heap} (hvm : u.vm.Alike U.vm) (h : vx_L C n d A u H) : vx_L C n d A U H := by
  obtain ⟨c, k, i, f, a, cell, h1, h2, h3, h4, h5, h6, h7, h8, h9, h10⟩ := h
  obtain ⟨k', hi', he⟩ := State.fieldFound?_setVm hvm h2
  exact ⟨c, k', i, f, a, cell, by rw [hvm.findClass]; exact h1, hi', h3, by rw [he]; exact h4, h5, h6, h7, h8, by rw [he]; exact h9, h10⟩
theorem vx_L.kept {C n d : String} {A : Nat → Prop} {U : State} {H H1 : Heap} (h : vx_L C n d A U H) (hq : ∀ a : Nat, a < H.size → ¬ A a → H1[a]? = H[a]?) : vx_L C n d A U H1 := by
  obtain ⟨c, k, i, f, a, cell, h1, h2, h3, h4, h5, h6, h7, h8, h9, h10⟩ := h
  exact ⟨c, k, i, f, a, cell, h1, h2, h3, h4, by rw [hq a (Array.getElem?_eq_some_iff.mp h5).1 h10]; exact h5, h6, h7, h8, h9, h10⟩
theorem vx_L.narrow {C n d : String} {A B : Nat → Prop} {U : State} {H : Heap} (h : vx_L C n d A U H) (hAB : ∀ q, B q → A q) : vx_L C n d B U H := by
  obtain ⟨c, k, i, f, a, cell, h1, h2, h3, h4, h5, h6, h7, h8, h9, h10⟩ := h
  exact ⟨c, k, i, f, a, cell, h1, h2, h3, h4, h5, h6, h7, h8, h9, fun z => h10 (hAB _ z)⟩
theorem vx_L.word {C n d : String} {A : Nat → Prop} {s : State} {args : Array Value} (h : vx_L C n d A s s.heap) : (Cond.laysStatic C n d).before args s = true := by
  obtain ⟨c, k, i, f, a, cell, h1, h2, h3, h4, h5, h6, h7, h8, h9, -⟩ := h
  show (Cond.laysStatic C n d).holds args s none s [] = true
  exact Cond.laysStatic_of h1 h2 h3 h4 h5 h6 h7 h8 h9
/-- .. and what it holds: null or some reference -/
def vx_Zq (C n d : String) (A : Nat → Prop) (U : State) (H : Heap) : Prop := va_Zq C n d A U H ∧ vx_L C n d A U H
theorem vx_Zq.moved {C n d : String} {A : Nat → Prop} {u U : State} {H : Heap} (hvm : u.vm.Alike U.vm) (h : vx_Zq C n d A u H) : vx_Zq C n d A U H := ⟨va_Zq.moved hvm h.1, vx_L.moved hvm h.2⟩
theorem vx_Zq.kept {C n d : String} {A : Nat → Prop} {U : State} {H H1 : Heap} (h : vx_Zq C n d A U H) (hq : ∀ a : Nat, a < H.size → ¬ A a → H1[a]? = H[a]?) : vx_Zq C n d A U H1 := ⟨va_Zq.kept h.1 hq, vx_L.kept h.2 hq⟩
theorem vx_Zq.narrow {C n d : String} {A B : Nat → Prop} {U : State} {H : Heap} (h : vx_Zq C n d A U H) (hAB : ∀ q, B q → A q) : vx_Zq C n d B U H := ⟨va_Zq.narrow h.1 hAB, vx_L.narrow h.2 hAB⟩
theorem vx_Zqof {args : Array Value} {s : State} {C n d : String} {A : Nat → Prop} (hl : (Cond.laysStatic C n d).before args s = true) (hini : (Cond.initialized C).before args s = true) (h : (Cond.isRef (.static C n d)).before args s = true) (hA : ∀ a : Nat, a < s.heap.size → ¬ A a) : vx_Zq C n d A s s.heap := by
  refine ⟨va_Zqof hl hini h hA, ?_⟩
  obtain ⟨c, k, i, f, a, cell, h1, h2, h3, h4, h5, h6, h7, h8, h9⟩ := Cond.laysStatic_spec hl
  exact ⟨c, k, i, f, a, cell, h1, h2, h3, h4, h5, h6, h7, h8, h9, hA a (Array.getElem?_eq_some_iff.mp h5).1⟩
theorem vx_isRef {C n d : String} {v : Value} {A : Nat → Prop} {s : State} {args : Array Value} (h : va_Z C n d v A s s.heap) (hv : v.isRef = true) : (Cond.isRef (.static C n d)).before args s = true := by
  obtain ⟨cf, kf, fi, f, a, cell, h1, h2, h3, h4, h5, h6, h7, -⟩ := h
  have he : (Term.static C n d).eval args s none [] s = some v := by
    simp [Term.eval, State.fieldNamed?, h1, h2, h4, h5, h6, h7]
  simp only [Cond.before, Cond.holds, Cond.value, he]
  cases v <;> simp_all [Value.isRef]
theorem vx_isRefq {C n d : String} {A : Nat → Prop} {s : State} {args : Array Value} (h : va_Zq C n d A s s.heap) : (Cond.isRef (.static C n d)).before args s = true := by
  rcases h with h | ⟨t, h⟩
  · exact vx_isRef h rfl
  · exact vx_isRef h rfl
/-- the same frame, seen from here: as if the method were called anew in this heap -/
theorem vx_rebase {T : State} (X : Stand p l e R s m args below meth c T locs cells slots) {R' : Room} (hf : R'.frames ≤ R.frames) (hl : R'.locals ≤ R.locals) (hc : cells + R'.cells ≤ R.cells) (hs : slots + R'.slots ≤ R.slots) :
    Stand p l e R' ((T.setVm s.vm).setFrames (.invoking m args :: below)) m args below meth c T [] 0 0 := by
  have htop : (T.setVm s.vm).topJava?.isSome := X.here.top
  have hF : ((T.setVm s.vm).setFrames (.invoking m args :: below)).frames = .invoking m args :: below := State.frames_setFrames _ (State.cur_lt_of_top htop)
  obtain ⟨g₀, hg0⟩ := Option.isSome_iff_exists.mp htop
  obtain ⟨r, hr⟩ := State.topJava?_eq_some.mp hg0
  have hl9 : e.platform.stackLimits (T.setVm s.vm).me = e.platform.stackLimits s.me := X.limits
  have hb9 : (T.setVm s.vm).me.stackBytes = s.me.stackBytes := X.bytes
  refine ⟨X.admits, X.cas, X.clock, hF, ?_, X.hears, X.method, X.code, X.here, X.tail, X.warmed, ?_, ?_, ?_⟩
  · have h := X.room
    have hU : ((T.setVm s.vm).setFrames (.invoking m args :: below)).localsInUse = s.localsInUse := by
      rw [State.localsInUse_invoking hF (meth := meth) (c := c) X.method X.code, State.localsInUse_invoking X.frames X.method X.code]
    simp only [State.hasRoom, Bool.and_eq_true, decide_eq_true_eq] at h ⊢
    obtain ⟨⟨⟨⟨h1, h2, h3, h4, h5, h6⟩, h7⟩, h8⟩, h9⟩ := h
    rw [X.frames, List.length_cons] at h2 h3
    have q1 := X.heapSize
    have q2 := X.used
    simp only [hF, hU, List.length_cons, State.stackLimits_setFrames, State.stackBytes_setFrames, hl9, hb9]
    refine ⟨⟨⟨⟨by omega, by omega, by omega, by omega, by omega, h6⟩, ?_⟩, ?_⟩, X.book⟩
    · show T.heap.size + R'.cells ≤ e.platform.maxCells
      omega
    · show T.slotsUsed + R'.slots ≤ e.platform.maxSlots
      omega
  · rw [State.stackLimits_setFrames]; rfl
  · rw [State.stackBytes_setFrames]; rfl
  · refine ⟨?_, Nat.le_refl _, Nat.le_refl _, ?_, ?_, fun a c9 h9 => ⟨c9, h9, rfl, rfl, fun _ _ => rfl⟩⟩
    · obtain ⟨t, ht, -⟩ := State.frames_cons hr
      show T.setVm s.vm = { ((T.setVm s.vm).setFrames (.invoking m args :: below)).setFrames (T.setVm s.vm).frames with heap := T.heap, slotsUsed := T.slotsUsed }
      rw [State.setFrames_setFrames, State.setFrames_self ht]
      rfl
    · show T.slotsUsed = T.slotsUsed + ((T.heap.toList.drop T.heap.size).map (·.slots.size)).sum
      rw [List.drop_eq_nil_of_le (Nat.le_of_eq Array.length_toList)]
      rfl
    · show ((T.heap.toList.drop T.heap.size).map (·.slots.size)).sum ≤ 0
      rw [List.drop_eq_nil_of_le (Nat.le_of_eq Array.length_toList)]
      exact Nat.le_refl _
/-- 'throw new E()': new; dup; invokespecial; athrow -/
theorem vx_throw0 {cc : ByteArray} {pc : Nat} (hexec : p.tables.exec = Jvm.exec) (hb : c.code = cc) (hl : l.stackTraces = false) {own cls : String} {names : List String} {ik ic mc ms : Nat} {A : Nat → Prop}
    (hown : s.vm.findClass own = some m.cls) (hcls : Bundle.fit cls = true) (hnames : ∀ n ∈ names, Bundle.fit n = true)
    (hk : (Cond.classLink own ik cls).before args s = true) (hini : (Cond.initialized cls).before args s = true) (hat : ∀ w ∈ vx_at0 own ic cls names, w.before args s = true)
    (hgood : ∀ w ∈ Cond.classLink own ik cls :: Cond.initialized cls :: vx_at0 own ic cls names, vx_ot w = true)
    (hU : vx_Zq Bundle.tN "UNASSIGNED_STACK" Bundle.steD A s s.heap) (hN : vx_Zq Bundle.tN "SUPPRESSED_SENTINEL" Bundle.listD A s s.heap) (hS : va_S A s.heap H locs) (hsize : ls.size = c.maxLocals)
    (d0 : decode cc pc = .ok (.new ik, 3)) (d3 : decode cc (pc + 3) = .ok (.dup, 1)) (d4 : decode cc (pc + 4) = .ok (.invokespecial ic, 3)) (d7 : decode cc (pc + 7) = .ok (.athrow, 1))
    (hout : ∀ x ∈ c.exceptionTable.toList, covers x (pc + 7) = false)
    (hRframes : names.length + 3 < R.frames) (hRlocals : (rest.map fun v => v.category).sum + (13 * (names.length + 1) + 42) ≤ R.locals) (hRcells : cells + 1 ≤ R.cells) (hRslots : slots + 6 ≤ R.slots) (hlocks : meth.locks = false)
    (hx : ∀ t : State, s.vm.Alike t.vm → H.size ≤ t.heap.size → (∀ q : Nat, q < H.size → t.heap[q]? = H[q]?) → XC cls s t)
    (hf : ∀ z ∈ locs, free z.base) (hc : cells + 1 ≤ mc) (hs : slots + 6 ≤ ms) :
    W p l e R s m args below meth c H locs cells slots (vx_MQ below Qc XC args s mc ms free) (F0 m pc ls rest) := by
  intro T hT X
  have htr : e.platform.stackTraces = false := (show e.platform.stackTraces = l.stackTraces by rw [X.admits.platform]).trans hl
  have Y := vx_rebase X (R' := { frames := R.frames, locals := R.locals, cells := 1, slots := 6 }) (Nat.le_refl _) (Nat.le_refl _) hRcells hRslots
  obtain ⟨s', hA⟩ : ∃ z, z = (T.setVm s.vm).setFrames (.invoking m args :: below) := ⟨_, rfl⟩
  rw [← hA] at Y
  have hvm : s'.vm = s.vm := by rw [hA]; rfl
  have hhp : s'.heap = H := by rw [hA]; exact hT
  have hW0 : s.WarmedH s'.vm := by rw [hvm]; exact State.WarmedH.refl s
  have hat' : ∀ w ∈ vx_at0 own ic cls names, w.before args s' = true := fun w hw => vx_ot_at hW0 hvm.symm (hgood w (List.mem_cons_of_mem _ (List.mem_cons_of_mem _ hw))) (hat w hw)
  have hk' : (Cond.classLink own ik cls).before args s' = true := vx_ot_at hW0 hvm.symm (hgood _ List.mem_cons_self) hk
  have hini' : (Cond.initialized cls).before args s' = true := vx_ot_at hW0 hvm.symm (hgood _ (List.mem_cons_of_mem _ List.mem_cons_self)) hini
  have hU' : vx_Zq Bundle.tN "UNASSIGNED_STACK" Bundle.steD A s' s'.heap := by rw [hhp]; exact vx_Zq.moved hW0.alike (hU.kept hS.2.1)
  have hN' : vx_Zq Bundle.tN "SUPPRESSED_SENTINEL" Bundle.listD A s' s'.heap := by rw [hhp]; exact vx_Zq.moved hW0.alike (hN.kept hS.2.1)
  have h : ∀ w ∈ Bundle.ownAtoms0 own ic cls names, w.before args s' = true := vx_own hat' (vx_isRefq hU'.1) (vx_isRefq hN'.1) hU'.2.word hN'.2.word
  have hown' : s'.vm.findClass own = some m.cls := by rw [hvm]; exact hown
  have hins : (Cond.instantiable cls 6).before args s' = true := h _ (by simp [Bundle.ownAtoms0])
  obtain ⟨vm₁, cX, kX, hfX, hkX, -, -, X₁, st1⟩ := Y.newCold hexec (own := own) (C := cls) (index := ik) (n := 6) hown' hk' hins hini'
    (g := F0 m pc ls rest) rfl (by rw [hb]; exact d0) (Nat.le_refl _) (Nat.le_refl _)
  generalize hT1 : (T.setVm vm₁).pushCell { cls := cX, slots := kX.instanceTypes.map defaultValue, vm := .none } = T1 at X₁ st1
  have hcat : (Value.ref T.heap.size).category = 1 := rfl
  have hcellA : T1.heap[T.heap.size]? = some (freshCell cX kX) := by rw [← hT1]; exact State.heap_pushCell_size _ _
  have d3' : decode c.code (pc + 3) = .ok (.dup, 1) := by rw [hb]; exact d3
  obtain ⟨U, hsteps, hrun, hend, hW, hsame, ce, hce, hO⟩ := X₁.ctorThrow0 hexec htr (own := own) (cls := cls) (names := names) (ic := ic) hown' hcls hnames h (fun x hx => nomatch hx) hfX hkX hcellA (by rw [hhp, hT]; exact Nat.le_refl _)
    (g := { method := m, pc := pc + 4, locals := ls, stack := .ref T.heap.size :: .ref T.heap.size :: rest, locked := none }) rfl hsize rfl rfl (rest := rest) rfl
    (by rw [hb]; exact d4) (by rw [hb]; exact d7) hout hRframes (by simp only [List.map_cons, List.sum_cons, hcat]; omega) hlocks
  obtain ⟨f1, f2⟩ := vx_frame hsame
  rw [hhp] at f1 f2
  have hWs : s.WarmedH U.vm := State.WarmedH.trans hW0 hW
  have hcl : s.vm.findClass cls = some ce.cls := by
    have h9 := hO.cls
    rw [hvm] at h9
    exact h9
  have hall : s.sameButNew ({ U with vm := s.vm } : State) locs mc ms := by
    subst hA
    obtain ⟨e1, e2⟩ := hsame
    rw [State.setFrames_setFrames] at e1
    have h2 : (T.setVm s.vm).sameButNew ({ U with vm := s.vm } : State) [] (0 + 1) (0 + 6) := ⟨e1, e2⟩
    have h3 := X.same.trans h2
    rw [List.append_nil] at h3
    exact h3.mono hc hs
  refine ⟨U, ?_, .threw T.heap.size, hrun, hend, Or.inr ⟨T.heap.size, rfl, cls, ce, locs, hx U hWs.alike f1 (fun q hq => f2 q hq (fun z hz => nomatch hz)), hce, hO.vm, hcl, hWs, hall, hf⟩⟩
  refine st1 _ ?_
  show Steps p.tables e below (T1.setTop { method := m, pc := pc + 3, locals := ls, stack := .ref T.heap.size :: rest, locked := none }) _
  jvm_step X₁.here [X₁.here.top, hexec, d3', Value.category]
  exact hsteps
/-- 'throw new E("text")': new; dup; ldc; invokespecial; athrow -/
theorem vx_throwS {cc : ByteArray} {pc : Nat} (hexec : p.tables.exec = Jvm.exec) (hb : c.code = cc) (hl : l.stackTraces = false) {own cls text : String} {names : List String} {ik is ic mc ms sa : Nat} {A : Nat → Prop}
    (hown : s.vm.findClass own = some m.cls) (hcls : Bundle.fit cls = true) (hnames : ∀ n ∈ names, Bundle.fit n = true)
    (hk : (Cond.classLink own ik cls).before args s = true) (hini : (Cond.initialized cls).before args s = true) (hstr : vk_R own is text sa s) (hat : ∀ w ∈ vx_atS own ic cls names, w.before args s = true)
    (hgood : ∀ w ∈ Cond.classLink own ik cls :: Cond.initialized cls :: vx_atS own ic cls names, vx_ot w = true)
    (hU : vx_Zq Bundle.tN "UNASSIGNED_STACK" Bundle.steD A s s.heap) (hN : vx_Zq Bundle.tN "SUPPRESSED_SENTINEL" Bundle.listD A s s.heap) (hS : va_S A s.heap H locs) (hsize : ls.size = c.maxLocals)
    (d0 : decode cc pc = .ok (.new ik, 3)) (d3 : decode cc (pc + 3) = .ok (.dup, 1)) (d4 : decode cc (pc + 4) = .ok (.ldc is, 2)) (d6 : decode cc (pc + 6) = .ok (.invokespecial ic, 3)) (d9 : decode cc (pc + 9) = .ok (.athrow, 1))
    (hout : ∀ x ∈ c.exceptionTable.toList, covers x (pc + 9) = false)
    (hRframes : names.length + 3 < R.frames) (hRlocals : (rest.map fun v => v.category).sum + (13 * (names.length + 1) + 43) ≤ R.locals) (hRcells : cells + 1 ≤ R.cells) (hRslots : slots + 6 ≤ R.slots) (hlocks : meth.locks = false)
    (hx : ∀ t : State, s.vm.Alike t.vm → H.size ≤ t.heap.size → (∀ q : Nat, q < H.size → t.heap[q]? = H[q]?) → XC cls s t)
    (hf : ∀ z ∈ locs, free z.base) (hc : cells + 1 ≤ mc) (hs : slots + 6 ≤ ms) :
    W p l e R s m args below meth c H locs cells slots (vx_MQ below Qc XC args s mc ms free) (F0 m pc ls rest) := by
  intro T hT X
  have htr : e.platform.stackTraces = false := (show e.platform.stackTraces = l.stackTraces by rw [X.admits.platform]).trans hl
  have Y := vx_rebase X (R' := { frames := R.frames, locals := R.locals, cells := 1, slots := 6 }) (Nat.le_refl _) (Nat.le_refl _) hRcells hRslots
  obtain ⟨s', hA⟩ : ∃ z, z = (T.setVm s.vm).setFrames (.invoking m args :: below) := ⟨_, rfl⟩
  rw [← hA] at Y
  have hvm : s'.vm = s.vm := by rw [hA]; rfl
  have hhp : s'.heap = H := by rw [hA]; exact hT
  have hW0 : s.WarmedH s'.vm := by rw [hvm]; exact State.WarmedH.refl s
  have hat' : ∀ w ∈ vx_atS own ic cls names, w.before args s' = true := fun w hw => vx_ot_at hW0 hvm.symm (hgood w (List.mem_cons_of_mem _ (List.mem_cons_of_mem _ hw))) (hat w hw)
  have hk' : (Cond.classLink own ik cls).before args s' = true := vx_ot_at hW0 hvm.symm (hgood _ List.mem_cons_self) hk
  have hini' : (Cond.initialized cls).before args s' = true := vx_ot_at hW0 hvm.symm (hgood _ (List.mem_cons_of_mem _ List.mem_cons_self)) hini
  have hU' : vx_Zq Bundle.tN "UNASSIGNED_STACK" Bundle.steD A s' s'.heap := by rw [hhp]; exact vx_Zq.moved hW0.alike (hU.kept hS.2.1)
  have hN' : vx_Zq Bundle.tN "SUPPRESSED_SENTINEL" Bundle.listD A s' s'.heap := by rw [hhp]; exact vx_Zq.moved hW0.alike (hN.kept hS.2.1)
  have h : ∀ w ∈ Bundle.ownAtoms own ic cls names, w.before args s' = true := vx_own hat' (vx_isRefq hU'.1) (vx_isRefq hN'.1) hU'.2.word hN'.2.word
  have hown' : s'.vm.findClass own = some m.cls := by rw [hvm]; exact hown
  have hins : (Cond.instantiable cls 6).before args s' = true := h _ (by simp [Bundle.ownAtoms])
  obtain ⟨vm₁, cX, kX, hfX, hkX, -, -, X₁, st1⟩ := Y.newCold hexec (own := own) (C := cls) (index := ik) (n := 6) hown' hk' hins hini'
    (g := F0 m pc ls rest) rfl (by rw [hb]; exact d0) (Nat.le_refl _) (Nat.le_refl _)
  generalize hT1 : (T.setVm vm₁).pushCell { cls := cX, slots := kX.instanceTypes.map defaultValue, vm := .none } = T1 at X₁ st1
  have hcat : (Value.ref T.heap.size).category = 1 := rfl
  have hcellA : T1.heap[T.heap.size]? = some (freshCell cX kX) := by rw [← hT1]; exact State.heap_pushCell_size _ _
  have d3' : decode c.code (pc + 3) = .ok (.dup, 1) := by rw [hb]; exact d3
  have d4' : decode c.code (pc + 4) = .ok (.ldc is, 2) := by rw [hb]; exact d4
  have hstr' : vk_R own is text sa s' := vk_R.warm hW0 hstr
  obtain ⟨U, hsteps, hrun, hend, hW, hsame, ce, hce, hO⟩ := X₁.ctorThrowS hexec htr (own := own) (cls := cls) (names := names) (ic := ic) hown' hcls hnames h (fun x hx => nomatch hx) hfX hkX hcellA (by rw [hhp, hT]; exact Nat.le_refl _) (msg := .ref sa) rfl
    (g := { method := m, pc := pc + 6, locals := ls, stack := .ref sa :: .ref T.heap.size :: .ref T.heap.size :: rest, locked := none }) rfl hsize rfl rfl (rest := rest) rfl
    (by rw [hb]; exact d6) (by rw [hb]; exact d9) hout hRframes (by simp only [List.map_cons, List.sum_cons, hcat]; omega) hlocks
  obtain ⟨f1, f2⟩ := vx_frame hsame
  rw [hhp] at f1 f2
  have hWs : s.WarmedH U.vm := State.WarmedH.trans hW0 hW
  have hcl : s.vm.findClass cls = some ce.cls := by
    have h9 := hO.cls
    rw [hvm] at h9
    exact h9
  have hall : s.sameButNew ({ U with vm := s.vm } : State) locs mc ms := by
    subst hA
    obtain ⟨e1, e2⟩ := hsame
    rw [State.setFrames_setFrames] at e1
    have h2 : (T.setVm s.vm).sameButNew ({ U with vm := s.vm } : State) [] (0 + 1) (0 + 6) := ⟨e1, e2⟩
    have h3 := X.same.trans h2
    rw [List.append_nil] at h3
    exact h3.mono hc hs
  refine ⟨U, ?_, .threw T.heap.size, hrun, hend, Or.inr ⟨T.heap.size, rfl, cls, ce, locs, hx U hWs.alike f1 (fun q hq => f2 q hq (fun z hz => nomatch hz)), hce, hO.vm, hcl, hWs, hall, hf⟩⟩
  refine st1 _ ?_
  show Steps p.tables e below (T1.setTop { method := m, pc := pc + 3, locals := ls, stack := .ref T.heap.size :: rest, locked := none }) _
  jvm_step X₁.here [X₁.here.top, hexec, d3', Value.category]
  exact X₁.ldcString hexec (own := own) (text := text) (index := is) (a := sa) hown' hstr'.1 hstr'.2
    (g := { method := m, pc := pc + 4, locals := ls, stack := .ref T.heap.size :: .ref T.heap.size :: rest, locked := none }) rfl d4' _ hsteps
/-- 'throw new E("text")', the text by a wide index -/
theorem vx_throwSW {cc : ByteArray} {pc : Nat} (hexec : p.tables.exec = Jvm.exec) (hb : c.code = cc) (hl : l.stackTraces = false) {own cls text : String} {names : List String} {ik is ic mc ms sa : Nat} {A : Nat → Prop}
    (hown : s.vm.findClass own = some m.cls) (hcls : Bundle.fit cls = true) (hnames : ∀ n ∈ names, Bundle.fit n = true)
    (hk : (Cond.classLink own ik cls).before args s = true) (hini : (Cond.initialized cls).before args s = true) (hstr : vk_R own is text sa s) (hat : ∀ w ∈ vx_atS own ic cls names, w.before args s = true)
    (hgood : ∀ w ∈ Cond.classLink own ik cls :: Cond.initialized cls :: vx_atS own ic cls names, vx_ot w = true)
    (hU : vx_Zq Bundle.tN "UNASSIGNED_STACK" Bundle.steD A s s.heap) (hN : vx_Zq Bundle.tN "SUPPRESSED_SENTINEL" Bundle.listD A s s.heap) (hS : va_S A s.heap H locs) (hsize : ls.size = c.maxLocals)
    (d0 : decode cc pc = .ok (.new ik, 3)) (d3 : decode cc (pc + 3) = .ok (.dup, 1)) (d4 : decode cc (pc + 4) = .ok (.ldc_w is, 3)) (d7 : decode cc (pc + 7) = .ok (.invokespecial ic, 3)) (d10 : decode cc (pc + 10) = .ok (.athrow, 1))
    (hout : ∀ x ∈ c.exceptionTable.toList, covers x (pc + 10) = false)
    (hRframes : names.length + 3 < R.frames) (hRlocals : (rest.map fun v => v.category).sum + (13 * (names.length + 1) + 43) ≤ R.locals) (hRcells : cells + 1 ≤ R.cells) (hRslots : slots + 6 ≤ R.slots) (hlocks : meth.locks = false)
    (hx : ∀ t : State, s.vm.Alike t.vm → H.size ≤ t.heap.size → (∀ q : Nat, q < H.size → t.heap[q]? = H[q]?) → XC cls s t)
    (hf : ∀ z ∈ locs, free z.base) (hc : cells + 1 ≤ mc) (hs : slots + 6 ≤ ms) :
    W p l e R s m args below meth c H locs cells slots (vx_MQ below Qc XC args s mc ms free) (F0 m pc ls rest) := by
  intro T hT X
  have htr : e.platform.stackTraces = false := (show e.platform.stackTraces = l.stackTraces by rw [X.admits.platform]).trans hl
  have Y := vx_rebase X (R' := { frames := R.frames, locals := R.locals, cells := 1, slots := 6 }) (Nat.le_refl _) (Nat.le_refl _) hRcells hRslots
  obtain ⟨s', hA⟩ : ∃ z, z = (T.setVm s.vm).setFrames (.invoking m args :: below) := ⟨_, rfl⟩
  rw [← hA] at Y
  have hvm : s'.vm = s.vm := by rw [hA]; rfl
  have hhp : s'.heap = H := by rw [hA]; exact hT
  have hW0 : s.WarmedH s'.vm := by rw [hvm]; exact State.WarmedH.refl s
  have hat' : ∀ w ∈ vx_atS own ic cls names, w.before args s' = true := fun w hw => vx_ot_at hW0 hvm.symm (hgood w (List.mem_cons_of_mem _ (List.mem_cons_of_mem _ hw))) (hat w hw)
  have hk' : (Cond.classLink own ik cls).before args s' = true := vx_ot_at hW0 hvm.symm (hgood _ List.mem_cons_self) hk
  have hini' : (Cond.initialized cls).before args s' = true := vx_ot_at hW0 hvm.symm (hgood _ (List.mem_cons_of_mem _ List.mem_cons_self)) hini
  have hU' : vx_Zq Bundle.tN "UNASSIGNED_STACK" Bundle.steD A s' s'.heap := by rw [hhp]; exact vx_Zq.moved hW0.alike (hU.kept hS.2.1)
  have hN' : vx_Zq Bundle.tN "SUPPRESSED_SENTINEL" Bundle.listD A s' s'.heap := by rw [hhp]; exact vx_Zq.moved hW0.alike (hN.kept hS.2.1)
  have h : ∀ w ∈ Bundle.ownAtoms own ic cls names, w.before args s' = true := vx_own hat' (vx_isRefq hU'.1) (vx_isRefq hN'.1) hU'.2.word hN'.2.word
  have hown' : s'.vm.findClass own = some m.cls := by rw [hvm]; exact hown
  have hins : (Cond.instantiable cls 6).before args s' = true := h _ (by simp [Bundle.ownAtoms])
  obtain ⟨vm₁, cX, kX, hfX, hkX, -, -, X₁, st1⟩ := Y.newCold hexec (own := own) (C := cls) (index := ik) (n := 6) hown' hk' hins hini'
    (g := F0 m pc ls rest) rfl (by rw [hb]; exact d0) (Nat.le_refl _) (Nat.le_refl _)
  generalize hT1 : (T.setVm vm₁).pushCell { cls := cX, slots := kX.instanceTypes.map defaultValue, vm := .none } = T1 at X₁ st1
  have hcat : (Value.ref T.heap.size).category = 1 := rfl
  have hcellA : T1.heap[T.heap.size]? = some (freshCell cX kX) := by rw [← hT1]; exact State.heap_pushCell_size _ _
  have d3' : decode c.code (pc + 3) = .ok (.dup, 1) := by rw [hb]; exact d3
  have d4' : decode c.code (pc + 4) = .ok (.ldc_w is, 3) := by rw [hb]; exact d4
  have hstr' : vk_R own is text sa s' := vk_R.warm hW0 hstr
  obtain ⟨U, hsteps, hrun, hend, hW, hsame, ce, hce, hO⟩ := X₁.ctorThrowS hexec htr (own := own) (cls := cls) (names := names) (ic := ic) hown' hcls hnames h (fun x hx => nomatch hx) hfX hkX hcellA (by rw [hhp, hT]; exact Nat.le_refl _) (msg := .ref sa) rfl
    (g := { method := m, pc := pc + 7, locals := ls, stack := .ref sa :: .ref T.heap.size :: .ref T.heap.size :: rest, locked := none }) rfl hsize rfl rfl (rest := rest) rfl
    (by rw [hb]; exact d7) (by rw [hb]; exact d10) hout hRframes (by simp only [List.map_cons, List.sum_cons, hcat]; omega) hlocks
  obtain ⟨f1, f2⟩ := vx_frame hsame
  rw [hhp] at f1 f2
  have hWs : s.WarmedH U.vm := State.WarmedH.trans hW0 hW
  have hcl : s.vm.findClass cls = some ce.cls := by
    have h9 := hO.cls
    rw [hvm] at h9
    exact h9
  have hall : s.sameButNew ({ U with vm := s.vm } : State) locs mc ms := by
    subst hA
    obtain ⟨e1, e2⟩ := hsame
    rw [State.setFrames_setFrames] at e1
    have h2 : (T.setVm s.vm).sameButNew ({ U with vm := s.vm } : State) [] (0 + 1) (0 + 6) := ⟨e1, e2⟩
    have h3 := X.same.trans h2
    rw [List.append_nil] at h3
    exact h3.mono hc hs
  refine ⟨U, ?_, .threw T.heap.size, hrun, hend, Or.inr ⟨T.heap.size, rfl, cls, ce, locs, hx U hWs.alike f1 (fun q hq => f2 q hq (fun z hz => nomatch hz)), hce, hO.vm, hcl, hWs, hall, hf⟩⟩
  refine st1 _ ?_
  show Steps p.tables e below (T1.setTop { method := m, pc := pc + 3, locals := ls, stack := .ref T.heap.size :: rest, locked := none }) _
  jvm_step X₁.here [X₁.here.top, hexec, d3', Value.category]
  exact X₁.ldcStringW hexec (own := own) (text := text) (index := is) (a := sa) hown' hstr'.1 hstr'.2
    (g := { method := m, pc := pc + 4, locals := ls, stack := .ref T.heap.size :: .ref T.heap.size :: rest, locked := none }) rfl d4' _ hsteps
end Ends
section Bodies
variable {l : Launch}
theorem vx_ofW {y : MethodName} {ws ws' : List Cond} {rm : Room} {Pc : Array Value → State → Prop} {Qc : Array Value → State → Outcome → State → Prop} {XC : String → State → State → Prop} {mc ms : Nat} {free : Addr → Prop} {cc : ByteArray} {maxL : Nat} {ret : Option FieldType}
    (hy : plainName y.cls = true) (hw : ws = Cond.code y cc maxL ret :: ws')
    (body : ∀ p e s m args below meth c s₁, BodyLoose p l y (headSpec ws rm) cc maxL ret e s m args below meth c s₁ → c.maxLocals = maxL → (∀ x ∈ c.exceptionTable.toList, False) → Pc args s →
      W p l e (headSpec ws rm).room s m args below meth c s.heap [] 0 0 (vx_MQ below Qc XC args s mc ms free) (entryFrame m args maxL)) : vx_Met l y ws rm Pc Qc XC mc ms free := by
  refine MetFree.of_bodyS (code := cc) (maxLocals := maxL) (ret := ret) hy ?_ ?_
  · intro args s m h hn
    obtain ⟨meth, c, h1, h2, h3, h4, h5, h6, -, -⟩ := Cond.code_spec hn (atoms_spec (ws := ws) h _ (by rw [hw]; exact List.mem_cons_self))
    exact ⟨meth, c, h1, h2, h3, h4, h5, h6⟩
  · intro p e s m args below meth c s₁ B hml hP _
    have hh0 : s₁.heap = s.heap := by rw [B.state]; rfl
    have ht : ∀ x ∈ c.exceptionTable.toList, False := by
      obtain ⟨meth9, c9, h1, h2, -, -, -, -, h7, -⟩ := Cond.code_spec B.named (atoms_spec (ws := ws) B.pre _ (by rw [hw]; exact List.mem_cons_self))
      cases Option.some.inj (h1.symm.trans B.method)
      cases Option.some.inj (h2.symm.trans (Stand.of_body B).code)
      intro x hx
      rw [Array.isEmpty_iff.mp h7] at hx
      cases hx
    obtain ⟨t, a1, o, b1, b2, b3⟩ := body p e s m args below meth c s₁ B hml ht hP s₁ hh0 (Stand.of_body B)
    exact ⟨t, o, a1, b1, b2, b3⟩
/-- the table of a body with handlers -/
theorem vx_table {p : Program} {x y : MethodName} {S : Spec} {cc bytes : ByteArray} {maxL maxL' : Nat} {ret ret' : Option FieldType} {e : Env} {s s₁ : State} {m : MethodId} {args : Array Value} {below : List Frame} {meth : Method} {c : Code} {hh : List (Nat × Nat × Nat × Nat)}
    (B : BodyLoose p l y S cc maxL ret e s m args below meth c s₁) (h : (Cond.codeWith y bytes maxL' ret' hh).before args s = true) : c.exceptionTable.toList = tableOf hh := by
  obtain ⟨m9, meth9, c9, hn9, h1, h2, -, -, h6, -⟩ := Cond.codeWith_spec h
  cases Option.some.inj (hn9.symm.trans B.named)
  cases Option.some.inj (h1.symm.trans B.method)
  cases Option.some.inj (h2.symm.trans (Stand.of_body B).code)
  rw [← h6, table_eq]
end Bodies
end VXA
/-! ===== END ===== -/
/-! ===== BEGIN a static call of a method with an exception table ===== -/
section VXS
variable {p : Program} {l : Launch} {e : Env} {R : Room} {s : State} {m : MethodId} {args : Array Value} {below : List Frame} {meth : Method} {c : Code} {T : State} {H : Heap} {locs : List Loc} {cells slots : Nat}
abbrev vx_CSW (R : Room) (s : State) (args : Array Value) (own : String) (index : Nat) (y : MethodName) (bytes : ByteArray) (maxL : Nat) (ret : Option FieldType) (hh : List (Nat × Nat × Nat × Nat)) (ws : List Cond) (rm : Room) (mc ms n : Nat) : Prop :=
  (rm.cells = mc ∧ rm.slots = ms ∧ rm.frames + 1 ≤ R.frames ∧ 8 + (maxL + 11) + rm.locals ≤ R.locals ∧ (∀ w ∈ ws, ∀ (a' : Array Value) (U : State), s.WarmedH U.vm → w.before a' U = true) ∧ Cond.codeWith y bytes maxL ret hh ∈ ws) ∧
  (Cond.codeWith y bytes maxL ret hh).before args s = true ∧ (Cond.initialized y.cls).before args s = true ∧ (y.cls ≠ "java/lang/invoke/MethodHandle" ∧ y.cls ≠ "java/lang/invoke/VarHandle") ∧
  (∀ sig, parseMethodDescriptor y.desc = some sig → n = sig.parameters.length) ∧ (Cond.methodLink own index y).before args s = true ∧ (Cond.static y).before args s = true
theorem vx_cwSW {own : String} {index maxL mc ms : Nat} {y : MethodName} {bytes : ByteArray} {ret : Option FieldType} {hh : List (Nat × Nat × Nat × Nat)} {Ts ws ws' : List Cond} {rm : Room} (n : Nat) (ht : ∀ w ∈ Ts, w.before args s = true) (hT : GoodIn Ts (va_wsS own index y ws)) (hw : ws = Cond.codeWith y bytes maxL ret hh :: ws') (hrc : rm.cells = mc) (hrs : rm.slots = ms)
    (hd : y.cls ≠ "java/lang/invoke/MethodHandle" ∧ y.cls ≠ "java/lang/invoke/VarHandle" ∧ (parseMethodDescriptor y.desc).map (fun d => d.parameters.length) = some n) (hR : rm.frames + 1 ≤ R.frames ∧ 8 + (maxL + 11) + rm.locals ≤ R.locals) :
    vx_CSW R s args own index y bytes maxL ret hh ws rm mc ms n := by
  have ok : ∀ w ∈ va_wsS own index y ws, w.before args s = true := fun w h => ht w (hT w h).1
  have hG : GoodIn Ts ws := fun w h => hT w (by unfold va_wsS; exact List.mem_append_right _ h)
  have hc : Cond.codeWith y bytes maxL ret hh ∈ ws := by rw [hw]; exact List.mem_cons_self
  refine ⟨⟨hrc, hrs, hR.1, hR.2, pay_in ht hG, hc⟩, ht _ (hG _ hc).1, ok _ (by simp [va_wsS]), ⟨hd.1, hd.2.1⟩, fun sig h => ?_, ok _ (by simp [va_wsS]), ok _ (by simp [va_wsS])⟩
  have h2 := hd.2.2
  rw [h] at h2
  exact (Option.some.inj h2).symm
theorem vx_callSW (X : Stand p l e R s m args below meth c T locs cells slots) (hexec : p.tables.exec = Jvm.exec) {own : String} {index : Nat} {y : MethodName} {bytes : ByteArray} {maxL : Nat} {ret : Option FieldType} {hh : List (Nat × Nat × Nat × Nat)}
    (hown : s.vm.findClass own = some m.cls) (hlink : (Cond.methodLink own index y).before args s = true) (hstat : (Cond.static y).before args s = true) (hinit : (Cond.initialized y.cls).before args s = true)
    (hcode : (Cond.codeWith y bytes maxL ret hh).before args s = true) (hy : y.cls ≠ "java/lang/invoke/MethodHandle" ∧ y.cls ≠ "java/lang/invoke/VarHandle")
    {W9 : Nat} {Pre : Pt → Array Value → Prop} {Post : Pt → Array Value → Option Value → Pt → Prop} (hK : Back l R p e below s args y 3 W9 Pre Post)
    {g : JFrame} (hg : g.method = m) (hsize : g.locals.size = c.maxLocals) {argsL rest : List Value} (hlen : ∀ sig, parseMethodDescriptor y.desc = some sig → argsL.length = sig.parameters.length)
    (hstack : g.stack = argsL.reverse ++ rest) (hW : 2 * g.monitorRoom + (rest.map fun v => v.category).sum ≤ W9) (hdg : decode c.code g.pc = .ok (.invokestatic index, 3))
    (hpre : ∀ vm₁, s.WarmedH vm₁ → Pre ⟨T.setVm vm₁, locs, cells, slots⟩ argsL.toArray) :
    ∃ (v : Option Value) (vm₁ : Vm) (B : Pt), s.WarmedH vm₁ ∧ Stand p l e R s m args below meth c B.U B.locs B.cells B.slots ∧ Post ⟨T.setVm vm₁, locs, cells, slots⟩ argsL.toArray v B ∧
      ∀ target, Steps p.tables e below (B.U.setTop { g with pc := g.pc + 3, stack := v.toList ++ rest }) target → Steps p.tables e below (T.setTop g) target := by
  obtain ⟨mk, methM, cM, hnamed, hmethM, -, -, -, -, -, -, hsigM⟩ := Cond.codeWith_spec hcode
  have hstatic : methM.isStatic = true := Cond.static_spec hnamed hmethM hstat
  obtain ⟨kP, hkP, -⟩ := className_of_methodNamed hnamed
  have hinitP : kP.init = .initialized := Cond.initialized_spec (findClass_of_methodNamed hnamed) hkP hinit
  obtain ⟨vm₁, X₁, hstep₁⟩ := X.invokestatic hexec hown hlink hnamed hmethM hstatic hkP hinitP hy (g := g) hg (argsL := argsL) (rest := rest) (hlen _ hsigM) hstack hdg
  obtain ⟨v, B, X', hpost, hsteps⟩ := hK m meth c ⟨T.setVm vm₁, locs, cells, slots⟩ { g with stack := rest } (.invokestatic index) mk argsL.toArray X₁ hg hsize hdg hW (X₁.named hnamed) (hpre vm₁ X₁.warmed)
  exact ⟨v, vm₁, B, X₁.warmed, X', hpost, fun target h => hstep₁ _ fun acts => by rw [doInvoke_state]; exact hsteps.trans h⟩
theorem vx_runSW {y : MethodName} {bytes cc : ByteArray} {maxL nL mc ms n index : Nat} {ret : Option FieldType} {hh : List (Nat × Nat × Nat × Nat)} {ws : List Cond} {rm : Room} {Pc : Array Value → State → Prop} {Qc : Array Value → State → Outcome → State → Prop} {free : Addr → Prop} {Ts : List Cond} {own : String} {As rest : List Value} {g : JFrame}
    (S : CallFix p m c cc nL s args Ts own) (hM : Met l y ws rm Pc Qc mc ms free) (cw : vx_CSW R s args own index y bytes maxL ret hh ws rm mc ms n) (hp : PreS s H Pc As)
    (hg : g.method = m) (hn : As.length = n) (hsize : g.locals.size = nL) (hstack : g.stack = As.reverse ++ rest) (hW : 2 * g.monitorRoom + (rest.map fun v => v.category).sum ≤ 8) (hdg : decode cc g.pc = .ok (.invokestatic index, 3)) (hf : cells + mc ≤ R.cells ∧ slots + ms ≤ R.slots) :
    va_Run p l e R s m args below meth c H locs cells slots mc ms g rest (Qc As.toArray) (free) := by
  obtain ⟨⟨hrc, hrs, hfr, hlo, hws, hcw⟩, hcode, hini, hy, hlen, hl, hstt⟩ := cw
  have hK : Back l R p e below s args y 3 8 (PreOf R mc ms Pc) (PostOf Qc mc ms free) := va_backW (hh := hh) (bytes := bytes) (maxL := maxL) (ret := ret) hM hp.1 hrc hrs hfr hlo hws hcw (fun a' U hW => word_at hW (Or.inl (by first | rfl | simp [Cond.onTables, Cond.keeps, Cond.steady])) hini)
  obtain ⟨hx, hb, hml, ho, -⟩ := S
  intro T hT X
  obtain ⟨v, vm₁, ⟨U', l2, c2, s2⟩, hW₁, X', ⟨g', mk, t, L, e1, e2, hq, h1, hL, h2, h3⟩, st⟩ := vx_callSW X hx (hh := hh) (bytes := bytes) (maxL := maxL) (ret := ret) ho hl hstt hini hcode hy hK hg (hsize.trans hml.symm) (argsL := As) (rest := rest) (fun sig h => hn.trans (hlen sig h)) hstack hW (by rw [hb]; exact hdg)
    (fun vm₁ hW₁ => ⟨hf.1, hf.2, hp.2 (T.setVm vm₁) hT hW₁⟩)
  dsimp only [Pt.U, Pt.locs, Pt.cells, Pt.slots] at X' e1 e2 h1 h2 h3 st
  subst h1; subst h2; subst h3
  exact ⟨v, (T.setVm vm₁).calling g' mk As.toArray, t, U', L, hT, X', hL, e1, e2, hq, st⟩
/-- not caught here, past rows that name other classes: it goes on to the caller -/
theorem vx_outP {p : Program} {l : Launch} {e : Env} {R : Room} {s : State} {m : MethodId} {args : Array Value} {below : List Frame} {meth : Method} {c : Code} {H : Heap} {locs : List Loc} {cells slots : Nat} {free : Addr → Prop} {ls : Array Slot} {rest : List Value} {Qc : Array Value → State → Outcome → State → Prop} {XC : String → State → State → Prop}
    {pc : Nat} {own E : String} {ce : Cell} {q : Addr} {mc ms : Nat} (hown : s.vm.findClass own = some m.cls) (hlocks : meth.locks = false)
    (hpass : ∀ z ∈ c.exceptionTable.toList, covers z pc = false ∨ (z.catchType ≠ 0 ∧ ∃ nm : String, (Cond.classLink own z.catchType nm).before args s = true ∧ va_Nc E nm s)) (hcell : H[q]? = some ce) (hv : ce.vm = .none) (hcl : s.vm.findClass E = some ce.cls)
    (hx : ∀ t : State, t.heap = H → s.vm.Alike t.vm → XC E s t) (hf : ∀ z ∈ locs, free z.base) (hc : cells ≤ mc) (hs : slots ≤ ms) :
    vx_W p l e R s m args below meth c H locs cells slots (vx_MQ below Qc XC args s mc ms free) (F0 m pc ls rest) q := by
  intro T hT X
  have hpl : e.platform.magicAccessors = ({} : Platform).magicAccessors := by rw [X.admits.platform]
  obtain ⟨vm', hW', X', st⟩ := X.outThrough hlocks q (g := F0 m pc ls rest) rfl rfl rfl (cell := ce) (by rw [hT]; exact hcell) (by rw [hv]; rfl)
    (by obtain ⟨k9, h9, -⟩ := Vm.findClass_spec hcl; exact ⟨k9, h9⟩) (fun z hz => by
      rcases hpass z hz with h | ⟨hz0, nm, hl1, hn1⟩
      · exact Or.inl h
      · obtain ⟨c6, hc6, hcl6⟩ := Cond.classLink_spec hown hl1 e.platform hpl
        obtain ⟨a8, b8, h1, h2, h3⟩ := hn1
        cases Option.some.inj (h1.symm.trans hcl)
        cases Option.some.inj (h2.symm.trans hc6)
        exact Or.inr ⟨hz0, _, hcl6, h3⟩)
  obtain ⟨g₀, hfr⟩ := X'.frames_eq
  have hcell9 : ((T.setVm vm').setFrames (.throwing q :: below)).heap[q]? = some ce := by
    show T.heap[q]? = some ce
    rw [hT]; exact hcell
  have hend : Ended ((T.setVm vm').setFrames (.throwing q :: below)) below (.threw q) := State.frames_setFrames _ (State.cur_lt_of_frames hfr)
  refine ⟨(T.setVm vm').setFrames (.throwing q :: below), ?_, .threw q, X'.here.running, hend, Or.inr ⟨q, rfl, E, ce, locs, hx _ hT (X'.ends _).1.alike, hcell9, hv, hcl, (X'.ends _).1, (X'.ends _).2.mono hc hs, hf⟩⟩
  rw [X.pushThrowing_eq]
  exact st
/-- a thing of a world lies in the heap -/
theorem vx_lt {D : va_G} {cl : List vw_C} {ws : va_W} {H1 : Heap} (h : va_P D cl ws H1) {k : Nat} {q : Nat × va_E} (hk : ws[k]? = some q) : q.1 < H1.size := (h k q hk).lt
end VXS
/-! ===== END ===== -/
/-! ===== BEGIN methods with a table of their own: called by a name, returning or throwing ===== -/
section VXH
/-! vx_backW, vx_callVX, vx_callSX, vx_callVW, vx_runVW, vx_runVX, vx_runSX, vx_ofWH follow the same proofs as their sisters above (Free/Laws.lean, Shelf42/LK1.lean); vx_outP calls Shelf42/NT130.lean (outThrough). -/
section
variable {l : Launch} {R : Room} {p : Program} {e : Env} {below : List Frame} {s : State} {sargs : Array Value} {y : MethodName} {len W9 : Nat}
theorem vx_backW {ws : List Cond} {rm : Room} {Pc : Array Value → State → Prop} {Qc : Array Value → State → Outcome → State → Prop} {XC : String → State → State → Prop} {mc ms : Nat} {free : Addr → Prop} {bytes : ByteArray} {maxL : Nat} {ret : Option FieldType} {hh : List (Nat × Nat × Nat × Nat)}
    (hM : vx_Met l y ws rm Pc Qc XC mc ms free) (hblind : FrameBlind Pc) (hrc : rm.cells = mc) (hrs : rm.slots = ms)
    (hframes : rm.frames + 1 ≤ R.frames) (hlocals : W9 + (maxL + 11) + rm.locals ≤ R.locals)
    (hws : ∀ w ∈ ws, ∀ a' U, s.WarmedH U.vm → w.before a' U = true) (hcode : Cond.codeWith y bytes maxL ret hh ∈ ws) (hinit : ∀ a' U, s.WarmedH U.vm → (Cond.initialized y.cls).before a' U = true) :
    vx_Back l R p e below s sargs y len W9 (PreOf R mc ms Pc) (PostOf Qc mc ms free) (vx_Post XC mc ms free) := by
  intro m meth c A g ig mk a X hg hsize hdg hW hn hp
  have h1 : (headSpec ws rm).pre.before a A.U = true := atoms_intro fun w hw => hws w hw _ _ X.warmed
  have h2 : (Cond.codeWith y bytes maxL ret hh).before a A.U = true := hws _ hcode _ _ X.warmed
  have h3 : (Cond.initialized y.cls).before a A.U = true := hinit _ _ X.warmed
  have h4 : A.cells + (headSpec ws rm).room.cells ≤ R.cells := by rw [show (headSpec ws rm).room.cells = mc from hrc]; exact hp.1
  have h5 : A.slots + (headSpec ws rm).room.slots ≤ R.slots := by rw [show (headSpec ws rm).room.slots = ms from hrs]; exact hp.2.1
  have hPc : Pc a (A.U.calling g mk a) := hblind _ _ _ _ hp.2.2
  obtain ⟨U, Ls, c0, s0⟩ := A
  dsimp only [Pt.U, Pt.locs, Pt.cells, Pt.slots] at h1 h2 h3 h4 h5 X hn hPc ⊢
  obtain ⟨m9, methY, cY, hn9, hmY, hcY, -, hlY, -⟩ := Cond.codeWith_spec h2
  cases Option.some.inj (hn9.symm.trans hn)
  obtain ⟨kY, hkY, -⟩ := className_of_methodNamed hn
  have hinitY : kY.init = .initialized := Cond.initialized_spec (findClass_of_methodNamed hn) hkY h3
  have h : At U g.method c below := by rw [hg]; exact X.here
  have hlocals9 : W9 + (maxL + 11) + (headSpec ws rm).room.locals ≤ R.locals := hlocals
  have happ : (headSpec ws rm).appliesLoose y e.platform (U.calling g mk a) = true :=
    Spec.appliesLoose_calling (g := g) h hdg hn hkY hinitY
      (X.room_calling (g := g) (R' := (headSpec ws rm).room) hsize hmY hcY hframes (by rw [hlY]; omega) h4 h5) h1
  obtain ⟨mid, hmid⟩ := h.above
  have hfr : (U.setTop g).frames = (.java g :: mid) ++ below := by rw [State.frames_setTop' g h.top, hmid]; rfl
  obtain ⟨o, s₂, hsteps, -, hend, hq⟩ := Steps.callFree hM p X.admits X.cas X.clock (acts := []) hfr happ hPc trivial
  have hq' : vx_Q Qc XC mc ms free a (U.calling g mk a) o s₂ := hq
  rw [State.frames_setTop' g h.top] at hend
  obtain ⟨g₀, hg0⟩ := Option.isSome_iff_exists.mp h.top
  obtain ⟨r, hr⟩ := State.topJava?_eq_some.mp hg0
  have hr' : (({ U with heap := s₂.heap, slotsUsed := s₂.slotsUsed } : State).setVm s₂.vm).frames = .java g₀ :: r := hr
  rcases hq' with ⟨hqc, L, hfe, hL⟩ | ⟨q, rfl, E, ce, L, hx, hce, hcv, hcl, hW₂, hsm, hL⟩
  · obtain ⟨⟨v, rfl⟩, hW₂, e2, q2, q3, q4, q5, q6⟩ := id hfe
    have e3 : s₂ = ({ (U.calling g mk a).setFrames s₂.frames with heap := s₂.heap, slotsUsed := s₂.slotsUsed } : State).setVm s₂.vm := by
      have : s₂ = ({ s₂ with vm := (U.calling g mk a).vm } : State).setVm s₂.vm := rfl
      rw [e2] at this
      exact this
    obtain ⟨c₂, i₂, len₂, hc₂, hd₂, hf₂⟩ := hend
    have hW' : U.WarmedH s₂.vm := hW₂
    have hcc : c₂ = c := by
      have h1 : s₂.code? g.method = U.code? g.method := by
        rw [State.code?_eq, State.code?_eq, hW'.alike.method?]
      exact Option.some.inj (hc₂.symm.trans (h1.trans h.code))
    subst hcc
    have hlen : len₂ = len := by rw [hdg] at hd₂; cases hd₂; rfl
    subst hlen
    have hs₂ : s₂ = (({ U with heap := s₂.heap, slotsUsed := s₂.slotsUsed } : State).setVm s₂.vm).setTop { g with pc := g.pc + len₂, stack := v.toList ++ g.stack } := by
      refine e3.trans ?_
      rw [hf₂, State.calling_eq h.top, State.setFrames_setFrames, State.setTop_of_frames _ hr', hr]
      rfl
    have hsame : U.sameButNew ({ U with heap := s₂.heap, slotsUsed := s₂.slotsUsed } : State) L mc ms := by
      refine ⟨?_, q2, q3, q4, q5, q6⟩
      obtain ⟨t, ht, -⟩ := State.frames_cons hr
      show ({ U with heap := s₂.heap, slotsUsed := s₂.slotsUsed } : State) = { U.setFrames U.frames with heap := s₂.heap, slotsUsed := s₂.slotsUsed }
      rw [State.setFrames_self ht]
    subst hg
    refine Or.inl ⟨v, ⟨(({ U with heap := s₂.heap, slotsUsed := s₂.slotsUsed } : State).setVm s₂.vm), Ls ++ L, c0 + mc, s0 + ms⟩,
      ⟨X.admits, X.cas, X.clock, X.frames, X.room, X.hears, X.method, X.code, (X.here.setHeapUsed s₂.heap s₂.slotsUsed).setVm hW'.alike, X.tail, State.WarmedH.trans X.warmed hW', X.limits, X.bytes, X.same.trans (hsame.setVm s.vm)⟩,
      ⟨g, mk, s₂, L, rfl, rfl, hqc, rfl, hL, rfl, rfl⟩, ?_⟩
    show Steps p.tables e below _ ((({ U with heap := s₂.heap, slotsUsed := s₂.slotsUsed } : State).setVm s₂.vm).setTop { g with pc := g.pc + len₂, stack := v.toList ++ g.stack })
    rw [← hs₂]
    exact hsteps
  · obtain ⟨e2, q2, q3, q4, q5, q6⟩ := id hsm
    have e3 : s₂ = ({ (U.calling g mk a).setFrames s₂.frames with heap := s₂.heap, slotsUsed := s₂.slotsUsed } : State).setVm s₂.vm := by
      have : s₂ = ({ s₂ with vm := (U.calling g mk a).vm } : State).setVm s₂.vm := rfl
      rw [e2] at this
      exact this
    have hf₂ : s₂.frames = .throwing q :: .java g :: U.frames.tail := hend
    have hW' : U.WarmedH s₂.vm := hW₂
    have hs₂ : s₂ = ((({ U with heap := s₂.heap, slotsUsed := s₂.slotsUsed } : State).setVm s₂.vm).setTop g).pushFrame (.throwing q) := by
      refine e3.trans ?_
      rw [hf₂, State.calling_eq h.top, State.setFrames_setFrames, State.pushFrame, State.frames_setTop _ hr', State.setTop_of_frames _ hr', State.setFrames_setFrames, hr]
      rfl
    have hsame : U.sameButNew ({ U with heap := s₂.heap, slotsUsed := s₂.slotsUsed } : State) L mc ms := by
      refine ⟨?_, q2, q3, q4, q5, q6⟩
      obtain ⟨t, ht, -⟩ := State.frames_cons hr
      show ({ U with heap := s₂.heap, slotsUsed := s₂.slotsUsed } : State) = { U.setFrames U.frames with heap := s₂.heap, slotsUsed := s₂.slotsUsed }
      rw [State.setFrames_self ht]
    subst hg
    refine Or.inr ⟨q, ⟨(({ U with heap := s₂.heap, slotsUsed := s₂.slotsUsed } : State).setVm s₂.vm), Ls ++ L, c0 + mc, s0 + ms⟩,
      ⟨X.admits, X.cas, X.clock, X.frames, X.room, X.hears, X.method, X.code, (X.here.setHeapUsed s₂.heap s₂.slotsUsed).setVm hW'.alike, X.tail, State.WarmedH.trans X.warmed hW', X.limits, X.bytes, X.same.trans (hsame.setVm s.vm)⟩,
      ⟨g, mk, s₂, L, E, ce, rfl, rfl, hx, hce, hcv, hcl, rfl, hL, rfl, rfl⟩, ?_⟩
    show Steps p.tables e below _ (((({ U with heap := s₂.heap, slotsUsed := s₂.slotsUsed } : State).setVm s₂.vm).setTop g).pushFrame (.throwing q))
    rw [← hs₂]
    exact hsteps
end
variable {p : Program} {l : Launch} {e : Env} {R : Room} {s : State} {m : MethodId} {args : Array Value} {below : List Frame} {meth : Method} {c : Code} {T : State} {H : Heap} {locs : List Loc} {cells slots : Nat}
theorem vx_callVX (X : Stand p l e R s m args below meth c T locs cells slots) (hexec : p.tables.exec = Jvm.exec) {own C : String} {index : Nat} {y : MethodName} {bytes : ByteArray} {maxL : Nat} {ret : Option FieldType} {hh : List (Nat × Nat × Nat × Nat)}
    (hown : s.vm.findClass own = some m.cls) (hlink : (Cond.methodLink own index y).before args s = true) (hinst : (Cond.instanceMethod y).before args s = true) (hsel : (Cond.selects C y y).before args s = true)
    (hcode : (Cond.codeWith y bytes maxL ret hh).before args s = true) (hy : y.cls ≠ "java/lang/invoke/MethodHandle" ∧ y.cls ≠ "java/lang/invoke/VarHandle")
    {W9 : Nat} {Pre : Pt → Array Value → Prop} {Post : Pt → Array Value → Option Value → Pt → Prop} {PostX : Pt → Array Value → Addr → Pt → Prop} (hK : vx_Back l R p e below s args y 3 W9 Pre Post PostX)
    {b : Addr} {cellB : Cell} (hcell : T.heap[b]? = some cellB) (hobj : cellB.vm.isStatics = false) (hcls : s.vm.findClass C = some cellB.cls)
    {g : JFrame} (hg : g.method = m) (hsize : g.locals.size = c.maxLocals) {argsL rest : List Value} (hlen : ∀ sig, parseMethodDescriptor y.desc = some sig → argsL.length = sig.parameters.length)
    (hstack : g.stack = argsL.reverse ++ .ref b :: rest) (hW : 2 * g.monitorRoom + (rest.map fun v => v.category).sum ≤ W9) (hdg : decode c.code g.pc = .ok (.invokevirtual index, 3))
    (hpre : ∀ vm₁, s.WarmedH vm₁ → Pre ⟨T.setVm vm₁, locs, cells, slots⟩ (Value.ref b :: argsL).toArray) :
    (∃ (v : Option Value) (vm₁ : Vm) (B : Pt), s.WarmedH vm₁ ∧ Stand p l e R s m args below meth c B.U B.locs B.cells B.slots ∧ Post ⟨T.setVm vm₁, locs, cells, slots⟩ (Value.ref b :: argsL).toArray v B ∧
      ∀ target, Steps p.tables e below (B.U.setTop { g with pc := g.pc + 3, stack := v.toList ++ rest }) target → Steps p.tables e below (T.setTop g) target) ∨
    (∃ (q : Addr) (vm₁ : Vm) (B : Pt), s.WarmedH vm₁ ∧ Stand p l e R s m args below meth c B.U B.locs B.cells B.slots ∧ PostX ⟨T.setVm vm₁, locs, cells, slots⟩ (Value.ref b :: argsL).toArray q B ∧
      Steps p.tables e below (T.setTop g) ((B.U.setTop { g with stack := rest }).pushFrame (.throwing q))) := by
  obtain ⟨mk, methM, hnamed, hmethM, hstM, habM⟩ := Cond.instanceMethod_spec hinst
  obtain ⟨m8, methM', cM, hn8, hmethM', -, -, -, -, -, -, hsigM⟩ := Cond.codeWith_spec hcode
  cases Option.some.inj (hn8.symm.trans hnamed)
  cases hmethM.symm.trans hmethM'
  obtain ⟨c2, r2, m2, q1, q2, q3, q4, kP, hkP, hkPi⟩ := Cond.selects_spec hsel
  cases hcls.symm.trans q1
  cases (State.methodFound?_of_named hnamed hy).symm.trans q2
  cases hnamed.symm.trans q3
  have hselP : selectMethod e.platform s.vm cellB.cls mk = .method mk := by rw [Launch.admits_selectMethod X.admits]; exact q4
  obtain ⟨vm₁, X₁, hstep₁⟩ := X.invokevirtual hexec hown hlink hnamed hmethM hstM hkP hkPi hy (a := b) (cell := cellB) hcell
    (fun z h => by rw [h] at hobj; cases hobj) hselP hmethM habM hkP hkPi (g := g) hg (argsL := argsL) (rest := rest) (hlen _ hsigM) hstack hdg
  rcases hK m meth c ⟨T.setVm vm₁, locs, cells, slots⟩ { g with stack := rest } (.invokevirtual index) mk (Value.ref b :: argsL).toArray X₁ hg hsize hdg hW (X₁.named hnamed) (hpre vm₁ X₁.warmed) with ⟨v, B, X', hpost, hsteps⟩ | ⟨q, B, X', hpost, hsteps⟩
  · exact Or.inl ⟨v, vm₁, B, X₁.warmed, X', hpost, fun target h => hstep₁ _ fun acts => by rw [doInvoke_state]; exact hsteps.trans h⟩
  · exact Or.inr ⟨q, vm₁, B, X₁.warmed, X', hpost, hstep₁ _ fun acts => by rw [doInvoke_state]; exact hsteps⟩
theorem vx_callSX (X : Stand p l e R s m args below meth c T locs cells slots) (hexec : p.tables.exec = Jvm.exec) {own : String} {index : Nat} {y : MethodName} {bytes : ByteArray} {maxL : Nat} {ret : Option FieldType} {hh : List (Nat × Nat × Nat × Nat)}
    (hown : s.vm.findClass own = some m.cls) (hlink : (Cond.methodLink own index y).before args s = true) (hstat : (Cond.static y).before args s = true) (hinit : (Cond.initialized y.cls).before args s = true)
    (hcode : (Cond.codeWith y bytes maxL ret hh).before args s = true) (hy : y.cls ≠ "java/lang/invoke/MethodHandle" ∧ y.cls ≠ "java/lang/invoke/VarHandle")
    {W9 : Nat} {Pre : Pt → Array Value → Prop} {Post : Pt → Array Value → Option Value → Pt → Prop} {PostX : Pt → Array Value → Addr → Pt → Prop} (hK : vx_Back l R p e below s args y 3 W9 Pre Post PostX)
    {g : JFrame} (hg : g.method = m) (hsize : g.locals.size = c.maxLocals) {argsL rest : List Value} (hlen : ∀ sig, parseMethodDescriptor y.desc = some sig → argsL.length = sig.parameters.length)
    (hstack : g.stack = argsL.reverse ++ rest) (hW : 2 * g.monitorRoom + (rest.map fun v => v.category).sum ≤ W9) (hdg : decode c.code g.pc = .ok (.invokestatic index, 3))
    (hpre : ∀ vm₁, s.WarmedH vm₁ → Pre ⟨T.setVm vm₁, locs, cells, slots⟩ argsL.toArray) :
    (∃ (v : Option Value) (vm₁ : Vm) (B : Pt), s.WarmedH vm₁ ∧ Stand p l e R s m args below meth c B.U B.locs B.cells B.slots ∧ Post ⟨T.setVm vm₁, locs, cells, slots⟩ argsL.toArray v B ∧
      ∀ target, Steps p.tables e below (B.U.setTop { g with pc := g.pc + 3, stack := v.toList ++ rest }) target → Steps p.tables e below (T.setTop g) target) ∨
    (∃ (q : Addr) (vm₁ : Vm) (B : Pt), s.WarmedH vm₁ ∧ Stand p l e R s m args below meth c B.U B.locs B.cells B.slots ∧ PostX ⟨T.setVm vm₁, locs, cells, slots⟩ argsL.toArray q B ∧
      Steps p.tables e below (T.setTop g) ((B.U.setTop { g with stack := rest }).pushFrame (.throwing q))) := by
  obtain ⟨mk, methM, cM, hnamed, hmethM, -, -, -, -, -, -, hsigM⟩ := Cond.codeWith_spec hcode
  have hstatic : methM.isStatic = true := Cond.static_spec hnamed hmethM hstat
  obtain ⟨kP, hkP, -⟩ := className_of_methodNamed hnamed
  have hinitP : kP.init = .initialized := Cond.initialized_spec (findClass_of_methodNamed hnamed) hkP hinit
  obtain ⟨vm₁, X₁, hstep₁⟩ := X.invokestatic hexec hown hlink hnamed hmethM hstatic hkP hinitP hy (g := g) hg (argsL := argsL) (rest := rest) (hlen _ hsigM) hstack hdg
  rcases hK m meth c ⟨T.setVm vm₁, locs, cells, slots⟩ { g with stack := rest } (.invokestatic index) mk argsL.toArray X₁ hg hsize hdg hW (X₁.named hnamed) (hpre vm₁ X₁.warmed) with ⟨v, B, X', hpost, hsteps⟩ | ⟨q, B, X', hpost, hsteps⟩
  · exact Or.inl ⟨v, vm₁, B, X₁.warmed, X', hpost, fun target h => hstep₁ _ fun acts => by rw [doInvoke_state]; exact hsteps.trans h⟩
  · exact Or.inr ⟨q, vm₁, B, X₁.warmed, X', hpost, hstep₁ _ fun acts => by rw [doInvoke_state]; exact hsteps⟩
theorem vx_callVW (X : Stand p l e R s m args below meth c T locs cells slots) (hexec : p.tables.exec = Jvm.exec) {own C : String} {index : Nat} {y : MethodName} {bytes : ByteArray} {maxL : Nat} {ret : Option FieldType} {hh : List (Nat × Nat × Nat × Nat)}
    (hown : s.vm.findClass own = some m.cls) (hlink : (Cond.methodLink own index y).before args s = true) (hinst : (Cond.instanceMethod y).before args s = true) (hsel : (Cond.selects C y y).before args s = true)
    (hcode : (Cond.codeWith y bytes maxL ret hh).before args s = true) (hy : y.cls ≠ "java/lang/invoke/MethodHandle" ∧ y.cls ≠ "java/lang/invoke/VarHandle")
    {W9 : Nat} {Pre : Pt → Array Value → Prop} {Post : Pt → Array Value → Option Value → Pt → Prop} (hK : Back l R p e below s args y 3 W9 Pre Post)
    {b : Addr} {cellB : Cell} (hcell : T.heap[b]? = some cellB) (hobj : cellB.vm.isStatics = false) (hcls : s.vm.findClass C = some cellB.cls)
    {g : JFrame} (hg : g.method = m) (hsize : g.locals.size = c.maxLocals) {argsL rest : List Value} (hlen : ∀ sig, parseMethodDescriptor y.desc = some sig → argsL.length = sig.parameters.length)
    (hstack : g.stack = argsL.reverse ++ .ref b :: rest) (hW : 2 * g.monitorRoom + (rest.map fun v => v.category).sum ≤ W9) (hdg : decode c.code g.pc = .ok (.invokevirtual index, 3))
    (hpre : ∀ vm₁, s.WarmedH vm₁ → Pre ⟨T.setVm vm₁, locs, cells, slots⟩ (Value.ref b :: argsL).toArray) :
    ∃ (v : Option Value) (vm₁ : Vm) (B : Pt), s.WarmedH vm₁ ∧ Stand p l e R s m args below meth c B.U B.locs B.cells B.slots ∧ Post ⟨T.setVm vm₁, locs, cells, slots⟩ (Value.ref b :: argsL).toArray v B ∧
      ∀ target, Steps p.tables e below (B.U.setTop { g with pc := g.pc + 3, stack := v.toList ++ rest }) target → Steps p.tables e below (T.setTop g) target := by
  obtain ⟨mk, methM, hnamed, hmethM, hstM, habM⟩ := Cond.instanceMethod_spec hinst
  obtain ⟨m8, methM', cM, hn8, hmethM', -, -, -, -, -, -, hsigM⟩ := Cond.codeWith_spec hcode
  cases Option.some.inj (hn8.symm.trans hnamed)
  cases hmethM.symm.trans hmethM'
  obtain ⟨c2, r2, m2, q1, q2, q3, q4, kP, hkP, hkPi⟩ := Cond.selects_spec hsel
  cases hcls.symm.trans q1
  cases (State.methodFound?_of_named hnamed hy).symm.trans q2
  cases hnamed.symm.trans q3
  have hselP : selectMethod e.platform s.vm cellB.cls mk = .method mk := by rw [Launch.admits_selectMethod X.admits]; exact q4
  obtain ⟨vm₁, X₁, hstep₁⟩ := X.invokevirtual hexec hown hlink hnamed hmethM hstM hkP hkPi hy (a := b) (cell := cellB) hcell
    (fun z h => by rw [h] at hobj; cases hobj) hselP hmethM habM hkP hkPi (g := g) hg (argsL := argsL) (rest := rest) (hlen _ hsigM) hstack hdg
  obtain ⟨v, B, X', hpost, hsteps⟩ := hK m meth c ⟨T.setVm vm₁, locs, cells, slots⟩ { g with stack := rest } (.invokevirtual index) mk (Value.ref b :: argsL).toArray X₁ hg hsize hdg hW (X₁.named hnamed) (hpre vm₁ X₁.warmed)
  exact ⟨v, vm₁, B, X₁.warmed, X', hpost, fun target h => hstep₁ _ fun acts => by rw [doInvoke_state]; exact hsteps.trans h⟩
abbrev vx_CVW (R : Room) (s : State) (args : Array Value) (own C : String) (index : Nat) (y : MethodName) (bytes : ByteArray) (maxL : Nat) (ret : Option FieldType) (hh : List (Nat × Nat × Nat × Nat)) (ws : List Cond) (rm : Room) (mc ms n : Nat) : Prop :=
  (rm.cells = mc ∧ rm.slots = ms ∧ rm.frames + 1 ≤ R.frames ∧ 8 + (maxL + 11) + rm.locals ≤ R.locals ∧ (∀ w ∈ ws, ∀ (a' : Array Value) (U : State), s.WarmedH U.vm → w.before a' U = true) ∧ Cond.codeWith y bytes maxL ret hh ∈ ws) ∧
  (Cond.codeWith y bytes maxL ret hh).before args s = true ∧ (Cond.initialized y.cls).before args s = true ∧ (y.cls ≠ "java/lang/invoke/MethodHandle" ∧ y.cls ≠ "java/lang/invoke/VarHandle") ∧
  (∀ sig, parseMethodDescriptor y.desc = some sig → n = sig.parameters.length) ∧ (Cond.methodLink own index y).before args s = true ∧ (Cond.instanceMethod y).before args s = true ∧ (Cond.selects C y y).before args s = true
theorem vx_cwVW {own C : String} {index maxL mc ms : Nat} {y : MethodName} {bytes : ByteArray} {ret : Option FieldType} {hh : List (Nat × Nat × Nat × Nat)} {Ts ws ws' : List Cond} {rm : Room} (n : Nat) (ht : ∀ w ∈ Ts, w.before args s = true) (hT : GoodIn Ts (wsV own index C y ws)) (hw : ws = Cond.codeWith y bytes maxL ret hh :: ws') (hrc : rm.cells = mc) (hrs : rm.slots = ms)
    (hd : y.cls = C ∧ y.cls ≠ "java/lang/invoke/MethodHandle" ∧ y.cls ≠ "java/lang/invoke/VarHandle" ∧ (parseMethodDescriptor y.desc).map (fun d => d.parameters.length) = some n) (hR : rm.frames + 1 ≤ R.frames ∧ 8 + (maxL + 11) + rm.locals ≤ R.locals) :
    vx_CVW R s args own C index y bytes maxL ret hh ws rm mc ms n := by
  obtain ⟨hC, hd⟩ := hd
  subst hC
  have ok : ∀ w ∈ wsV own index y.cls y ws, w.before args s = true := fun w h => ht w (hT w h).1
  have hG : GoodIn Ts ws := fun w h => hT w (by unfold wsV; exact List.mem_append_right _ h)
  have hc : Cond.codeWith y bytes maxL ret hh ∈ ws := by rw [hw]; exact List.mem_cons_self
  refine ⟨⟨hrc, hrs, hR.1, hR.2, pay_in ht hG, hc⟩, ht _ (hG _ hc).1, ok _ (by simp [wsV]), ⟨hd.1, hd.2.1⟩, fun sig h => ?_, ok _ (by simp [wsV]), ok _ (by simp [wsV]), ok _ (by simp [wsV])⟩
  have h2 := hd.2.2
  rw [h] at h2
  exact (Option.some.inj h2).symm
theorem vx_runVW {y : MethodName} {bytes cc : ByteArray} {maxL nL mc ms n index : Nat} {ret : Option FieldType} {hh : List (Nat × Nat × Nat × Nat)} {ws : List Cond} {rm : Room} {Pc : Array Value → State → Prop} {Qc : Array Value → State → Outcome → State → Prop} {free : Addr → Prop} {Ts : List Cond} {own C : String} {b : Addr} {As rest : List Value} {g : JFrame}
    (S : CallFix p m c cc nL s args Ts own) (hM : Met l y ws rm Pc Qc mc ms free) (cw : vx_CVW R s args own C index y bytes maxL ret hh ws rm mc ms n) (hp : PreV s H C b Pc As)
    (hg : g.method = m) (hn : As.length = n) (hsize : g.locals.size = nL) (hstack : g.stack = As.reverse ++ .ref b :: rest) (hW : 2 * g.monitorRoom + (rest.map fun v => v.category).sum ≤ 8) (hdg : decode cc g.pc = .ok (.invokevirtual index, 3)) (hf : cells + mc ≤ R.cells ∧ slots + ms ≤ R.slots) :
    va_Run p l e R s m args below meth c H locs cells slots mc ms g rest (Qc (Value.ref b :: As).toArray) free := by
  obtain ⟨⟨hrc, hrs, hfr, hlo, hws, hcw⟩, hcode, hini, hy, hlen, hl, hin, hse⟩ := cw
  have hK : Back l R p e below s args y 3 8 (PreOf R mc ms Pc) (PostOf Qc mc ms free) := va_backW (hh := hh) (bytes := bytes) (maxL := maxL) (ret := ret) hM hp.1 hrc hrs hfr hlo hws hcw (fun a' U hW => word_at hW (Or.inl (by first | rfl | simp [Cond.onTables, Cond.keeps, Cond.steady])) hini)
  obtain ⟨hx, hb, hml, ho, -⟩ := S
  obtain ⟨-, ⟨cellB, hcB, hoB, hclB⟩, hPc⟩ := hp
  intro T hT X
  obtain ⟨v, vm₁, ⟨U', l2, c2, s2⟩, hW₁, X', ⟨g', mk, t, L, e1, e2, hq, h1, hL, h2, h3⟩, st⟩ := vx_callVW X hx (C := C) (hh := hh) (bytes := bytes) (maxL := maxL) (ret := ret) ho hl hin hse hcode hy hK (by rw [hT]; exact hcB) hoB hclB hg (hsize.trans hml.symm) (argsL := As) (rest := rest) (fun sig h => hn.trans (hlen sig h)) hstack hW (by rw [hb]; exact hdg)
    (fun vm₁ hW₁ => ⟨hf.1, hf.2, hPc (T.setVm vm₁) hT hW₁⟩)
  dsimp only [Pt.U, Pt.locs, Pt.cells, Pt.slots] at X' e1 e2 h1 h2 h3 st
  subst h1; subst h2; subst h3
  exact ⟨v, (T.setVm vm₁).calling g' mk (Value.ref b :: As).toArray, t, U', L, hT, X', hL, e1, e2, hq, st⟩
section
variable {y : MethodName} {bytes cc : ByteArray} {maxL nL mc ms n index : Nat} {ret : Option FieldType} {ws : List Cond} {rm : Room} {Pc : Array Value → State → Prop} {Qc : Array Value → State → Outcome → State → Prop} {XC : String → State → State → Prop} {free : Addr → Prop} {Ts : List Cond} {own C : String} {b : Addr} {As rest : List Value} {g : JFrame}
theorem vx_runVX {hh : List (Nat × Nat × Nat × Nat)} (S : CallFix p m c cc nL s args Ts own) (hM : vx_Met l y ws rm Pc Qc XC mc ms free) (cw : vx_CVW R s args own C index y bytes maxL ret hh ws rm mc ms n) (hp : PreV s H C b Pc As)
    (hg : g.method = m) (hn : As.length = n) (hsize : g.locals.size = nL) (hstack : g.stack = As.reverse ++ .ref b :: rest) (hW : 2 * g.monitorRoom + (rest.map fun v => v.category).sum ≤ 8) (hdg : decode cc g.pc = .ok (.invokevirtual index, 3)) (hf : cells + mc ≤ R.cells ∧ slots + ms ≤ R.slots) :
    vx_Run p l e R s m args below meth c H locs cells slots mc ms g rest (Qc (Value.ref b :: As).toArray) XC free := by
  obtain ⟨⟨hrc, hrs, hfr, hlo, hws, hcw⟩, hcode, hini, hy, hlen, hl, hin, hse⟩ := cw
  have hK : vx_Back l R p e below s args y 3 8 (PreOf R mc ms Pc) (PostOf Qc mc ms free) (vx_Post XC mc ms free) := vx_backW (hh := hh) (bytes := bytes) (maxL := maxL) (ret := ret) hM hp.1 hrc hrs hfr hlo hws hcw (fun a' U hW => word_at hW (Or.inl (by first | rfl | simp [Cond.onTables, Cond.keeps, Cond.steady])) hini)
  obtain ⟨hx, hb, hml, ho, -⟩ := S
  obtain ⟨-, ⟨cellB, hcB, hoB, hclB⟩, hPc⟩ := hp
  intro T hT X
  rcases vx_callVX X hx (C := C) (hh := hh) (bytes := bytes) (maxL := maxL) (ret := ret) ho hl hin hse hcode hy hK (by rw [hT]; exact hcB) hoB hclB hg (hsize.trans hml.symm) (argsL := As) (rest := rest) (fun sig h => hn.trans (hlen sig h)) hstack hW (by rw [hb]; exact hdg)
    (fun vm₁ hW₁ => ⟨hf.1, hf.2, hPc (T.setVm vm₁) hT hW₁⟩) with ⟨v, vm₁, ⟨U', l2, c2, s2⟩, hW₁, X', ⟨g', mk, t, L, e1, e2, hq, h1, hL, h2, h3⟩, st⟩ | ⟨q, vm₁, ⟨U', l2, c2, s2⟩, hW₁, X', ⟨g', mk, t, L, E, ce, e1, e2, hq, hce, hcv, hcl, h1, hL, h2, h3⟩, st⟩
  · dsimp only [Pt.U, Pt.locs, Pt.cells, Pt.slots] at X' e1 e2 h1 h2 h3 st
    subst h1; subst h2; subst h3
    exact Or.inl ⟨v, (T.setVm vm₁).calling g' mk (Value.ref b :: As).toArray, t, U', L, hT, X', hL, e1, e2, hq, st⟩
  · dsimp only [Pt.U, Pt.locs, Pt.cells, Pt.slots] at X' e1 e2 h1 h2 h3 st hcl
    subst h1; subst h2; subst h3
    exact Or.inr ⟨q, (T.setVm vm₁).calling g' mk (Value.ref b :: As).toArray, t, U', L, E, ce, hT, X', hL, e1, e2, hq, hce, hcv, vx_cls hW₁ hcl, st⟩
theorem vx_runSX {hh : List (Nat × Nat × Nat × Nat)} (S : CallFix p m c cc nL s args Ts own) (hM : vx_Met l y ws rm Pc Qc XC mc ms free) (cw : vx_CSW R s args own index y bytes maxL ret hh ws rm mc ms n) (hp : PreS s H Pc As)
    (hg : g.method = m) (hn : As.length = n) (hsize : g.locals.size = nL) (hstack : g.stack = As.reverse ++ rest) (hW : 2 * g.monitorRoom + (rest.map fun v => v.category).sum ≤ 8) (hdg : decode cc g.pc = .ok (.invokestatic index, 3)) (hf : cells + mc ≤ R.cells ∧ slots + ms ≤ R.slots) :
    vx_Run p l e R s m args below meth c H locs cells slots mc ms g rest (Qc As.toArray) XC free := by
  obtain ⟨⟨hrc, hrs, hfr, hlo, hws, hcw⟩, hcode, hini, hy, hlen, hl, hstt⟩ := cw
  have hK : vx_Back l R p e below s args y 3 8 (PreOf R mc ms Pc) (PostOf Qc mc ms free) (vx_Post XC mc ms free) := vx_backW (hh := hh) (bytes := bytes) (maxL := maxL) (ret := ret) hM hp.1 hrc hrs hfr hlo hws hcw (fun a' U hW => word_at hW (Or.inl (by first | rfl | simp [Cond.onTables, Cond.keeps, Cond.steady])) hini)
  obtain ⟨hx, hb, hml, ho, -⟩ := S
  intro T hT X
  rcases vx_callSX X hx (hh := hh) (bytes := bytes) (maxL := maxL) (ret := ret) ho hl hstt hini hcode hy hK hg (hsize.trans hml.symm) (argsL := As) (rest := rest) (fun sig h => hn.trans (hlen sig h)) hstack hW (by rw [hb]; exact hdg)
    (fun vm₁ hW₁ => ⟨hf.1, hf.2, hp.2 (T.setVm vm₁) hT hW₁⟩) with ⟨v, vm₁, ⟨U', l2, c2, s2⟩, hW₁, X', ⟨g', mk, t, L, e1, e2, hq, h1, hL, h2, h3⟩, st⟩ | ⟨q, vm₁, ⟨U', l2, c2, s2⟩, hW₁, X', ⟨g', mk, t, L, E, ce, e1, e2, hq, hce, hcv, hcl, h1, hL, h2, h3⟩, st⟩
  · dsimp only [Pt.U, Pt.locs, Pt.cells, Pt.slots] at X' e1 e2 h1 h2 h3 st
    subst h1; subst h2; subst h3
    exact Or.inl ⟨v, (T.setVm vm₁).calling g' mk As.toArray, t, U', L, hT, X', hL, e1, e2, hq, st⟩
  · dsimp only [Pt.U, Pt.locs, Pt.cells, Pt.slots] at X' e1 e2 h1 h2 h3 st hcl
    subst h1; subst h2; subst h3
    exact Or.inr ⟨q, (T.setVm vm₁).calling g' mk As.toArray, t, U', L, E, ce, hT, X', hL, e1, e2, hq, hce, hcv, vx_cls hW₁ hcl, st⟩
end
end VXH
theorem vx_ofWH {l : Launch} {y : MethodName} {ws ws' : List Cond} {rm : Room} {Pc : Array Value → State → Prop} {Qc : Array Value → State → Outcome → State → Prop} {XC : String → State → State → Prop} {mc ms : Nat} {free : Addr → Prop} {cc : ByteArray} {maxL : Nat} {ret : Option FieldType} {hh : List (Nat × Nat × Nat × Nat)}
    (hy : plainName y.cls = true) (hw : ws = Cond.codeWith y cc maxL ret hh :: ws')
    (body : ∀ p e s m args below meth c s₁, BodyLoose p l y (headSpec ws rm) cc maxL ret e s m args below meth c s₁ → c.maxLocals = maxL → Pc args s →
      W p l e (headSpec ws rm).room s m args below meth c s.heap [] 0 0 (vx_MQ below Qc XC args s mc ms free) (entryFrame m args maxL)) : vx_Met l y ws rm Pc Qc XC mc ms free := by
  refine MetFree.of_bodyS (code := cc) (maxLocals := maxL) (ret := ret) hy ?_ ?_
  · intro args s m h hn
    obtain ⟨m9, meth, c, hn9, h1, h2, h3, h4, -, h5, h6, -⟩ := Cond.codeWith_spec (atoms_spec (ws := ws) h _ (by rw [hw]; exact List.mem_cons_self))
    cases hn.symm.trans hn9
    exact ⟨meth, c, h1, h2, h3, h4, h5, h6⟩
  · intro p e s m args below meth c s₁ B hml hP _
    have hh0 : s₁.heap = s.heap := by rw [B.state]; rfl
    obtain ⟨t, a1, o, b1, b2, b3⟩ := body p e s m args below meth c s₁ B hml hP s₁ hh0 (Stand.of_body B)
    exact ⟨t, o, a1, b1, b2, b3⟩
/-! ===== END ===== -/
end
section
/-- the exceptions, by numbers -/
def x_ex (k : Nat) : String := match k with
  | 0 => "java/lang/IndexOutOfBoundsException"
  | 1 => "java/lang/IllegalArgumentException"
  | 2 => "java/lang/IllegalStateException"
  | _ => "java/lang/UnsupportedOperationException"
def x_up : List String := ["java/lang/RuntimeException", "java/lang/Exception"]
/-- the texts of the exceptions: class, entry, text -/
def x_strs : List (String × Nat × String) := [("EventOrder", 56, "no room for a source"), ("EventOrder", 83, "no room for an event"), ("EventOrder", 94, "an event cannot be before itself"), ("EventOrder", 98, "no room for a need"), ("EventOrder", 155, "no such bag"), ("EventOrder", 158, "no such item that is no bag"), ("EventOrder", 182, "no such kind of question"), ("EventOrder", 184, "no such source"), ("EventOrder", 186, "no such event"), ("EventOrder", 190, "not settled without a ring"), ("EventOrder", 193, "no such item"), ("EventOrder", 195, "kind out of range"), ("EventOrder", 197, "place out of range"), ("EventOrder", 199, "only an item that is no bag goes into or out of a bag"), ("EventOrder", 205, "clock out of range")]
theorem x_up_fit : ∀ n ∈ x_up, Bundle.fit n = true := by decide +kernel
section XR
variable {p : Program} {l : Launch} {e : Env} {R : Room} {s : State} {m : MethodId} {args : Array Value} {below : List Frame} {meth : Method} {c : Code} {Q : State → Prop} {cells slots : Nat}
variable {D : va_G} {cl : List vw_C} {tys : List (ClassId × FieldType)} {A : Nat → Prop} {nL : Nat} {cc : ByteArray} {TB : List Cond} {own : String}
variable {ws ws' : va_W} {pc : Nat} {lv lv' : List (Nat × Value)} {st : List Value}

/-- what a throw needs of the machine's start: two statics of Throwable that nobody writes, the texts -/
def XEn (A : Nat → Prop) (U : State) (H : Heap) : Prop := vx_Zq Bundle.tN "UNASSIGNED_STACK" Bundle.steD A U H ∧ vx_Zq Bundle.tN "SUPPRESSED_SENTINEL" Bundle.listD A U H ∧ (∀ w ∈ TBX, w.before #[] U = true) ∧ ∀ q ∈ x_strs, ∃ a : Nat, vk_R q.1 q.2.1 q.2.2 a U
theorem XEn.kept {U : State} {H H1 : Heap} (h : XEn A U H) (hq : ∀ a : Nat, a < H.size → ¬ A a → H1[a]? = H[a]?) : XEn A U H1 := ⟨h.1.kept hq, h.2.1.kept hq, h.2.2⟩
theorem XEn.narrow {B : Nat → Prop} {U : State} {H : Heap} (h : XEn A U H) (hAB : ∀ q, B q → A q) : XEn B U H := ⟨h.1.narrow hAB, h.2.1.narrow hAB, h.2.2⟩
theorem XEn.moved {U : State} {H : Heap} (h : XEn A s H) (hW : s.WarmedH U.vm) : XEn A U H := ⟨vx_Zq.moved hW.alike h.1, vx_Zq.moved hW.alike h.2.1, fun w hw => TBX_at hw hW (h.2.2.1 w hw), fun q hq => by obtain ⟨a, ha⟩ := h.2.2.2 q hq; exact ⟨a, ha.warm hW⟩⟩
theorem XEn.same {U : State} {H : Heap} (h : XEn A s H) (hv : U.vm = s.vm) : XEn A U H := ⟨vx_Zq.moved (by rw [hv]; exact Vm.Alike.refl _) h.1, vx_Zq.moved (by rw [hv]; exact Vm.Alike.refl _) h.2.1, fun w hw => TBX_at hw (by rw [hv]; exact State.WarmedH.refl s) (h.2.2.1 w hw), fun q hq => by obtain ⟨a, ha⟩ := h.2.2.2 q hq; exact ⟨a, ha.same hv⟩⟩
/-- the abstract state: any heap that holds the world, any locals that hold the list -/
def XW (p : Program) (l : Launch) (e : Env) (R : Room) (s : State) (m : MethodId) (args : Array Value) (below : List Frame) (meth : Method) (c : Code) (D : va_G) (cl : List vw_C) (A : Nat → Prop) (nL : Nat) (Q : State → Prop) (cells slots : Nat) (ws : va_W) (pc : Nat) (lv : List (Nat × Value)) (st : List Value) : Prop :=
  ∀ (H : Heap) (locs : List Loc) (ls : Array Slot), va_P D cl ws H → va_D A ws → va_S A s.heap H locs → lv_has ls nL lv → W p l e R s m args below meth c H locs cells slots Q (F0 m pc ls st)
/-- what stays the same through a method's body -/
def XC (p : Program) (s : State) (m : MethodId) (args : Array Value) (c : Code) (D : va_G) (cl : List vw_C) (tys : List (ClassId × FieldType)) (A : Nat → Prop) (nL : Nat) (cc : ByteArray) (TB : List Cond) (own : String) : Prop :=
  CallFix p m c cc nL s args TB own ∧ va_K D cl tys s ∧ (∀ q : Nat, s.heap.size ≤ q → A q) ∧ GoodIn TB TB ∧ XEn A s s.heap
/-- the start of a contract, the world behind it, the world behind a throw -/
def XP (D : va_G) (cl : List vw_C) (tys : List (ClassId × FieldType)) (ws : va_W) (sz : Nat) (U : State) : Prop := U.heap.size = sz ∧ va_P D cl ws U.heap ∧ va_K D cl tys U ∧ va_D (fun _ => True) ws ∧ XEn (va_A ws sz) U U.heap
def XB (D : va_G) (cl : List vw_C) (tys : List (ClassId × FieldType)) (A : Nat → Prop) (ws : va_W) (t : State) : Prop := va_P D cl ws t.heap ∧ va_K D cl tys t ∧ va_D A ws
def XT (D : va_G) (cl : List vw_C) (tys : List (ClassId × FieldType)) (A : Nat → Prop) (ws : va_W) (Qt : Nat → Prop) : String → State → State → Prop := vx_X Qt (fun E k t => E = x_ex k ∧ XB D cl tys A ws t) A
def x_bool (v : Int32) : Prop := v = 0 ∨ v = 1
theorem x_bool_nar {v : Int32} (h : x_bool v) : narrow .boolean (.int v) = .int v := by rcases h with rfl | rfl <;> rfl
theorem x_bool_fit {v : Int32} (h : x_bool v) : fits .boolean (.int v) = true := by rcases h with rfl | rfl <;> rfl
theorem x_in_lt {i : Int32} {n : Nat} (h : vp_in i n) : i.toNatClampNeg < n := Nat.not_le.mp fun q => h (Or.inr q)
theorem XC.ts (hC : XC p s m args c D cl tys A nL cc TB own) {w : Cond} (h : w ∈ TB) : w.before args s = true := hC.1.2.2.2.2 w h
theorem XC.free (hC : XC p s m args c D cl tys A nL cc TB own) {H : Heap} {locs : List Loc} (hD : va_D A ws) (hS : va_S A s.heap H locs) : ∀ q, va_A ws H.size q → A q := by
  intro q h
  rcases h with ⟨k, e, h⟩ | h
  · exact hD.2 k (q, e) h
  · exact hC.2.2.1 q (Nat.le_trans hS.1 h)
theorem x_lv (ks : List Nat) (h : lv_pick lv ks = lv') (k : XW p l e R s m args below meth c D cl A nL Q cells slots ws pc lv'  st) : XW p l e R s m args below meth c D cl A nL Q cells slots ws pc lv st := fun H locs ls hP hD hS hl => k H locs ls hP hD hS (lv_sub hl ks h)
theorem x_lvr (h : ∀ q ∈ lv', q ∈ lv) (k : XW p l e R s m args below meth c D cl A nL Q cells slots ws pc lv'  st) : XW p l e R s m args below meth c D cl A nL Q cells slots ws pc lv st := fun H locs ls hP hD hS hl => k H locs ls hP hD hS ⟨hl.1, hl.2.1, fun q hq => hl.2.2 q (h q hq)⟩
theorem x_iconst (hC : XC p s m args c D cl tys A nL cc TB own) {n : Int} {v : Int32} (hd : decode cc pc = .ok (.iconst n, 1)) (hv : Int32.ofInt n = v) (k : XW p l e R s m args below meth c D cl A nL Q cells slots ws (pc + 1) lv (.int v :: st)) : XW p l e R s m args below meth c D cl A nL Q cells slots ws pc lv st := fun H locs ls hP hD hS hl => lv_iconst hC.1.1 hC.1.2.1 hd hv (k H locs ls hP hD hS hl)
theorem x_bipush (hC : XC p s m args c D cl tys A nL cc TB own) {n : Int} {v : Int32} (hd : decode cc pc = .ok (.bipush n, 2)) (hv : (Int8.ofInt n).toInt32 = v) (k : XW p l e R s m args below meth c D cl A nL Q cells slots ws (pc + 2) lv (.int v :: st)) : XW p l e R s m args below meth c D cl A nL Q cells slots ws pc lv st := fun H locs ls hP hD hS hl => lv_bipush hC.1.1 hC.1.2.1 hd hv (k H locs ls hP hD hS hl)
theorem x_sipush (hC : XC p s m args c D cl tys A nL cc TB own) {n : Int} {v : Int32} (hd : decode cc pc = .ok (.sipush n, 3)) (hv : (Int16.ofInt n).toInt32 = v) (k : XW p l e R s m args below meth c D cl A nL Q cells slots ws (pc + 3) lv (.int v :: st)) : XW p l e R s m args below meth c D cl A nL Q cells slots ws pc lv st := fun H locs ls hP hD hS hl => lv_sipush hC.1.1 hC.1.2.1 hd hv (k H locs ls hP hD hS hl)
theorem x_lconst (hC : XC p s m args c D cl tys A nL cc TB own) {n : Fin 2} {v : Int64} (hd : decode cc pc = .ok (.lconst n, 1)) (hv : Int64.ofNat (n : Nat) = v) (k : XW p l e R s m args below meth c D cl A nL Q cells slots ws (pc + 1) lv (.long v :: st)) : XW p l e R s m args below meth c D cl A nL Q cells slots ws pc lv st := fun H locs ls hP hD hS hl => lv_lconst hC.1.1 hC.1.2.1 hd hv (k H locs ls hP hD hS hl)
theorem x_iload_n (hC : XC p s m args c D cl tys A nL cc TB own) {n : Fin 4} {i : Nat} {x : Int32} (hd : decode cc pc = .ok (.iload_n n, 1)) (hi : (n : Nat) = i) (q : Nat) (hq : lv[q]? = some (i, .int x)) (k : XW p l e R s m args below meth c D cl A nL Q cells slots ws (pc + 1) lv (.int x :: st)) : XW p l e R s m args below meth c D cl A nL Q cells slots ws pc lv st := fun H locs ls hP hD hS hl => lv_iload_n hC.1.1 hC.1.2.1 hd hi (lv_at hl q hq) (k H locs ls hP hD hS hl)
theorem x_iload (hC : XC p s m args c D cl tys A nL cc TB own) {i : Nat} {x : Int32} (hd : decode cc pc = .ok (.iload i, 2)) (q : Nat) (hq : lv[q]? = some (i, .int x)) (k : XW p l e R s m args below meth c D cl A nL Q cells slots ws (pc + 2) lv (.int x :: st)) : XW p l e R s m args below meth c D cl A nL Q cells slots ws pc lv st := fun H locs ls hP hD hS hl => lv_iload hC.1.1 hC.1.2.1 hd (lv_at hl q hq) (k H locs ls hP hD hS hl)
theorem x_lload_n (hC : XC p s m args c D cl tys A nL cc TB own) {n : Fin 4} {i : Nat} {x : Int64} (hd : decode cc pc = .ok (.lload_n n, 1)) (hi : (n : Nat) = i) (q : Nat) (hq : lv[q]? = some (i, .long x)) (k : XW p l e R s m args below meth c D cl A nL Q cells slots ws (pc + 1) lv (.long x :: st)) : XW p l e R s m args below meth c D cl A nL Q cells slots ws pc lv st := fun H locs ls hP hD hS hl => lv_lload_n hC.1.1 hC.1.2.1 hd hi (lv_at hl q hq) (k H locs ls hP hD hS hl)
theorem x_lload (hC : XC p s m args c D cl tys A nL cc TB own) {i : Nat} {x : Int64} (hd : decode cc pc = .ok (.lload i, 2)) (q : Nat) (hq : lv[q]? = some (i, .long x)) (k : XW p l e R s m args below meth c D cl A nL Q cells slots ws (pc + 2) lv (.long x :: st)) : XW p l e R s m args below meth c D cl A nL Q cells slots ws pc lv st := fun H locs ls hP hD hS hl => lv_lload hC.1.1 hC.1.2.1 hd (lv_at hl q hq) (k H locs ls hP hD hS hl)
theorem x_aload_n (hC : XC p s m args c D cl tys A nL cc TB own) {n : Fin 4} {i : Nat} {x : Nat} (hd : decode cc pc = .ok (.aload_n n, 1)) (hi : (n : Nat) = i) (q : Nat) (hq : lv[q]? = some (i, .ref x)) (k : XW p l e R s m args below meth c D cl A nL Q cells slots ws (pc + 1) lv (.ref x :: st)) : XW p l e R s m args below meth c D cl A nL Q cells slots ws pc lv st := fun H locs ls hP hD hS hl => lv_aload_n hC.1.1 hC.1.2.1 hd hi (lv_at hl q hq) (k H locs ls hP hD hS hl)
theorem x_aload (hC : XC p s m args c D cl tys A nL cc TB own) {i : Nat} {x : Nat} (hd : decode cc pc = .ok (.aload i, 2)) (q : Nat) (hq : lv[q]? = some (i, .ref x)) (k : XW p l e R s m args below meth c D cl A nL Q cells slots ws (pc + 2) lv (.ref x :: st)) : XW p l e R s m args below meth c D cl A nL Q cells slots ws pc lv st := fun H locs ls hP hD hS hl => lv_aload hC.1.1 hC.1.2.1 hd (lv_at hl q hq) (k H locs ls hP hD hS hl)
theorem x_istore_n (hC : XC p s m args c D cl tys A nL cc TB own) {n : Fin 4} {i : Nat} {x : Int32} (hd : decode cc pc = .ok (.istore_n n, 1)) (hi : (n : Nat) = i) (hn : i < nL) (h : (i, Value.int x) :: lv.filter (fun q => !(q.1 == i) && !(q.1 + 1 == i && q.2.category == 2)) = lv') (k : XW p l e R s m args below meth c D cl A nL Q cells slots ws (pc + 1) lv'  st) : XW p l e R s m args below meth c D cl A nL Q cells slots ws pc lv (.int x :: st) := fun H locs ls hP hD hS hl => lv_istore_n hC.1.1 hC.1.2.1 hd hi hl hn h (fun ls' hl' => k H locs ls' hP hD hS hl')
theorem x_istore (hC : XC p s m args c D cl tys A nL cc TB own) {i : Nat} {x : Int32} (hd : decode cc pc = .ok (.istore i, 2)) (hn : i < nL) (h : (i, Value.int x) :: lv.filter (fun q => !(q.1 == i) && !(q.1 + 1 == i && q.2.category == 2)) = lv') (k : XW p l e R s m args below meth c D cl A nL Q cells slots ws (pc + 2) lv'  st) : XW p l e R s m args below meth c D cl A nL Q cells slots ws pc lv (.int x :: st) := fun H locs ls hP hD hS hl => lv_istore hC.1.1 hC.1.2.1 hd hl hn h (fun ls' hl' => k H locs ls' hP hD hS hl')
theorem x_lstore_n (hC : XC p s m args c D cl tys A nL cc TB own) {n : Fin 4} {i : Nat} {x : Int64} (hd : decode cc pc = .ok (.lstore_n n, 1)) (hi : (n : Nat) = i) (hn : i + 1 < nL) (h : (i, Value.long x) :: lv.filter (fun q => !(q.1 == i) && (!(q.1 == i + 1) && !(q.1 + 1 == i && q.2.category == 2))) = lv') (k : XW p l e R s m args below meth c D cl A nL Q cells slots ws (pc + 1) lv'  st) : XW p l e R s m args below meth c D cl A nL Q cells slots ws pc lv (.long x :: st) := fun H locs ls hP hD hS hl => lv_lstore_n hC.1.1 hC.1.2.1 hd hi hl hn h (fun ls' hl' => k H locs ls' hP hD hS hl')
theorem x_lstore (hC : XC p s m args c D cl tys A nL cc TB own) {i : Nat} {x : Int64} (hd : decode cc pc = .ok (.lstore i, 2)) (hn : i + 1 < nL) (h : (i, Value.long x) :: lv.filter (fun q => !(q.1 == i) && (!(q.1 == i + 1) && !(q.1 + 1 == i && q.2.category == 2))) = lv') (k : XW p l e R s m args below meth c D cl A nL Q cells slots ws (pc + 2) lv'  st) : XW p l e R s m args below meth c D cl A nL Q cells slots ws pc lv (.long x :: st) := fun H locs ls hP hD hS hl => lv_lstore hC.1.1 hC.1.2.1 hd hl hn h (fun ls' hl' => k H locs ls' hP hD hS hl')
theorem x_astore_n (hC : XC p s m args c D cl tys A nL cc TB own) {n : Fin 4} {i : Nat} {x : Nat} (hd : decode cc pc = .ok (.astore_n n, 1)) (hi : (n : Nat) = i) (hn : i < nL) (h : (i, Value.ref x) :: lv.filter (fun q => !(q.1 == i) && !(q.1 + 1 == i && q.2.category == 2)) = lv') (k : XW p l e R s m args below meth c D cl A nL Q cells slots ws (pc + 1) lv'  st) : XW p l e R s m args below meth c D cl A nL Q cells slots ws pc lv (.ref x :: st) := fun H locs ls hP hD hS hl => lv_astore_n hC.1.1 hC.1.2.1 hd hi hl hn h (fun ls' hl' => k H locs ls' hP hD hS hl')
theorem x_astore (hC : XC p s m args c D cl tys A nL cc TB own) {i : Nat} {x : Nat} (hd : decode cc pc = .ok (.astore i, 2)) (hn : i < nL) (h : (i, Value.ref x) :: lv.filter (fun q => !(q.1 == i) && !(q.1 + 1 == i && q.2.category == 2)) = lv') (k : XW p l e R s m args below meth c D cl A nL Q cells slots ws (pc + 2) lv'  st) : XW p l e R s m args below meth c D cl A nL Q cells slots ws pc lv (.ref x :: st) := fun H locs ls hP hD hS hl => lv_astore hC.1.1 hC.1.2.1 hd hl hn h (fun ls' hl' => k H locs ls' hP hD hS hl')
theorem x_iinc (hC : XC p s m args c D cl tys A nL cc TB own) {i : Nat} {n : Int} {x v : Int32} (hd : decode cc pc = .ok (.iinc i n, 3)) (q : Nat) (hq : lv[q]? = some (i, .int x)) (hv : x + Int32.ofInt n = v) (hn : i < nL) (h : (i, Value.int v) :: lv.filter (fun q => !(q.1 == i) && !(q.1 + 1 == i && q.2.category == 2)) = lv') (k : XW p l e R s m args below meth c D cl A nL Q cells slots ws (pc + 3) lv'  st) : XW p l e R s m args below meth c D cl A nL Q cells slots ws pc lv st := fun H locs ls hP hD hS hl => lv_iinc hC.1.1 hC.1.2.1 hd hl hq hv hn h (fun ls' hl' => k H locs ls' hP hD hS hl')
theorem x_iadd (hC : XC p s m args c D cl tys A nL cc TB own) {x y : Int32} (hd : decode cc pc = .ok (.iadd, 1))  (k : XW p l e R s m args below meth c D cl A nL Q cells slots ws (pc + 1) lv (.int (x + y) :: st)) : XW p l e R s m args below meth c D cl A nL Q cells slots ws pc lv (.int y :: .int x :: st) := fun H locs ls hP hD hS hl => lv_iadd hC.1.1 hC.1.2.1 hd  (k H locs ls hP hD hS hl)
theorem x_isub (hC : XC p s m args c D cl tys A nL cc TB own) {x y : Int32} (hd : decode cc pc = .ok (.isub, 1))  (k : XW p l e R s m args below meth c D cl A nL Q cells slots ws (pc + 1) lv (.int (x - y) :: st)) : XW p l e R s m args below meth c D cl A nL Q cells slots ws pc lv (.int y :: .int x :: st) := fun H locs ls hP hD hS hl => lv_isub hC.1.1 hC.1.2.1 hd  (k H locs ls hP hD hS hl)
theorem x_imul (hC : XC p s m args c D cl tys A nL cc TB own) {x y : Int32} (hd : decode cc pc = .ok (.imul, 1))  (k : XW p l e R s m args below meth c D cl A nL Q cells slots ws (pc + 1) lv (.int (x * y) :: st)) : XW p l e R s m args below meth c D cl A nL Q cells slots ws pc lv (.int y :: .int x :: st) := fun H locs ls hP hD hS hl => lv_imul hC.1.1 hC.1.2.1 hd  (k H locs ls hP hD hS hl)
theorem x_iand (hC : XC p s m args c D cl tys A nL cc TB own) {x y : Int32} (hd : decode cc pc = .ok (.iand, 1))  (k : XW p l e R s m args below meth c D cl A nL Q cells slots ws (pc + 1) lv (.int (x &&& y) :: st)) : XW p l e R s m args below meth c D cl A nL Q cells slots ws pc lv (.int y :: .int x :: st) := fun H locs ls hP hD hS hl => lv_iand hC.1.1 hC.1.2.1 hd  (k H locs ls hP hD hS hl)
theorem x_ior (hC : XC p s m args c D cl tys A nL cc TB own) {x y : Int32} (hd : decode cc pc = .ok (.ior, 1))  (k : XW p l e R s m args below meth c D cl A nL Q cells slots ws (pc + 1) lv (.int (x ||| y) :: st)) : XW p l e R s m args below meth c D cl A nL Q cells slots ws pc lv (.int y :: .int x :: st) := fun H locs ls hP hD hS hl => lv_ior hC.1.1 hC.1.2.1 hd  (k H locs ls hP hD hS hl)
theorem x_ixor (hC : XC p s m args c D cl tys A nL cc TB own) {x y : Int32} (hd : decode cc pc = .ok (.ixor, 1))  (k : XW p l e R s m args below meth c D cl A nL Q cells slots ws (pc + 1) lv (.int (x ^^^ y) :: st)) : XW p l e R s m args below meth c D cl A nL Q cells slots ws pc lv (.int y :: .int x :: st) := fun H locs ls hP hD hS hl => lv_ixor hC.1.1 hC.1.2.1 hd  (k H locs ls hP hD hS hl)
theorem x_ladd (hC : XC p s m args c D cl tys A nL cc TB own) {x y : Int64} (hd : decode cc pc = .ok (.ladd, 1))  (k : XW p l e R s m args below meth c D cl A nL Q cells slots ws (pc + 1) lv (.long (x + y) :: st)) : XW p l e R s m args below meth c D cl A nL Q cells slots ws pc lv (.long y :: .long x :: st) := fun H locs ls hP hD hS hl => lv_ladd hC.1.1 hC.1.2.1 hd  (k H locs ls hP hD hS hl)
theorem x_lsub (hC : XC p s m args c D cl tys A nL cc TB own) {x y : Int64} (hd : decode cc pc = .ok (.lsub, 1))  (k : XW p l e R s m args below meth c D cl A nL Q cells slots ws (pc + 1) lv (.long (x - y) :: st)) : XW p l e R s m args below meth c D cl A nL Q cells slots ws pc lv (.long y :: .long x :: st) := fun H locs ls hP hD hS hl => lv_lsub hC.1.1 hC.1.2.1 hd  (k H locs ls hP hD hS hl)
theorem x_lmul (hC : XC p s m args c D cl tys A nL cc TB own) {x y : Int64} (hd : decode cc pc = .ok (.lmul, 1))  (k : XW p l e R s m args below meth c D cl A nL Q cells slots ws (pc + 1) lv (.long (x * y) :: st)) : XW p l e R s m args below meth c D cl A nL Q cells slots ws pc lv (.long y :: .long x :: st) := fun H locs ls hP hD hS hl => lv_lmul hC.1.1 hC.1.2.1 hd  (k H locs ls hP hD hS hl)
theorem x_land (hC : XC p s m args c D cl tys A nL cc TB own) {x y : Int64} (hd : decode cc pc = .ok (.land, 1))  (k : XW p l e R s m args below meth c D cl A nL Q cells slots ws (pc + 1) lv (.long (x &&& y) :: st)) : XW p l e R s m args below meth c D cl A nL Q cells slots ws pc lv (.long y :: .long x :: st) := fun H locs ls hP hD hS hl => lv_land hC.1.1 hC.1.2.1 hd  (k H locs ls hP hD hS hl)
theorem x_lor (hC : XC p s m args c D cl tys A nL cc TB own) {x y : Int64} (hd : decode cc pc = .ok (.lor, 1))  (k : XW p l e R s m args below meth c D cl A nL Q cells slots ws (pc + 1) lv (.long (x ||| y) :: st)) : XW p l e R s m args below meth c D cl A nL Q cells slots ws pc lv (.long y :: .long x :: st) := fun H locs ls hP hD hS hl => lv_lor hC.1.1 hC.1.2.1 hd  (k H locs ls hP hD hS hl)
theorem x_idiv (hC : XC p s m args c D cl tys A nL cc TB own) {x y : Int32} (hd : decode cc pc = .ok (.idiv, 1)) (hne : ¬ y = 0) (k : XW p l e R s m args below meth c D cl A nL Q cells slots ws (pc + 1) lv (.int (x / y) :: st)) : XW p l e R s m args below meth c D cl A nL Q cells slots ws pc lv (.int y :: .int x :: st) := fun H locs ls hP hD hS hl => lv_idiv hC.1.1 hC.1.2.1 hd hne (k H locs ls hP hD hS hl)
theorem x_irem (hC : XC p s m args c D cl tys A nL cc TB own) {x y : Int32} (hd : decode cc pc = .ok (.irem, 1)) (hne : ¬ y = 0) (k : XW p l e R s m args below meth c D cl A nL Q cells slots ws (pc + 1) lv (.int (x - x / y * y) :: st)) : XW p l e R s m args below meth c D cl A nL Q cells slots ws pc lv (.int y :: .int x :: st) := fun H locs ls hP hD hS hl => lv_irem hC.1.1 hC.1.2.1 hd hne (k H locs ls hP hD hS hl)
theorem x_ineg (hC : XC p s m args c D cl tys A nL cc TB own) {x : Int32} (hd : decode cc pc = .ok (.ineg, 1))  (k : XW p l e R s m args below meth c D cl A nL Q cells slots ws (pc + 1) lv (.int (-x) :: st)) : XW p l e R s m args below meth c D cl A nL Q cells slots ws pc lv (.int x :: st) := fun H locs ls hP hD hS hl => lv_ineg hC.1.1 hC.1.2.1 hd  (k H locs ls hP hD hS hl)
theorem x_lneg (hC : XC p s m args c D cl tys A nL cc TB own) {x : Int64} (hd : decode cc pc = .ok (.lneg, 1))  (k : XW p l e R s m args below meth c D cl A nL Q cells slots ws (pc + 1) lv (.long (-x) :: st)) : XW p l e R s m args below meth c D cl A nL Q cells slots ws pc lv (.long x :: st) := fun H locs ls hP hD hS hl => lv_lneg hC.1.1 hC.1.2.1 hd  (k H locs ls hP hD hS hl)
theorem x_i2l (hC : XC p s m args c D cl tys A nL cc TB own) {x : Int32} {v : Int64} (hd : decode cc pc = .ok (.i2l, 1)) (hv : x.toInt64 = v) (k : XW p l e R s m args below meth c D cl A nL Q cells slots ws (pc + 1) lv (.long v :: st)) : XW p l e R s m args below meth c D cl A nL Q cells slots ws pc lv (.int x :: st) := fun H locs ls hP hD hS hl => lv_i2l hC.1.1 hC.1.2.1 hd hv (k H locs ls hP hD hS hl)
theorem x_l2i (hC : XC p s m args c D cl tys A nL cc TB own) {x : Int64} {v : Int32} (hd : decode cc pc = .ok (.l2i, 1)) (hv : x.toInt32 = v) (k : XW p l e R s m args below meth c D cl A nL Q cells slots ws (pc + 1) lv (.int v :: st)) : XW p l e R s m args below meth c D cl A nL Q cells slots ws pc lv (.long x :: st) := fun H locs ls hP hD hS hl => lv_l2i hC.1.1 hC.1.2.1 hd hv (k H locs ls hP hD hS hl)
theorem x_lshl (hC : XC p s m args c D cl tys A nL cc TB own) {x v : Int64} {y : Int32} (hd : decode cc pc = .ok (.lshl, 1)) (hv : x <<< (y.toInt64 &&& 63) = v) (k : XW p l e R s m args below meth c D cl A nL Q cells slots ws (pc + 1) lv (.long v :: st)) : XW p l e R s m args below meth c D cl A nL Q cells slots ws pc lv (.int y :: .long x :: st) := fun H locs ls hP hD hS hl => lv_lshl hC.1.1 hC.1.2.1 hd hv (k H locs ls hP hD hS hl)
theorem x_dup (hC : XC p s m args c D cl tys A nL cc TB own) {va : Value} (hd : decode cc pc = .ok (.dup, 1)) (hv : va.category = 1) (k : XW p l e R s m args below meth c D cl A nL Q cells slots ws (pc + 1) lv (va :: va :: st)) : XW p l e R s m args below meth c D cl A nL Q cells slots ws pc lv (va :: st) := fun H locs ls hP hD hS hl => lv_dup hC.1.1 hC.1.2.1 hd hv (k H locs ls hP hD hS hl)
theorem x_pop (hC : XC p s m args c D cl tys A nL cc TB own) {va : Value} (hd : decode cc pc = .ok (.pop, 1)) (hv : va.category = 1) (k : XW p l e R s m args below meth c D cl A nL Q cells slots ws (pc + 1) lv st) : XW p l e R s m args below meth c D cl A nL Q cells slots ws pc lv (va :: st) := fun H locs ls hP hD hS hl => lv_pop hC.1.1 hC.1.2.1 hd hv (k H locs ls hP hD hS hl)
theorem x_dup2_11 (hC : XC p s m args c D cl tys A nL cc TB own) {va vb : Value} (hd : decode cc pc = .ok (.dup2, 1)) (hv : va.category = 1) (hw : vb.category = 1) (k : XW p l e R s m args below meth c D cl A nL Q cells slots ws (pc + 1) lv (va :: vb :: va :: vb :: st)) : XW p l e R s m args below meth c D cl A nL Q cells slots ws pc lv (va :: vb :: st) := fun H locs ls hP hD hS hl => lv_dup2_11 hC.1.1 hC.1.2.1 hd hv hw (k H locs ls hP hD hS hl)
theorem x_if_eq (hC : XC p s m args c D cl tys A nL cc TB own) {x : Int32} {off : Int} {tgt : Nat} (hd : decode cc pc = .ok (.ifCond .eq off, 3)) (ht : (pc : Int) + off = (tgt : Int)) (kt : x = 0 → XW p l e R s m args below meth c D cl A nL Q cells slots ws tgt lv st) (kf : ¬ x = 0 → XW p l e R s m args below meth c D cl A nL Q cells slots ws (pc + 3) lv st) : XW p l e R s m args below meth c D cl A nL Q cells slots ws pc lv (.int x :: st) := fun H locs ls hP hD hS hl => lv_if_eq hC.1.1 hC.1.2.1 hd ht (fun h => kt h H locs ls hP hD hS hl) (fun h => kf h H locs ls hP hD hS hl)
theorem x_icmp_eq (hC : XC p s m args c D cl tys A nL cc TB own) {x y : Int32} {off : Int} {tgt : Nat} (hd : decode cc pc = .ok (.if_icmp .eq off, 3)) (ht : (pc : Int) + off = (tgt : Int)) (kt : x = y → XW p l e R s m args below meth c D cl A nL Q cells slots ws tgt lv st) (kf : ¬ x = y → XW p l e R s m args below meth c D cl A nL Q cells slots ws (pc + 3) lv st) : XW p l e R s m args below meth c D cl A nL Q cells slots ws pc lv (.int y :: .int x :: st) := fun H locs ls hP hD hS hl => lv_icmp_eq hC.1.1 hC.1.2.1 hd ht (fun h => kt h H locs ls hP hD hS hl) (fun h => kf h H locs ls hP hD hS hl)
theorem x_if_ne (hC : XC p s m args c D cl tys A nL cc TB own) {x : Int32} {off : Int} {tgt : Nat} (hd : decode cc pc = .ok (.ifCond .ne off, 3)) (ht : (pc : Int) + off = (tgt : Int)) (kt : ¬ x = 0 → XW p l e R s m args below meth c D cl A nL Q cells slots ws tgt lv st) (kf : x = 0 → XW p l e R s m args below meth c D cl A nL Q cells slots ws (pc + 3) lv st) : XW p l e R s m args below meth c D cl A nL Q cells slots ws pc lv (.int x :: st) := fun H locs ls hP hD hS hl => lv_if_ne hC.1.1 hC.1.2.1 hd ht (fun h => kt h H locs ls hP hD hS hl) (fun h => kf h H locs ls hP hD hS hl)
theorem x_icmp_ne (hC : XC p s m args c D cl tys A nL cc TB own) {x y : Int32} {off : Int} {tgt : Nat} (hd : decode cc pc = .ok (.if_icmp .ne off, 3)) (ht : (pc : Int) + off = (tgt : Int)) (kt : ¬ x = y → XW p l e R s m args below meth c D cl A nL Q cells slots ws tgt lv st) (kf : x = y → XW p l e R s m args below meth c D cl A nL Q cells slots ws (pc + 3) lv st) : XW p l e R s m args below meth c D cl A nL Q cells slots ws pc lv (.int y :: .int x :: st) := fun H locs ls hP hD hS hl => lv_icmp_ne hC.1.1 hC.1.2.1 hd ht (fun h => kt h H locs ls hP hD hS hl) (fun h => kf h H locs ls hP hD hS hl)
theorem x_if_lt (hC : XC p s m args c D cl tys A nL cc TB own) {x : Int32} {off : Int} {tgt : Nat} (hd : decode cc pc = .ok (.ifCond .lt off, 3)) (ht : (pc : Int) + off = (tgt : Int)) (kt : x < 0 → XW p l e R s m args below meth c D cl A nL Q cells slots ws tgt lv st) (kf : ¬ x < 0 → XW p l e R s m args below meth c D cl A nL Q cells slots ws (pc + 3) lv st) : XW p l e R s m args below meth c D cl A nL Q cells slots ws pc lv (.int x :: st) := fun H locs ls hP hD hS hl => lv_if_lt hC.1.1 hC.1.2.1 hd ht (fun h => kt h H locs ls hP hD hS hl) (fun h => kf h H locs ls hP hD hS hl)
theorem x_icmp_lt (hC : XC p s m args c D cl tys A nL cc TB own) {x y : Int32} {off : Int} {tgt : Nat} (hd : decode cc pc = .ok (.if_icmp .lt off, 3)) (ht : (pc : Int) + off = (tgt : Int)) (kt : x < y → XW p l e R s m args below meth c D cl A nL Q cells slots ws tgt lv st) (kf : ¬ x < y → XW p l e R s m args below meth c D cl A nL Q cells slots ws (pc + 3) lv st) : XW p l e R s m args below meth c D cl A nL Q cells slots ws pc lv (.int y :: .int x :: st) := fun H locs ls hP hD hS hl => lv_icmp_lt hC.1.1 hC.1.2.1 hd ht (fun h => kt h H locs ls hP hD hS hl) (fun h => kf h H locs ls hP hD hS hl)
theorem x_if_ge (hC : XC p s m args c D cl tys A nL cc TB own) {x : Int32} {off : Int} {tgt : Nat} (hd : decode cc pc = .ok (.ifCond .ge off, 3)) (ht : (pc : Int) + off = (tgt : Int)) (kt : 0 ≤ x → XW p l e R s m args below meth c D cl A nL Q cells slots ws tgt lv st) (kf : ¬ 0 ≤ x → XW p l e R s m args below meth c D cl A nL Q cells slots ws (pc + 3) lv st) : XW p l e R s m args below meth c D cl A nL Q cells slots ws pc lv (.int x :: st) := fun H locs ls hP hD hS hl => lv_if_ge hC.1.1 hC.1.2.1 hd ht (fun h => kt h H locs ls hP hD hS hl) (fun h => kf h H locs ls hP hD hS hl)
theorem x_icmp_ge (hC : XC p s m args c D cl tys A nL cc TB own) {x y : Int32} {off : Int} {tgt : Nat} (hd : decode cc pc = .ok (.if_icmp .ge off, 3)) (ht : (pc : Int) + off = (tgt : Int)) (kt : y ≤ x → XW p l e R s m args below meth c D cl A nL Q cells slots ws tgt lv st) (kf : ¬ y ≤ x → XW p l e R s m args below meth c D cl A nL Q cells slots ws (pc + 3) lv st) : XW p l e R s m args below meth c D cl A nL Q cells slots ws pc lv (.int y :: .int x :: st) := fun H locs ls hP hD hS hl => lv_icmp_ge hC.1.1 hC.1.2.1 hd ht (fun h => kt h H locs ls hP hD hS hl) (fun h => kf h H locs ls hP hD hS hl)
theorem x_if_gt (hC : XC p s m args c D cl tys A nL cc TB own) {x : Int32} {off : Int} {tgt : Nat} (hd : decode cc pc = .ok (.ifCond .gt off, 3)) (ht : (pc : Int) + off = (tgt : Int)) (kt : 0 < x → XW p l e R s m args below meth c D cl A nL Q cells slots ws tgt lv st) (kf : ¬ 0 < x → XW p l e R s m args below meth c D cl A nL Q cells slots ws (pc + 3) lv st) : XW p l e R s m args below meth c D cl A nL Q cells slots ws pc lv (.int x :: st) := fun H locs ls hP hD hS hl => lv_if_gt hC.1.1 hC.1.2.1 hd ht (fun h => kt h H locs ls hP hD hS hl) (fun h => kf h H locs ls hP hD hS hl)
theorem x_icmp_gt (hC : XC p s m args c D cl tys A nL cc TB own) {x y : Int32} {off : Int} {tgt : Nat} (hd : decode cc pc = .ok (.if_icmp .gt off, 3)) (ht : (pc : Int) + off = (tgt : Int)) (kt : y < x → XW p l e R s m args below meth c D cl A nL Q cells slots ws tgt lv st) (kf : ¬ y < x → XW p l e R s m args below meth c D cl A nL Q cells slots ws (pc + 3) lv st) : XW p l e R s m args below meth c D cl A nL Q cells slots ws pc lv (.int y :: .int x :: st) := fun H locs ls hP hD hS hl => lv_icmp_gt hC.1.1 hC.1.2.1 hd ht (fun h => kt h H locs ls hP hD hS hl) (fun h => kf h H locs ls hP hD hS hl)
theorem x_if_le (hC : XC p s m args c D cl tys A nL cc TB own) {x : Int32} {off : Int} {tgt : Nat} (hd : decode cc pc = .ok (.ifCond .le off, 3)) (ht : (pc : Int) + off = (tgt : Int)) (kt : x ≤ 0 → XW p l e R s m args below meth c D cl A nL Q cells slots ws tgt lv st) (kf : ¬ x ≤ 0 → XW p l e R s m args below meth c D cl A nL Q cells slots ws (pc + 3) lv st) : XW p l e R s m args below meth c D cl A nL Q cells slots ws pc lv (.int x :: st) := fun H locs ls hP hD hS hl => lv_if_le hC.1.1 hC.1.2.1 hd ht (fun h => kt h H locs ls hP hD hS hl) (fun h => kf h H locs ls hP hD hS hl)
theorem x_icmp_le (hC : XC p s m args c D cl tys A nL cc TB own) {x y : Int32} {off : Int} {tgt : Nat} (hd : decode cc pc = .ok (.if_icmp .le off, 3)) (ht : (pc : Int) + off = (tgt : Int)) (kt : x ≤ y → XW p l e R s m args below meth c D cl A nL Q cells slots ws tgt lv st) (kf : ¬ x ≤ y → XW p l e R s m args below meth c D cl A nL Q cells slots ws (pc + 3) lv st) : XW p l e R s m args below meth c D cl A nL Q cells slots ws pc lv (.int y :: .int x :: st) := fun H locs ls hP hD hS hl => lv_icmp_le hC.1.1 hC.1.2.1 hd ht (fun h => kt h H locs ls hP hD hS hl) (fun h => kf h H locs ls hP hD hS hl)
theorem x_lcmp_eq (hC : XC p s m args c D cl tys A nL cc TB own) {x y : Int64} {off : Int} {tgt : Nat} (hd0 : decode cc pc = .ok (.lcmp, 1)) (hd : decode cc (pc + 1) = .ok (.ifCond .eq off, 3)) (ht : ((pc + 1 : Nat) : Int) + off = (tgt : Int)) (kt : x = y → XW p l e R s m args below meth c D cl A nL Q cells slots ws tgt lv st) (kf : ¬ x = y → XW p l e R s m args below meth c D cl A nL Q cells slots ws (pc + 1 + 3) lv st) : XW p l e R s m args below meth c D cl A nL Q cells slots ws pc lv (.long y :: .long x :: st) := fun H locs ls hP hD hS hl => W.lcmp hC.1.1 hC.1.2.1 hd0 (lv_if_eq hC.1.1 hC.1.2.1 hd ht (fun h => kt ((lg_cmp_eq x y).mp h) H locs ls hP hD hS hl) (fun h => kf (fun z => h ((lg_cmp_eq x y).mpr z)) H locs ls hP hD hS hl))
theorem x_lcmp_ne (hC : XC p s m args c D cl tys A nL cc TB own) {x y : Int64} {off : Int} {tgt : Nat} (hd0 : decode cc pc = .ok (.lcmp, 1)) (hd : decode cc (pc + 1) = .ok (.ifCond .ne off, 3)) (ht : ((pc + 1 : Nat) : Int) + off = (tgt : Int)) (kt : ¬ x = y → XW p l e R s m args below meth c D cl A nL Q cells slots ws tgt lv st) (kf : x = y → XW p l e R s m args below meth c D cl A nL Q cells slots ws (pc + 1 + 3) lv st) : XW p l e R s m args below meth c D cl A nL Q cells slots ws pc lv (.long y :: .long x :: st) := fun H locs ls hP hD hS hl => W.lcmp hC.1.1 hC.1.2.1 hd0 (lv_if_ne hC.1.1 hC.1.2.1 hd ht (fun h => kt (fun z => h ((lg_cmp_eq x y).mpr z)) H locs ls hP hD hS hl) (fun h => kf ((lg_cmp_eq x y).mp h) H locs ls hP hD hS hl))
theorem x_lcmp_lt (hC : XC p s m args c D cl tys A nL cc TB own) {x y : Int64} {off : Int} {tgt : Nat} (hd0 : decode cc pc = .ok (.lcmp, 1)) (hd : decode cc (pc + 1) = .ok (.ifCond .lt off, 3)) (ht : ((pc + 1 : Nat) : Int) + off = (tgt : Int)) (kt : x < y → XW p l e R s m args below meth c D cl A nL Q cells slots ws tgt lv st) (kf : ¬ x < y → XW p l e R s m args below meth c D cl A nL Q cells slots ws (pc + 1 + 3) lv st) : XW p l e R s m args below meth c D cl A nL Q cells slots ws pc lv (.long y :: .long x :: st) := fun H locs ls hP hD hS hl => W.lcmp hC.1.1 hC.1.2.1 hd0 (lv_if_lt hC.1.1 hC.1.2.1 hd ht (fun h => kt ((lg_cmp_lt x y).mp h) H locs ls hP hD hS hl) (fun h => kf (fun z => h ((lg_cmp_lt x y).mpr z)) H locs ls hP hD hS hl))
theorem x_lcmp_ge (hC : XC p s m args c D cl tys A nL cc TB own) {x y : Int64} {off : Int} {tgt : Nat} (hd0 : decode cc pc = .ok (.lcmp, 1)) (hd : decode cc (pc + 1) = .ok (.ifCond .ge off, 3)) (ht : ((pc + 1 : Nat) : Int) + off = (tgt : Int)) (kt : y ≤ x → XW p l e R s m args below meth c D cl A nL Q cells slots ws tgt lv st) (kf : ¬ y ≤ x → XW p l e R s m args below meth c D cl A nL Q cells slots ws (pc + 1 + 3) lv st) : XW p l e R s m args below meth c D cl A nL Q cells slots ws pc lv (.long y :: .long x :: st) := fun H locs ls hP hD hS hl => W.lcmp hC.1.1 hC.1.2.1 hd0 (lv_if_ge hC.1.1 hC.1.2.1 hd ht (fun h => kt ((lg_cmp_ge x y).mp h) H locs ls hP hD hS hl) (fun h => kf (fun z => h ((lg_cmp_ge x y).mpr z)) H locs ls hP hD hS hl))
theorem x_lcmp_gt (hC : XC p s m args c D cl tys A nL cc TB own) {x y : Int64} {off : Int} {tgt : Nat} (hd0 : decode cc pc = .ok (.lcmp, 1)) (hd : decode cc (pc + 1) = .ok (.ifCond .gt off, 3)) (ht : ((pc + 1 : Nat) : Int) + off = (tgt : Int)) (kt : y < x → XW p l e R s m args below meth c D cl A nL Q cells slots ws tgt lv st) (kf : ¬ y < x → XW p l e R s m args below meth c D cl A nL Q cells slots ws (pc + 1 + 3) lv st) : XW p l e R s m args below meth c D cl A nL Q cells slots ws pc lv (.long y :: .long x :: st) := fun H locs ls hP hD hS hl => W.lcmp hC.1.1 hC.1.2.1 hd0 (lv_if_gt hC.1.1 hC.1.2.1 hd ht (fun h => kt ((lg_cmp_gt x y).mp h) H locs ls hP hD hS hl) (fun h => kf (fun z => h ((lg_cmp_gt x y).mpr z)) H locs ls hP hD hS hl))
theorem x_lcmp_le (hC : XC p s m args c D cl tys A nL cc TB own) {x y : Int64} {off : Int} {tgt : Nat} (hd0 : decode cc pc = .ok (.lcmp, 1)) (hd : decode cc (pc + 1) = .ok (.ifCond .le off, 3)) (ht : ((pc + 1 : Nat) : Int) + off = (tgt : Int)) (kt : x ≤ y → XW p l e R s m args below meth c D cl A nL Q cells slots ws tgt lv st) (kf : ¬ x ≤ y → XW p l e R s m args below meth c D cl A nL Q cells slots ws (pc + 1 + 3) lv st) : XW p l e R s m args below meth c D cl A nL Q cells slots ws pc lv (.long y :: .long x :: st) := fun H locs ls hP hD hS hl => W.lcmp hC.1.1 hC.1.2.1 hd0 (lv_if_le hC.1.1 hC.1.2.1 hd ht (fun h => kt ((lg_cmp_le x y).mp h) H locs ls hP hD hS hl) (fun h => kf (fun z => h ((lg_cmp_le x y).mpr z)) H locs ls hP hD hS hl))
theorem x_goto (hC : XC p s m args c D cl tys A nL cc TB own) {off : Int} {tgt : Nat} (hd : decode cc pc = .ok (.goto off, 3)) (ht : (pc : Int) + off = (tgt : Int)) (k : XW p l e R s m args below meth c D cl A nL Q cells slots ws tgt lv st) : XW p l e R s m args below meth c D cl A nL Q cells slots ws pc lv st := fun H locs ls hP hD hS hl => lv_goto hC.1.1 hC.1.2.1 hd ht (k H locs ls hP hD hS hl)
theorem x_ldc2 (hC : XC p s m args c D cl tys A nL cc TB own) {index : Nat} {v : Int64} (hw : Jvm.Cond.constantLong own index v ∈ TB) (hd : decode cc pc = .ok (.ldc2_w index, 3)) (k : XW p l e R s m args below meth c D cl A nL Q cells slots ws (pc + 3) lv (.long v :: st)) : XW p l e R s m args below meth c D cl A nL Q cells slots ws pc lv st := fun H locs ls hP hD hS hl => lv_ldc2 hC.1.1 hC.1.2.1 hC.1.2.2.2.1 (hC.ts hw) hd (k H locs ls hP hD hS hl)
theorem x_ldc (hC : XC p s m args c D cl tys A nL cc TB own) {index : Nat} {v : Int32} (hw : Jvm.Cond.constant own index v ∈ TB) (hd : decode cc pc = .ok (.ldc index, 2)) (k : XW p l e R s m args below meth c D cl A nL Q cells slots ws (pc + 2) lv (.int v :: st)) : XW p l e R s m args below meth c D cl A nL Q cells slots ws pc lv st := fun H locs ls hP hD hS hl => lv_ldc hC.1.1 hC.1.2.1 hC.1.2.2.2.1 (hC.ts hw) hd (k H locs ls hP hD hS hl)
theorem x_get (hC : XC p s m args c D cl tys A nL cc TB own) {ref C : String} {T : u_T} {N ci index a : Nat} (hin : ∀ w ∈ u_ws C T N, w ∈ TB) (q0 : Nat) {fs : List Value} (he : ws[q0]? = some (a, .inr (ci, fs))) (hc : cl[ci]? = some (C, T, N)) (i : Nat) (hi : i < N) (hlink : Cond.fieldLink own index ref (T i).2.1 (T i).2.2.1 ∈ TB) (hsame : ref = (T i).1) {v : Value} (hv : fs[i]? = some v) (hd : decode cc pc = .ok (.getfield index, 3)) (k : XW p l e R s m args below meth c D cl A nL Q cells slots ws (pc + 3) lv (v :: st)) : XW p l e R s m args below meth c D cl A nL Q cells slots ws pc lv (.ref a :: st) := fun H locs ls hP hD hS hl => va_get hC.1.1 hC.1.2.1 hC.1.2.2.2.2 hin hC.1.2.2.2.1 hC.2.1 hP q0 he hc i hi (hC.ts hlink) (fun x hx => by rw [hsame]; exact hx) hv hd (k H locs ls hP hD hS hl)
theorem x_put (hC : XC p s m args c D cl tys A nL cc TB own) {ref C : String} {T : u_T} {N ci index a : Nat} (hin : ∀ w ∈ u_ws C T N, w ∈ TB) (q0 : Nat) {fs : List Value} (he : ws[q0]? = some (a, .inr (ci, fs))) (hc : cl[ci]? = some (C, T, N)) (i : Nat) (hi : i < N) (hlink : Cond.fieldLink own index ref (T i).2.1 (T i).2.2.1 ∈ TB) (hsame : ref = (T i).1) (ty0 : Nat → FieldType) (hty : ∀ k, k < N → parseFieldDescriptor (T k).2.2.1 = some (ty0 k)) (hnm : ∀ a, a < N → ∀ b, b < N → a ≠ b → (T a).2.1 ≠ (T b).2.1) (hfin : (T i).2.2.2 = false) {ty : FieldType} {v : Value} (hdt : parseFieldDescriptor (T i).2.2.1 = some ty) (hn : narrow ty v = v) (hfit : fits ty v = true) (hl0 : i < fs.length) (hset : ws.set q0 (a, .inr (ci, fs.set i v)) = ws') (hd : decode cc pc = .ok (.putfield index, 3)) (k : XW p l e R s m args below meth c D cl A nL Q cells slots ws'  (pc + 3) lv st) : XW p l e R s m args below meth c D cl A nL Q cells slots ws pc lv (v :: .ref a :: st) := by
  subst hset
  exact fun H locs ls hP hD hS hl => va_put hC.1.1 hC.1.2.1 hC.1.2.2.2.2 hin ty0 hty hnm hC.1.2.2.2.1 hC.2.1 hP hD hS q0 he hc i hi (hC.ts hlink) (fun x hx => by rw [hsame]; exact hx) hfin hdt hn hfit hl0 hd (fun H1 locs1 hP1 hD1 hS1 => k H1 locs1 ls hP1 hD1 hS1 hl)
theorem x_putF (hC : XC p s m args c D cl tys A nL cc TB own) {ref C : String} {T : u_T} {N ci index a : Nat} (hin : ∀ w ∈ u_ws C T N, w ∈ TB) (q0 : Nat) {fs : List Value} (he : ws[q0]? = some (a, .inr (ci, fs))) (hc : cl[ci]? = some (C, T, N)) (i : Nat) (hi : i < N) (hlink : Cond.fieldLink own index ref (T i).2.1 (T i).2.2.1 ∈ TB) (hsame : ref = (T i).1) (ty0 : Nat → FieldType) (hty : ∀ k, k < N → parseFieldDescriptor (T k).2.2.1 = some (ty0 k)) (hnm : ∀ a, a < N → ∀ b, b < N → a ≠ b → (T a).2.1 ≠ (T b).2.1) (hfin : (T i).2.2.2 = true) (hin2 : meth.name = "<init>") (hdecl : (T i).1 = own) {ty : FieldType} {v : Value} (hdt : parseFieldDescriptor (T i).2.2.1 = some ty) (hn : narrow ty v = v) (hfit : fits ty v = true) (hl0 : i < fs.length) (hset : ws.set q0 (a, .inr (ci, fs.set i v)) = ws') (hd : decode cc pc = .ok (.putfield index, 3)) (k : XW p l e R s m args below meth c D cl A nL Q cells slots ws'  (pc + 3) lv st) : XW p l e R s m args below meth c D cl A nL Q cells slots ws pc lv (v :: .ref a :: st) := by
  subst hset
  exact fun H locs ls hP hD hS hl => va_putF hC.1.1 hC.1.2.1 hC.1.2.2.2.2 hin ty0 hty hnm hC.1.2.2.2.1 hC.2.1 hP hD hS q0 he hc i hi (hC.ts hlink) (fun x hx => by rw [hsame]; exact hx) hfin hin2 hdecl hdt hn hfit hl0 hd (fun H1 locs1 hP1 hD1 hS1 => k H1 locs1 ls hP1 hD1 hS1 hl)
theorem x_iald (hC : XC p s m args c D cl tys A nL cc TB own) {a : Nat} (q0 t0 : Nat) {cA : ClassId} {n : Nat} {f : Nat → Int32} (ha : ws[q0]? = some (a, .inl (cA, n, .inl f))) (ht : tys[t0]? = some (cA, .int)) {i : Int32} (hin : vp_in i n) (hd : decode cc pc = .ok (.iaload, 1)) (k : XW p l e R s m args below meth c D cl A nL Q cells slots ws (pc + 1) lv (.int (f i.toNatClampNeg) :: st)) : XW p l e R s m args below meth c D cl A nL Q cells slots ws pc lv (.int i :: .ref a :: st) := fun H locs ls hP hD hS hl => va_iald hC.1.1 hC.1.2.1 hC.2.1 hP q0 t0 ha ht hin hd (k H locs ls hP hD hS hl)
theorem x_iast (hC : XC p s m args c D cl tys A nL cc TB own) {a : Nat} (q0 t0 : Nat) {cA : ClassId} {n : Nat} {f : Nat → Int32} (ha : ws[q0]? = some (a, .inl (cA, n, .inl f))) (ht : tys[t0]? = some (cA, .int)) {i : Int32} {x : Int32} (hin : vp_in i n) (hset : ws.set q0 (a, .inl (cA, n, .inl (upd f i.toNatClampNeg x))) = ws') (hd : decode cc pc = .ok (.iastore, 1)) (k : XW p l e R s m args below meth c D cl A nL Q cells slots ws'  (pc + 1) lv st) : XW p l e R s m args below meth c D cl A nL Q cells slots ws pc lv (.int x :: .int i :: .ref a :: st) := by
  subst hset
  exact fun H locs ls hP hD hS hl => va_iast hC.1.1 hC.1.2.1 hC.2.1 hP hD hS q0 t0 ha ht hin hd (fun H1 locs1 hP1 hD1 hS1 => k H1 locs1 ls hP1 hD1 hS1 hl)
theorem x_lald (hC : XC p s m args c D cl tys A nL cc TB own) {a : Nat} (q0 t0 : Nat) {cA : ClassId} {n : Nat} {f : Nat → Int64} (ha : ws[q0]? = some (a, .inl (cA, n, .inr (.inl f)))) (ht : tys[t0]? = some (cA, .long)) {i : Int32} (hin : vp_in i n) (hd : decode cc pc = .ok (.laload, 1)) (k : XW p l e R s m args below meth c D cl A nL Q cells slots ws (pc + 1) lv (.long (f i.toNatClampNeg) :: st)) : XW p l e R s m args below meth c D cl A nL Q cells slots ws pc lv (.int i :: .ref a :: st) := fun H locs ls hP hD hS hl => va_lald hC.1.1 hC.1.2.1 hC.2.1 hP q0 t0 ha ht hin hd (k H locs ls hP hD hS hl)
theorem x_last (hC : XC p s m args c D cl tys A nL cc TB own) {a : Nat} (q0 t0 : Nat) {cA : ClassId} {n : Nat} {f : Nat → Int64} (ha : ws[q0]? = some (a, .inl (cA, n, .inr (.inl f)))) (ht : tys[t0]? = some (cA, .long)) {i : Int32} {x : Int64} (hin : vp_in i n) (hset : ws.set q0 (a, .inl (cA, n, .inr (.inl (vp_updL f i.toNatClampNeg x)))) = ws') (hd : decode cc pc = .ok (.lastore, 1)) (k : XW p l e R s m args below meth c D cl A nL Q cells slots ws'  (pc + 1) lv st) : XW p l e R s m args below meth c D cl A nL Q cells slots ws pc lv (.long x :: .int i :: .ref a :: st) := by
  subst hset
  exact fun H locs ls hP hD hS hl => va_last hC.1.1 hC.1.2.1 hC.2.1 hP hD hS q0 t0 ha ht hin hd (fun H1 locs1 hP1 hD1 hS1 => k H1 locs1 ls hP1 hD1 hS1 hl)
theorem x_aald (hC : XC p s m args c D cl tys A nL cc TB own) {a : Nat} (q0 t0 : Nat) {cA : ClassId} {n : Nat} {f : Nat → Option Nat} {ty : FieldType} (ha : ws[q0]? = some (a, .inl (cA, n, .inr (.inr (.inr (.inr f)))))) (ht : tys[t0]? = some (cA, ty)) (hr : ty.isReference = true) {i : Int32} (hin : vp_in i n) {y : Nat} (hy : f i.toNatClampNeg = some y) (hd : decode cc pc = .ok (.aaload, 1)) (k : XW p l e R s m args below meth c D cl A nL Q cells slots ws (pc + 1) lv (.ref y :: st)) : XW p l e R s m args below meth c D cl A nL Q cells slots ws pc lv (.int i :: .ref a :: st) := by
  intro H locs ls hP hD hS hl
  have hlt : i.toNatClampNeg < n := Nat.not_le.mp fun q => hin (Or.inr q)
  exact W.aald (v := .ref y) (ty := ty) hC.1.1 hC.1.2.1 (hP q0 _ ha) ((hC.2.1.2 t0 _ ht).1 n (fun j => va_rf (f j))) hr (fun q => by cases q) (by show ¬ (i < 0 ∨ (arrV _ _ _).slots.size ≤ _); rw [arrV_size]; exact hin) (by show (arrV _ _ _).slots[_]? = _; rw [arrV_read _ _ hlt, hy]; rfl) rfl rfl hd (k H locs ls hP hD hS hl)
theorem x_alen (hC : XC p s m args c D cl tys A nL cc TB own) {a : Nat} (q0 t0 : Nat) {cA : ClassId} {x : vp_A} {ty : FieldType} (ha : ws[q0]? = some (a, .inl (cA, x))) (ht : tys[t0]? = some (cA, ty)) {v : Int32} (hv : Int32.ofNat x.1 = v) (hd : decode cc pc = .ok (.arraylength, 1)) (k : XW p l e R s m args below meth c D cl A nL Q cells slots ws (pc + 1) lv (.int v :: st)) : XW p l e R s m args below meth c D cl A nL Q cells slots ws pc lv (.ref a :: st) := fun H locs ls hP hD hS hl => va_alen hC.1.1 hC.1.2.1 hC.2.1 hP q0 t0 ha ht hv hd (k H locs ls hP hD hS hl)
theorem x_mminl (hC : XC p s m args c D cl tys A nL cc TB own) {index : Nat} {x y : Int64} (hlink : Cond.methodLink own index Lib.MathLoose.min_long.x ∈ TB) (hstat : Cond.static Lib.MathLoose.min_long.x ∈ TB) (hini : Cond.initialized "java/lang/Math" ∈ TB) (hcode : Cond.code Lib.MathLoose.min_long.x Lib.MathLoose.min_long.code 4 (some .long) ∈ TB) (hfr : 1 ≤ R.frames) (hlo : (st.map fun v => v.category).sum + 15 ≤ R.locals) (hce : cells ≤ R.cells) (hsl : slots ≤ R.slots) (hd : decode cc pc = .ok (.invokestatic index, 3)) (k : XW p l e R s m args below meth c D cl A nL Q cells slots ws (pc + 3) lv (.long (if y < x then y else x) :: st)) : XW p l e R s m args below meth c D cl A nL Q cells slots ws pc lv (.long y :: .long x :: st) := fun H locs ls hP hD hS hl => va_mmin_long hC.1.1 hC.1.2.1 (hC.1.2.2.1.trans hl.1.symm) hC.1.2.2.2.1 (hC.ts hlink) (hC.ts hstat) (hC.ts hini) (hC.ts hcode) hfr hlo hce hsl hd (k H locs ls hP hD hS hl)
theorem x_mmaxl (hC : XC p s m args c D cl tys A nL cc TB own) {index : Nat} {x y : Int64} (hlink : Cond.methodLink own index Lib.MathLoose.max_long.x ∈ TB) (hstat : Cond.static Lib.MathLoose.max_long.x ∈ TB) (hini : Cond.initialized "java/lang/Math" ∈ TB) (hcode : Cond.code Lib.MathLoose.max_long.x Lib.MathLoose.max_long.code 4 (some .long) ∈ TB) (hfr : 1 ≤ R.frames) (hlo : (st.map fun v => v.category).sum + 15 ≤ R.locals) (hce : cells ≤ R.cells) (hsl : slots ≤ R.slots) (hd : decode cc pc = .ok (.invokestatic index, 3)) (k : XW p l e R s m args below meth c D cl A nL Q cells slots ws (pc + 3) lv (.long (if y < x then x else y) :: st)) : XW p l e R s m args below meth c D cl A nL Q cells slots ws pc lv (.long y :: .long x :: st) := fun H locs ls hP hD hS hl => va_mmax_long hC.1.1 hC.1.2.1 (hC.1.2.2.1.trans hl.1.symm) hC.1.2.2.2.1 (hC.ts hlink) (hC.ts hstat) (hC.ts hini) (hC.ts hcode) hfr hlo hce hsl hd (k H locs ls hP hD hS hl)
theorem x_swIn (hC : XC p s m args c D cl tys A nL cc TB own) (v : Int32) {dflt lo hi : Int} {offs : Array Int} {len : Nat} {x : Int32} {off : Int} {tgt : Nat} (hx : x = v) (hd : decode cc pc = .ok (.tableswitch dflt lo hi offs, len)) (h1 : ¬ v.toInt < lo) (h2 : ¬ hi < v.toInt) (ho : offs[(v.toInt - lo).toNat]? = some off) (ht : (pc : Int) + off = (tgt : Int)) (k : XW p l e R s m args below meth c D cl A nL Q cells slots ws tgt lv st) : XW p l e R s m args below meth c D cl A nL Q cells slots ws pc lv (.int x :: st) := by
  subst hx
  exact fun H locs ls hP hD hS hl => lv_tableIn hC.1.1 hC.1.2.1 hd h1 h2 ho ht (k H locs ls hP hD hS hl)
theorem x_swOut (hC : XC p s m args c D cl tys A nL cc TB own) {dflt lo hi : Int} {offs : Array Int} {len : Nat} {x : Int32} {tgt : Nat} (hd : decode cc pc = .ok (.tableswitch dflt lo hi offs, len)) (h : x.toInt < lo ∨ hi < x.toInt) (ht : (pc : Int) + dflt = (tgt : Int)) (k : XW p l e R s m args below meth c D cl A nL Q cells slots ws tgt lv st) : XW p l e R s m args below meth c D cl A nL Q cells slots ws pc lv (.int x :: st) := fun H locs ls hP hD hS hl => lv_tableOut hC.1.1 hC.1.2.1 hd h ht (k H locs ls hP hD hS hl)
theorem x_neI {x v : Int32} {n : Int} (hv : v.toInt = n) (h : ¬ x = v) : x.toInt ≠ n := fun q => h (Int32.toInt_inj.mp (q.trans hv.symm))
theorem x_widen {k n : Nat} (h1 : cells ≤ k) (h2 : slots ≤ n) (kk : XW p l e R s m args below meth c D cl A nL Q k n ws pc lv st) : XW p l e R s m args below meth c D cl A nL Q cells slots ws pc lv st := fun H locs ls hP hD hS hl => W.widen h1 h2 (kk H locs ls hP hD hS hl)
theorem x_iret (hC : XC p s m args c D cl tys A nL cc TB own) {S : Type} {post : Int32 → S → Prop} {r : Int32} {u : S} {wf : S → va_W} {XQ : String → State → State → Prop} {mc2 ms2 : Nat} (hmc : cells ≤ mc2) (hms : slots ≤ ms2) (hr : meth.sig.returnType = some .int) (hlocks : meth.locks = false)  (hd : decode cc pc = .ok (.ireturn, 1)) (hq : post r u) (hw : wf u = ws) : XW p l e R s m args below meth c D cl A nL (vx_MQ below (va_Qi post (fun u t => XB D cl tys A (wf u) t) A) XQ args s mc2 ms2 A) cells slots ws pc lv [.int r] := by
  subst hw
  intro H locs ls hP hD hS hl
  exact W.widen hmc hms (vx_ret (W.iret hC.1.1 hC.1.2.1 hr  (fun t ht hW => ⟨⟨r, u, rfl, hq, by rw [ht]; exact hP, va_K.moved hW.alike hC.2.1, hD⟩, hS.F ht⟩) hS.2.2 hd hlocks))
theorem x_zret (hC : XC p s m args c D cl tys A nL cc TB own) {S : Type} {post : Int32 → S → Prop} {r : Int32} {u : S} {wf : S → va_W} {XQ : String → State → State → Prop} {mc2 ms2 : Nat} (hmc : cells ≤ mc2) (hms : slots ≤ ms2) (hr : meth.sig.returnType = some .boolean) (hlocks : meth.locks = false) (hb0 : x_bool r) (hd : decode cc pc = .ok (.ireturn, 1)) (hq : post r u) (hw : wf u = ws) : XW p l e R s m args below meth c D cl A nL (vx_MQ below (va_Qi post (fun u t => XB D cl tys A (wf u) t) A) XQ args s mc2 ms2 A) cells slots ws pc lv [.int r] := by
  subst hw
  intro H locs ls hP hD hS hl
  exact W.widen hmc hms (vx_ret (W.zret hC.1.1 hC.1.2.1 hr (x_bool_nar hb0) (fun t ht hW => ⟨⟨r, u, rfl, hq, by rw [ht]; exact hP, va_K.moved hW.alike hC.2.1, hD⟩, hS.F ht⟩) hS.2.2 hd hlocks))
theorem x_lret (hC : XC p s m args c D cl tys A nL cc TB own) {S : Type} {post : Int64 → S → Prop} {r : Int64} {u : S} {wf : S → va_W} {XQ : String → State → State → Prop} {mc2 ms2 : Nat} (hmc : cells ≤ mc2) (hms : slots ≤ ms2) (hr : meth.sig.returnType = some .long) (hlocks : meth.locks = false)  (hd : decode cc pc = .ok (.lreturn, 1)) (hq : post r u) (hw : wf u = ws) : XW p l e R s m args below meth c D cl A nL (vx_MQ below (va_Ql post (fun u t => XB D cl tys A (wf u) t) A) XQ args s mc2 ms2 A) cells slots ws pc lv [.long r] := by
  subst hw
  intro H locs ls hP hD hS hl
  exact W.widen hmc hms (vx_ret (W.lret hC.1.1 hC.1.2.1 hr  (fun t ht hW => ⟨⟨r, u, rfl, hq, by rw [ht]; exact hP, va_K.moved hW.alike hC.2.1, hD⟩, hS.F ht⟩) hS.2.2 hd hlocks))
theorem x_vret (hC : XC p s m args c D cl tys A nL cc TB own) {S : Type} {post : S → Prop} {u : S} {wf : S → va_W} {XQ : String → State → State → Prop} {mc2 ms2 : Nat} (hmc : cells ≤ mc2) (hms : slots ≤ ms2) (hr : meth.sig.returnType = none) (hlocks : meth.locks = false)  (hd : decode cc pc = .ok (.return_, 1)) (hq : post u) (hw : wf u = ws) : XW p l e R s m args below meth c D cl A nL (vx_MQ below (va_Qv post (fun u t => XB D cl tys A (wf u) t) A) XQ args s mc2 ms2 A) cells slots ws pc lv [] := by
  subst hw
  intro H locs ls hP hD hS hl
  exact W.widen hmc hms (vx_ret (W.vret hC.1.1 hC.1.2.1 hr  (fun t ht hW => ⟨⟨u, rfl, hq, by rw [ht]; exact hP, va_K.moved hW.alike hC.2.1, hD⟩, hS.F ht⟩) hS.2.2 hd hlocks))
theorem x_good {y : MethodName} {bytes : ByteArray} {maxL : Nat} {ret : Option FieldType} (hcode : Cond.code y bytes maxL ret ∈ TB) (hG : GoodIn TB TB) : GoodIn (Cond.code y bytes maxL ret :: TB) (Cond.code y bytes maxL ret :: TB) := by
  intro w hw
  rcases List.mem_cons.mp hw with h | h
  · subst h; exact ⟨List.mem_cons_self, (hG _ hcode).2⟩
  · exact ⟨List.mem_cons_of_mem _ h, (hG _ h).2⟩
/-- the callee's words at any state that this one's tables grow into -/
theorem XC.words (hC : XC p s m args c D cl tys A nL cc TB own) {y : MethodName} {bytes : ByteArray} {maxL : Nat} {ret : Option FieldType} (hcode : Cond.code y bytes maxL ret ∈ TB) : ∀ w ∈ (Cond.code y bytes maxL ret :: TB), ∀ (a' : Array Value) (U : State), s.WarmedH U.vm → w.before a' U = true :=
  pay_in (fun w hw => by
    rcases List.mem_cons.mp hw with h | h
    · rw [h]; exact hC.ts hcode
    · exact hC.ts h) (x_good hcode hC.2.2.2.1)
/-- the callee's start out of the caller's state -/
theorem XC.start (hC : XC p s m args c D cl tys A nL cc TB own) {H : Heap} {locs : List Loc} (hP : va_P D cl ws H) (hD : va_D A ws) (hS : va_S A s.heap H locs) {U : State} (hU : U.heap = H) (hW : s.WarmedH U.vm) : XP D cl tys ws H.size U :=
  ⟨by rw [hU], by rw [hU]; exact hP, va_K.moved hW.alike hC.2.1, hD.weaken (fun _ _ _ _ => trivial), by rw [hU]; exact ((hC.2.2.2.2.kept hS.2.1).narrow (hC.free hD hS)).moved hW⟩
theorem x_blind {av : List Value} {sz : Nat} : FrameBlind (va_Pc av (XP D cl tys ws sz)) := fun a U g mk q => by
  obtain ⟨q0, q1, qP, qK, qD, qE⟩ := q
  exact ⟨q0, q1, qP, va_K.moved (u := U) (U := U.calling g mk a) (Vm.Alike.refl U.vm) qK, qD, XEn.same (s := U) (U := U.calling g mk a) qE rfl⟩
theorem x_callVi (hC : XC p s m args c D cl tys A nL cc TB own) {S : Type} {wf : S → va_W} {Qt : Nat → Prop} {y : MethodName} {bytes : ByteArray} {maxL index : Nat} {ret : Option FieldType} {rm : Room} {post : Int32 → S → Prop} {b q0 ci : Nat} {fs : List Value} {C : String} {TT : u_T} {N : Nat} (As : List Value) (hM : ∀ sz : Nat, vx_Met l y (Cond.code y bytes maxL ret :: TB) rm (va_Pc (.ref b :: As) (XP D cl tys ws sz)) (va_Qi post (fun u t => XB D cl tys (va_A ws sz) (wf u) t) (va_A ws sz)) (XT D cl tys (va_A ws sz) ws Qt) rm.cells rm.slots (va_A ws sz)) (hfr : rm.frames + 1 ≤ R.frames) (hlo : 8 + (maxL + 11) + rm.locals ≤ R.locals) (hcode : Cond.code y bytes maxL ret ∈ TB) (hini : Cond.initialized y.cls ∈ TB) (hlink : Cond.methodLink own index y ∈ TB) (hy : (y.cls ≠ "java/lang/invoke/MethodHandle" ∧ y.cls ≠ "java/lang/invoke/VarHandle")) (n : Nat) (hn : As.length = n) (hlen : (parseMethodDescriptor y.desc).map (fun d => d.parameters.length) = some n) (hf : cells + rm.cells ≤ R.cells ∧ slots + rm.slots ≤ R.slots) (hst : (st.map fun v => v.category).sum ≤ 8) (hinst : Cond.instanceMethod y ∈ TB) (hsel : Cond.selects C y y ∈ TB) (he : ws[q0]? = some (b, .inr (ci, fs))) (hc : cl[ci]? = some (C, TT, N)) {st0 : List Value} (hstk : st0 = As.reverse ++ .ref b :: st) (hd : decode cc pc = .ok (.invokevirtual index, 3)) (hno : ∀ k, ¬ Qt k) (k : ∀ (r : Int32) (u : S), post r u → XW p l e R s m args below meth c D cl A nL Q (cells + rm.cells) (slots + rm.slots) (wf u) (pc + 3) lv (.int r :: st)) : XW p l e R s m args below meth c D cl A nL Q cells slots ws pc lv st0 := by
  intro H locs ls hP hD hS hl
  exact vx_calli (vx_runV (C := C) (bytes := bytes) (maxL := maxL) (ret := ret) (As := As) (rest := st) hC.1 (hM H.size) ⟨⟨rfl, rfl, hfr, hlo, hC.words hcode, List.mem_cons_self, hC.ts hcode, hC.ts hini, hy, fun sig h => by (rw [h] at hlen; exact (Option.some.inj hlen).symm), hC.ts hlink⟩, hC.ts hinst, hC.ts hsel⟩ ⟨x_blind, va_recv hC.2.1 hP hc he, fun U hU hW => ⟨rfl, hC.start hP hD hS hU hW⟩⟩ rfl hn hl.1 hstk (lv_room hst) hd hf) hS (fun q _ h => hC.free hD hS q h) (hC.free hD hS) (fun q _ h => hC.free hD hS q h) (fun E ce q9 k9 t H1 locs1 ht hvm hp => absurd hp (hno k9)) (fun r u t H1 locs1 ht hvm hw hB hz1 hk1 hS1 => k r u hw H1 locs1 ls (by rw [← ht]; exact hB.1) (hB.2.2.weaken (fun _ q _ h => hC.free hD hS q.1 h)) hS1 hl)
theorem x_callViT (hC : XC p s m args c D cl tys A nL cc TB own) {S : Type} {wf : S → va_W} {Qt : Nat → Prop} {y : MethodName} {bytes : ByteArray} {maxL index : Nat} {ret : Option FieldType} {rm : Room} {post : Int32 → S → Prop} {b q0 ci : Nat} {fs : List Value} {C : String} {TT : u_T} {N : Nat} {QR : Array Value → State → Outcome → State → Prop} {PT : Nat → Prop} {mc2 ms2 : Nat} (hmc : cells + rm.cells ≤ mc2) (hms : slots + rm.slots ≤ ms2) (As : List Value) (hM : ∀ sz : Nat, vx_Met l y (Cond.code y bytes maxL ret :: TB) rm (va_Pc (.ref b :: As) (XP D cl tys ws sz)) (va_Qi post (fun u t => XB D cl tys (va_A ws sz) (wf u) t) (va_A ws sz)) (XT D cl tys (va_A ws sz) ws Qt) rm.cells rm.slots (va_A ws sz)) (hfr : rm.frames + 1 ≤ R.frames) (hlo : 8 + (maxL + 11) + rm.locals ≤ R.locals) (hcode : Cond.code y bytes maxL ret ∈ TB) (hini : Cond.initialized y.cls ∈ TB) (hlink : Cond.methodLink own index y ∈ TB) (hy : (y.cls ≠ "java/lang/invoke/MethodHandle" ∧ y.cls ≠ "java/lang/invoke/VarHandle")) (n : Nat) (hn : As.length = n) (hlen : (parseMethodDescriptor y.desc).map (fun d => d.parameters.length) = some n) (hf : cells + rm.cells ≤ R.cells ∧ slots + rm.slots ≤ R.slots) (hst : (st.map fun v => v.category).sum ≤ 8) (hinst : Cond.instanceMethod y ∈ TB) (hsel : Cond.selects C y y ∈ TB) (he : ws[q0]? = some (b, .inr (ci, fs))) (hc : cl[ci]? = some (C, TT, N)) {st0 : List Value} (hstk : st0 = As.reverse ++ .ref b :: st) (hd : decode cc pc = .ok (.invokevirtual index, 3)) (hlocks : meth.locks = false) (hnh : ∀ x ∈ c.exceptionTable.toList, False) (hT2 : ∀ k, Qt k → PT k) (k : ∀ (r : Int32) (u : S), post r u → XW p l e R s m args below meth c D cl A nL (vx_MQ below QR (XT D cl tys A ws PT) args s mc2 ms2 A) (cells + rm.cells) (slots + rm.slots) (wf u) (pc + 3) lv (.int r :: st)) : XW p l e R s m args below meth c D cl A nL (vx_MQ below QR (XT D cl tys A ws PT) args s mc2 ms2 A) cells slots ws pc lv st0 := by
  intro H locs ls hP hD hS hl
  refine vx_calli (vx_runV (C := C) (bytes := bytes) (maxL := maxL) (ret := ret) (As := As) (rest := st) hC.1 (hM H.size) ⟨⟨rfl, rfl, hfr, hlo, hC.words hcode, List.mem_cons_self, hC.ts hcode, hC.ts hini, hy, fun sig h => by (rw [h] at hlen; exact (Option.some.inj hlen).symm), hC.ts hlink⟩, hC.ts hinst, hC.ts hsel⟩ ⟨x_blind, va_recv hC.2.1 hP hc he, fun U hU hW => ⟨rfl, hC.start hP hD hS hU hW⟩⟩ rfl hn hl.1 hstk (lv_room hst) hd hf) hS (fun q _ h => hC.free hD hS q h) (hC.free hD hS) (fun q _ h => hC.free hD hS q h) (fun E ce q9 k9 t H1 locs1 ht hvm hp hB hz1 hk1 hS1 hce hcv hcl => ?_) (fun r u t H1 locs1 ht hvm hw hB hz1 hk1 hS1 => k r u hw H1 locs1 ls (by rw [← ht]; exact hB.1) (hB.2.2.weaken (fun _ q _ h => hC.free hD hS q.1 h)) hS1 hl)
  obtain ⟨hE, hB1, -, hB3⟩ := hB
  rw [ht] at hB1
  exact vx_out (fun x hx => absurd (hnh x hx) id) hlocks hce hcv hcl (fun t2 ht2 hal2 => ⟨k9, hT2 k9 hp, ⟨hE, by rw [ht2]; exact hB1, va_K.moved hal2 hC.2.1, hB3.weaken (fun _ q _ h => hC.free hD hS q.1 h)⟩, hS1.F ht2⟩) hS1.2.2 hmc hms
theorem x_callSi (hC : XC p s m args c D cl tys A nL cc TB own) {S : Type} {wf : S → va_W} {Qt : Nat → Prop} {y : MethodName} {bytes : ByteArray} {maxL index : Nat} {ret : Option FieldType} {rm : Room} {post : Int32 → S → Prop} (As : List Value) (hM : ∀ sz : Nat, vx_Met l y (Cond.code y bytes maxL ret :: TB) rm (va_Pc As (XP D cl tys ws sz)) (va_Qi post (fun u t => XB D cl tys (va_A ws sz) (wf u) t) (va_A ws sz)) (XT D cl tys (va_A ws sz) ws Qt) rm.cells rm.slots (va_A ws sz)) (hfr : rm.frames + 1 ≤ R.frames) (hlo : 8 + (maxL + 11) + rm.locals ≤ R.locals) (hcode : Cond.code y bytes maxL ret ∈ TB) (hini : Cond.initialized y.cls ∈ TB) (hlink : Cond.methodLink own index y ∈ TB) (hy : (y.cls ≠ "java/lang/invoke/MethodHandle" ∧ y.cls ≠ "java/lang/invoke/VarHandle")) (n : Nat) (hn : As.length = n) (hlen : (parseMethodDescriptor y.desc).map (fun d => d.parameters.length) = some n) (hf : cells + rm.cells ≤ R.cells ∧ slots + rm.slots ≤ R.slots) (hst : (st.map fun v => v.category).sum ≤ 8) (hstat : Cond.static y ∈ TB) {st0 : List Value} (hstk : st0 = As.reverse ++ st) (hd : decode cc pc = .ok (.invokestatic index, 3)) (hno : ∀ k, ¬ Qt k) (k : ∀ (r : Int32) (u : S), post r u → XW p l e R s m args below meth c D cl A nL Q (cells + rm.cells) (slots + rm.slots) (wf u) (pc + 3) lv (.int r :: st)) : XW p l e R s m args below meth c D cl A nL Q cells slots ws pc lv st0 := by
  intro H locs ls hP hD hS hl
  exact vx_calli (vx_runS (bytes := bytes) (maxL := maxL) (ret := ret) (As := As) (rest := st) hC.1 (hM H.size) ⟨⟨rfl, rfl, hfr, hlo, hC.words hcode, List.mem_cons_self, hC.ts hcode, hC.ts hini, hy, fun sig h => by (rw [h] at hlen; exact (Option.some.inj hlen).symm), hC.ts hlink⟩, hC.ts hstat⟩ ⟨x_blind, fun U hU hW => ⟨rfl, hC.start hP hD hS hU hW⟩⟩ rfl hn hl.1 hstk (lv_room hst) hd hf) hS (fun q _ h => hC.free hD hS q h) (hC.free hD hS) (fun q _ h => hC.free hD hS q h) (fun E ce q9 k9 t H1 locs1 ht hvm hp => absurd hp (hno k9)) (fun r u t H1 locs1 ht hvm hw hB hz1 hk1 hS1 => k r u hw H1 locs1 ls (by rw [← ht]; exact hB.1) (hB.2.2.weaken (fun _ q _ h => hC.free hD hS q.1 h)) hS1 hl)
theorem x_callSiT (hC : XC p s m args c D cl tys A nL cc TB own) {S : Type} {wf : S → va_W} {Qt : Nat → Prop} {y : MethodName} {bytes : ByteArray} {maxL index : Nat} {ret : Option FieldType} {rm : Room} {post : Int32 → S → Prop} {QR : Array Value → State → Outcome → State → Prop} {PT : Nat → Prop} {mc2 ms2 : Nat} (hmc : cells + rm.cells ≤ mc2) (hms : slots + rm.slots ≤ ms2) (As : List Value) (hM : ∀ sz : Nat, vx_Met l y (Cond.code y bytes maxL ret :: TB) rm (va_Pc As (XP D cl tys ws sz)) (va_Qi post (fun u t => XB D cl tys (va_A ws sz) (wf u) t) (va_A ws sz)) (XT D cl tys (va_A ws sz) ws Qt) rm.cells rm.slots (va_A ws sz)) (hfr : rm.frames + 1 ≤ R.frames) (hlo : 8 + (maxL + 11) + rm.locals ≤ R.locals) (hcode : Cond.code y bytes maxL ret ∈ TB) (hini : Cond.initialized y.cls ∈ TB) (hlink : Cond.methodLink own index y ∈ TB) (hy : (y.cls ≠ "java/lang/invoke/MethodHandle" ∧ y.cls ≠ "java/lang/invoke/VarHandle")) (n : Nat) (hn : As.length = n) (hlen : (parseMethodDescriptor y.desc).map (fun d => d.parameters.length) = some n) (hf : cells + rm.cells ≤ R.cells ∧ slots + rm.slots ≤ R.slots) (hst : (st.map fun v => v.category).sum ≤ 8) (hstat : Cond.static y ∈ TB) {st0 : List Value} (hstk : st0 = As.reverse ++ st) (hd : decode cc pc = .ok (.invokestatic index, 3)) (hlocks : meth.locks = false) (hnh : ∀ x ∈ c.exceptionTable.toList, False) (hT2 : ∀ k, Qt k → PT k) (k : ∀ (r : Int32) (u : S), post r u → XW p l e R s m args below meth c D cl A nL (vx_MQ below QR (XT D cl tys A ws PT) args s mc2 ms2 A) (cells + rm.cells) (slots + rm.slots) (wf u) (pc + 3) lv (.int r :: st)) : XW p l e R s m args below meth c D cl A nL (vx_MQ below QR (XT D cl tys A ws PT) args s mc2 ms2 A) cells slots ws pc lv st0 := by
  intro H locs ls hP hD hS hl
  refine vx_calli (vx_runS (bytes := bytes) (maxL := maxL) (ret := ret) (As := As) (rest := st) hC.1 (hM H.size) ⟨⟨rfl, rfl, hfr, hlo, hC.words hcode, List.mem_cons_self, hC.ts hcode, hC.ts hini, hy, fun sig h => by (rw [h] at hlen; exact (Option.some.inj hlen).symm), hC.ts hlink⟩, hC.ts hstat⟩ ⟨x_blind, fun U hU hW => ⟨rfl, hC.start hP hD hS hU hW⟩⟩ rfl hn hl.1 hstk (lv_room hst) hd hf) hS (fun q _ h => hC.free hD hS q h) (hC.free hD hS) (fun q _ h => hC.free hD hS q h) (fun E ce q9 k9 t H1 locs1 ht hvm hp hB hz1 hk1 hS1 hce hcv hcl => ?_) (fun r u t H1 locs1 ht hvm hw hB hz1 hk1 hS1 => k r u hw H1 locs1 ls (by rw [← ht]; exact hB.1) (hB.2.2.weaken (fun _ q _ h => hC.free hD hS q.1 h)) hS1 hl)
  obtain ⟨hE, hB1, -, hB3⟩ := hB
  rw [ht] at hB1
  exact vx_out (fun x hx => absurd (hnh x hx) id) hlocks hce hcv hcl (fun t2 ht2 hal2 => ⟨k9, hT2 k9 hp, ⟨hE, by rw [ht2]; exact hB1, va_K.moved hal2 hC.2.1, hB3.weaken (fun _ q _ h => hC.free hD hS q.1 h)⟩, hS1.F ht2⟩) hS1.2.2 hmc hms
theorem x_callVl (hC : XC p s m args c D cl tys A nL cc TB own) {S : Type} {wf : S → va_W} {Qt : Nat → Prop} {y : MethodName} {bytes : ByteArray} {maxL index : Nat} {ret : Option FieldType} {rm : Room} {post : Int64 → S → Prop} {b q0 ci : Nat} {fs : List Value} {C : String} {TT : u_T} {N : Nat} (As : List Value) (hM : ∀ sz : Nat, vx_Met l y (Cond.code y bytes maxL ret :: TB) rm (va_Pc (.ref b :: As) (XP D cl tys ws sz)) (va_Ql post (fun u t => XB D cl tys (va_A ws sz) (wf u) t) (va_A ws sz)) (XT D cl tys (va_A ws sz) ws Qt) rm.cells rm.slots (va_A ws sz)) (hfr : rm.frames + 1 ≤ R.frames) (hlo : 8 + (maxL + 11) + rm.locals ≤ R.locals) (hcode : Cond.code y bytes maxL ret ∈ TB) (hini : Cond.initialized y.cls ∈ TB) (hlink : Cond.methodLink own index y ∈ TB) (hy : (y.cls ≠ "java/lang/invoke/MethodHandle" ∧ y.cls ≠ "java/lang/invoke/VarHandle")) (n : Nat) (hn : As.length = n) (hlen : (parseMethodDescriptor y.desc).map (fun d => d.parameters.length) = some n) (hf : cells + rm.cells ≤ R.cells ∧ slots + rm.slots ≤ R.slots) (hst : (st.map fun v => v.category).sum ≤ 8) (hinst : Cond.instanceMethod y ∈ TB) (hsel : Cond.selects C y y ∈ TB) (he : ws[q0]? = some (b, .inr (ci, fs))) (hc : cl[ci]? = some (C, TT, N)) {st0 : List Value} (hstk : st0 = As.reverse ++ .ref b :: st) (hd : decode cc pc = .ok (.invokevirtual index, 3)) (hno : ∀ k, ¬ Qt k) (k : ∀ (r : Int64) (u : S), post r u → XW p l e R s m args below meth c D cl A nL Q (cells + rm.cells) (slots + rm.slots) (wf u) (pc + 3) lv (.long r :: st)) : XW p l e R s m args below meth c D cl A nL Q cells slots ws pc lv st0 := by
  intro H locs ls hP hD hS hl
  exact vx_calll (vx_runV (C := C) (bytes := bytes) (maxL := maxL) (ret := ret) (As := As) (rest := st) hC.1 (hM H.size) ⟨⟨rfl, rfl, hfr, hlo, hC.words hcode, List.mem_cons_self, hC.ts hcode, hC.ts hini, hy, fun sig h => by (rw [h] at hlen; exact (Option.some.inj hlen).symm), hC.ts hlink⟩, hC.ts hinst, hC.ts hsel⟩ ⟨x_blind, va_recv hC.2.1 hP hc he, fun U hU hW => ⟨rfl, hC.start hP hD hS hU hW⟩⟩ rfl hn hl.1 hstk (lv_room hst) hd hf) hS (fun q _ h => hC.free hD hS q h) (hC.free hD hS) (fun q _ h => hC.free hD hS q h) (fun E ce q9 k9 t H1 locs1 ht hvm hp => absurd hp (hno k9)) (fun r u t H1 locs1 ht hvm hw hB hz1 hk1 hS1 => k r u hw H1 locs1 ls (by rw [← ht]; exact hB.1) (hB.2.2.weaken (fun _ q _ h => hC.free hD hS q.1 h)) hS1 hl)
theorem x_callVlT (hC : XC p s m args c D cl tys A nL cc TB own) {S : Type} {wf : S → va_W} {Qt : Nat → Prop} {y : MethodName} {bytes : ByteArray} {maxL index : Nat} {ret : Option FieldType} {rm : Room} {post : Int64 → S → Prop} {b q0 ci : Nat} {fs : List Value} {C : String} {TT : u_T} {N : Nat} {QR : Array Value → State → Outcome → State → Prop} {PT : Nat → Prop} {mc2 ms2 : Nat} (hmc : cells + rm.cells ≤ mc2) (hms : slots + rm.slots ≤ ms2) (As : List Value) (hM : ∀ sz : Nat, vx_Met l y (Cond.code y bytes maxL ret :: TB) rm (va_Pc (.ref b :: As) (XP D cl tys ws sz)) (va_Ql post (fun u t => XB D cl tys (va_A ws sz) (wf u) t) (va_A ws sz)) (XT D cl tys (va_A ws sz) ws Qt) rm.cells rm.slots (va_A ws sz)) (hfr : rm.frames + 1 ≤ R.frames) (hlo : 8 + (maxL + 11) + rm.locals ≤ R.locals) (hcode : Cond.code y bytes maxL ret ∈ TB) (hini : Cond.initialized y.cls ∈ TB) (hlink : Cond.methodLink own index y ∈ TB) (hy : (y.cls ≠ "java/lang/invoke/MethodHandle" ∧ y.cls ≠ "java/lang/invoke/VarHandle")) (n : Nat) (hn : As.length = n) (hlen : (parseMethodDescriptor y.desc).map (fun d => d.parameters.length) = some n) (hf : cells + rm.cells ≤ R.cells ∧ slots + rm.slots ≤ R.slots) (hst : (st.map fun v => v.category).sum ≤ 8) (hinst : Cond.instanceMethod y ∈ TB) (hsel : Cond.selects C y y ∈ TB) (he : ws[q0]? = some (b, .inr (ci, fs))) (hc : cl[ci]? = some (C, TT, N)) {st0 : List Value} (hstk : st0 = As.reverse ++ .ref b :: st) (hd : decode cc pc = .ok (.invokevirtual index, 3)) (hlocks : meth.locks = false) (hnh : ∀ x ∈ c.exceptionTable.toList, False) (hT2 : ∀ k, Qt k → PT k) (k : ∀ (r : Int64) (u : S), post r u → XW p l e R s m args below meth c D cl A nL (vx_MQ below QR (XT D cl tys A ws PT) args s mc2 ms2 A) (cells + rm.cells) (slots + rm.slots) (wf u) (pc + 3) lv (.long r :: st)) : XW p l e R s m args below meth c D cl A nL (vx_MQ below QR (XT D cl tys A ws PT) args s mc2 ms2 A) cells slots ws pc lv st0 := by
  intro H locs ls hP hD hS hl
  refine vx_calll (vx_runV (C := C) (bytes := bytes) (maxL := maxL) (ret := ret) (As := As) (rest := st) hC.1 (hM H.size) ⟨⟨rfl, rfl, hfr, hlo, hC.words hcode, List.mem_cons_self, hC.ts hcode, hC.ts hini, hy, fun sig h => by (rw [h] at hlen; exact (Option.some.inj hlen).symm), hC.ts hlink⟩, hC.ts hinst, hC.ts hsel⟩ ⟨x_blind, va_recv hC.2.1 hP hc he, fun U hU hW => ⟨rfl, hC.start hP hD hS hU hW⟩⟩ rfl hn hl.1 hstk (lv_room hst) hd hf) hS (fun q _ h => hC.free hD hS q h) (hC.free hD hS) (fun q _ h => hC.free hD hS q h) (fun E ce q9 k9 t H1 locs1 ht hvm hp hB hz1 hk1 hS1 hce hcv hcl => ?_) (fun r u t H1 locs1 ht hvm hw hB hz1 hk1 hS1 => k r u hw H1 locs1 ls (by rw [← ht]; exact hB.1) (hB.2.2.weaken (fun _ q _ h => hC.free hD hS q.1 h)) hS1 hl)
  obtain ⟨hE, hB1, -, hB3⟩ := hB
  rw [ht] at hB1
  exact vx_out (fun x hx => absurd (hnh x hx) id) hlocks hce hcv hcl (fun t2 ht2 hal2 => ⟨k9, hT2 k9 hp, ⟨hE, by rw [ht2]; exact hB1, va_K.moved hal2 hC.2.1, hB3.weaken (fun _ q _ h => hC.free hD hS q.1 h)⟩, hS1.F ht2⟩) hS1.2.2 hmc hms
theorem x_callSl (hC : XC p s m args c D cl tys A nL cc TB own) {S : Type} {wf : S → va_W} {Qt : Nat → Prop} {y : MethodName} {bytes : ByteArray} {maxL index : Nat} {ret : Option FieldType} {rm : Room} {post : Int64 → S → Prop} (As : List Value) (hM : ∀ sz : Nat, vx_Met l y (Cond.code y bytes maxL ret :: TB) rm (va_Pc As (XP D cl tys ws sz)) (va_Ql post (fun u t => XB D cl tys (va_A ws sz) (wf u) t) (va_A ws sz)) (XT D cl tys (va_A ws sz) ws Qt) rm.cells rm.slots (va_A ws sz)) (hfr : rm.frames + 1 ≤ R.frames) (hlo : 8 + (maxL + 11) + rm.locals ≤ R.locals) (hcode : Cond.code y bytes maxL ret ∈ TB) (hini : Cond.initialized y.cls ∈ TB) (hlink : Cond.methodLink own index y ∈ TB) (hy : (y.cls ≠ "java/lang/invoke/MethodHandle" ∧ y.cls ≠ "java/lang/invoke/VarHandle")) (n : Nat) (hn : As.length = n) (hlen : (parseMethodDescriptor y.desc).map (fun d => d.parameters.length) = some n) (hf : cells + rm.cells ≤ R.cells ∧ slots + rm.slots ≤ R.slots) (hst : (st.map fun v => v.category).sum ≤ 8) (hstat : Cond.static y ∈ TB) {st0 : List Value} (hstk : st0 = As.reverse ++ st) (hd : decode cc pc = .ok (.invokestatic index, 3)) (hno : ∀ k, ¬ Qt k) (k : ∀ (r : Int64) (u : S), post r u → XW p l e R s m args below meth c D cl A nL Q (cells + rm.cells) (slots + rm.slots) (wf u) (pc + 3) lv (.long r :: st)) : XW p l e R s m args below meth c D cl A nL Q cells slots ws pc lv st0 := by
  intro H locs ls hP hD hS hl
  exact vx_calll (vx_runS (bytes := bytes) (maxL := maxL) (ret := ret) (As := As) (rest := st) hC.1 (hM H.size) ⟨⟨rfl, rfl, hfr, hlo, hC.words hcode, List.mem_cons_self, hC.ts hcode, hC.ts hini, hy, fun sig h => by (rw [h] at hlen; exact (Option.some.inj hlen).symm), hC.ts hlink⟩, hC.ts hstat⟩ ⟨x_blind, fun U hU hW => ⟨rfl, hC.start hP hD hS hU hW⟩⟩ rfl hn hl.1 hstk (lv_room hst) hd hf) hS (fun q _ h => hC.free hD hS q h) (hC.free hD hS) (fun q _ h => hC.free hD hS q h) (fun E ce q9 k9 t H1 locs1 ht hvm hp => absurd hp (hno k9)) (fun r u t H1 locs1 ht hvm hw hB hz1 hk1 hS1 => k r u hw H1 locs1 ls (by rw [← ht]; exact hB.1) (hB.2.2.weaken (fun _ q _ h => hC.free hD hS q.1 h)) hS1 hl)
theorem x_callSlT (hC : XC p s m args c D cl tys A nL cc TB own) {S : Type} {wf : S → va_W} {Qt : Nat → Prop} {y : MethodName} {bytes : ByteArray} {maxL index : Nat} {ret : Option FieldType} {rm : Room} {post : Int64 → S → Prop} {QR : Array Value → State → Outcome → State → Prop} {PT : Nat → Prop} {mc2 ms2 : Nat} (hmc : cells + rm.cells ≤ mc2) (hms : slots + rm.slots ≤ ms2) (As : List Value) (hM : ∀ sz : Nat, vx_Met l y (Cond.code y bytes maxL ret :: TB) rm (va_Pc As (XP D cl tys ws sz)) (va_Ql post (fun u t => XB D cl tys (va_A ws sz) (wf u) t) (va_A ws sz)) (XT D cl tys (va_A ws sz) ws Qt) rm.cells rm.slots (va_A ws sz)) (hfr : rm.frames + 1 ≤ R.frames) (hlo : 8 + (maxL + 11) + rm.locals ≤ R.locals) (hcode : Cond.code y bytes maxL ret ∈ TB) (hini : Cond.initialized y.cls ∈ TB) (hlink : Cond.methodLink own index y ∈ TB) (hy : (y.cls ≠ "java/lang/invoke/MethodHandle" ∧ y.cls ≠ "java/lang/invoke/VarHandle")) (n : Nat) (hn : As.length = n) (hlen : (parseMethodDescriptor y.desc).map (fun d => d.parameters.length) = some n) (hf : cells + rm.cells ≤ R.cells ∧ slots + rm.slots ≤ R.slots) (hst : (st.map fun v => v.category).sum ≤ 8) (hstat : Cond.static y ∈ TB) {st0 : List Value} (hstk : st0 = As.reverse ++ st) (hd : decode cc pc = .ok (.invokestatic index, 3)) (hlocks : meth.locks = false) (hnh : ∀ x ∈ c.exceptionTable.toList, False) (hT2 : ∀ k, Qt k → PT k) (k : ∀ (r : Int64) (u : S), post r u → XW p l e R s m args below meth c D cl A nL (vx_MQ below QR (XT D cl tys A ws PT) args s mc2 ms2 A) (cells + rm.cells) (slots + rm.slots) (wf u) (pc + 3) lv (.long r :: st)) : XW p l e R s m args below meth c D cl A nL (vx_MQ below QR (XT D cl tys A ws PT) args s mc2 ms2 A) cells slots ws pc lv st0 := by
  intro H locs ls hP hD hS hl
  refine vx_calll (vx_runS (bytes := bytes) (maxL := maxL) (ret := ret) (As := As) (rest := st) hC.1 (hM H.size) ⟨⟨rfl, rfl, hfr, hlo, hC.words hcode, List.mem_cons_self, hC.ts hcode, hC.ts hini, hy, fun sig h => by (rw [h] at hlen; exact (Option.some.inj hlen).symm), hC.ts hlink⟩, hC.ts hstat⟩ ⟨x_blind, fun U hU hW => ⟨rfl, hC.start hP hD hS hU hW⟩⟩ rfl hn hl.1 hstk (lv_room hst) hd hf) hS (fun q _ h => hC.free hD hS q h) (hC.free hD hS) (fun q _ h => hC.free hD hS q h) (fun E ce q9 k9 t H1 locs1 ht hvm hp hB hz1 hk1 hS1 hce hcv hcl => ?_) (fun r u t H1 locs1 ht hvm hw hB hz1 hk1 hS1 => k r u hw H1 locs1 ls (by rw [← ht]; exact hB.1) (hB.2.2.weaken (fun _ q _ h => hC.free hD hS q.1 h)) hS1 hl)
  obtain ⟨hE, hB1, -, hB3⟩ := hB
  rw [ht] at hB1
  exact vx_out (fun x hx => absurd (hnh x hx) id) hlocks hce hcv hcl (fun t2 ht2 hal2 => ⟨k9, hT2 k9 hp, ⟨hE, by rw [ht2]; exact hB1, va_K.moved hal2 hC.2.1, hB3.weaken (fun _ q _ h => hC.free hD hS q.1 h)⟩, hS1.F ht2⟩) hS1.2.2 hmc hms
theorem x_callVv (hC : XC p s m args c D cl tys A nL cc TB own) {S : Type} {wf : S → va_W} {Qt : Nat → Prop} {y : MethodName} {bytes : ByteArray} {maxL index : Nat} {ret : Option FieldType} {rm : Room} {post : S → Prop} {b q0 ci : Nat} {fs : List Value} {C : String} {TT : u_T} {N : Nat} (As : List Value) (hM : ∀ sz : Nat, vx_Met l y (Cond.code y bytes maxL ret :: TB) rm (va_Pc (.ref b :: As) (XP D cl tys ws sz)) (va_Qv post (fun u t => XB D cl tys (va_A ws sz) (wf u) t) (va_A ws sz)) (XT D cl tys (va_A ws sz) ws Qt) rm.cells rm.slots (va_A ws sz)) (hfr : rm.frames + 1 ≤ R.frames) (hlo : 8 + (maxL + 11) + rm.locals ≤ R.locals) (hcode : Cond.code y bytes maxL ret ∈ TB) (hini : Cond.initialized y.cls ∈ TB) (hlink : Cond.methodLink own index y ∈ TB) (hy : (y.cls ≠ "java/lang/invoke/MethodHandle" ∧ y.cls ≠ "java/lang/invoke/VarHandle")) (n : Nat) (hn : As.length = n) (hlen : (parseMethodDescriptor y.desc).map (fun d => d.parameters.length) = some n) (hf : cells + rm.cells ≤ R.cells ∧ slots + rm.slots ≤ R.slots) (hst : (st.map fun v => v.category).sum ≤ 8) (hinst : Cond.instanceMethod y ∈ TB) (hsel : Cond.selects C y y ∈ TB) (he : ws[q0]? = some (b, .inr (ci, fs))) (hc : cl[ci]? = some (C, TT, N)) {st0 : List Value} (hstk : st0 = As.reverse ++ .ref b :: st) (hd : decode cc pc = .ok (.invokevirtual index, 3)) (hno : ∀ k, ¬ Qt k) (k : ∀ (u : S), post u → XW p l e R s m args below meth c D cl A nL Q (cells + rm.cells) (slots + rm.slots) (wf u) (pc + 3) lv (st)) : XW p l e R s m args below meth c D cl A nL Q cells slots ws pc lv st0 := by
  intro H locs ls hP hD hS hl
  exact vx_callv (vx_runV (C := C) (bytes := bytes) (maxL := maxL) (ret := ret) (As := As) (rest := st) hC.1 (hM H.size) ⟨⟨rfl, rfl, hfr, hlo, hC.words hcode, List.mem_cons_self, hC.ts hcode, hC.ts hini, hy, fun sig h => by (rw [h] at hlen; exact (Option.some.inj hlen).symm), hC.ts hlink⟩, hC.ts hinst, hC.ts hsel⟩ ⟨x_blind, va_recv hC.2.1 hP hc he, fun U hU hW => ⟨rfl, hC.start hP hD hS hU hW⟩⟩ rfl hn hl.1 hstk (lv_room hst) hd hf) hS (fun q _ h => hC.free hD hS q h) (hC.free hD hS) (fun q _ h => hC.free hD hS q h) (fun E ce q9 k9 t H1 locs1 ht hvm hp => absurd hp (hno k9)) (fun u t H1 locs1 ht hvm hw hB hz1 hk1 hS1 => k u hw H1 locs1 ls (by rw [← ht]; exact hB.1) (hB.2.2.weaken (fun _ q _ h => hC.free hD hS q.1 h)) hS1 hl)
theorem x_callVvT (hC : XC p s m args c D cl tys A nL cc TB own) {S : Type} {wf : S → va_W} {Qt : Nat → Prop} {y : MethodName} {bytes : ByteArray} {maxL index : Nat} {ret : Option FieldType} {rm : Room} {post : S → Prop} {b q0 ci : Nat} {fs : List Value} {C : String} {TT : u_T} {N : Nat} {QR : Array Value → State → Outcome → State → Prop} {PT : Nat → Prop} {mc2 ms2 : Nat} (hmc : cells + rm.cells ≤ mc2) (hms : slots + rm.slots ≤ ms2) (As : List Value) (hM : ∀ sz : Nat, vx_Met l y (Cond.code y bytes maxL ret :: TB) rm (va_Pc (.ref b :: As) (XP D cl tys ws sz)) (va_Qv post (fun u t => XB D cl tys (va_A ws sz) (wf u) t) (va_A ws sz)) (XT D cl tys (va_A ws sz) ws Qt) rm.cells rm.slots (va_A ws sz)) (hfr : rm.frames + 1 ≤ R.frames) (hlo : 8 + (maxL + 11) + rm.locals ≤ R.locals) (hcode : Cond.code y bytes maxL ret ∈ TB) (hini : Cond.initialized y.cls ∈ TB) (hlink : Cond.methodLink own index y ∈ TB) (hy : (y.cls ≠ "java/lang/invoke/MethodHandle" ∧ y.cls ≠ "java/lang/invoke/VarHandle")) (n : Nat) (hn : As.length = n) (hlen : (parseMethodDescriptor y.desc).map (fun d => d.parameters.length) = some n) (hf : cells + rm.cells ≤ R.cells ∧ slots + rm.slots ≤ R.slots) (hst : (st.map fun v => v.category).sum ≤ 8) (hinst : Cond.instanceMethod y ∈ TB) (hsel : Cond.selects C y y ∈ TB) (he : ws[q0]? = some (b, .inr (ci, fs))) (hc : cl[ci]? = some (C, TT, N)) {st0 : List Value} (hstk : st0 = As.reverse ++ .ref b :: st) (hd : decode cc pc = .ok (.invokevirtual index, 3)) (hlocks : meth.locks = false) (hnh : ∀ x ∈ c.exceptionTable.toList, False) (hT2 : ∀ k, Qt k → PT k) (k : ∀ (u : S), post u → XW p l e R s m args below meth c D cl A nL (vx_MQ below QR (XT D cl tys A ws PT) args s mc2 ms2 A) (cells + rm.cells) (slots + rm.slots) (wf u) (pc + 3) lv (st)) : XW p l e R s m args below meth c D cl A nL (vx_MQ below QR (XT D cl tys A ws PT) args s mc2 ms2 A) cells slots ws pc lv st0 := by
  intro H locs ls hP hD hS hl
  refine vx_callv (vx_runV (C := C) (bytes := bytes) (maxL := maxL) (ret := ret) (As := As) (rest := st) hC.1 (hM H.size) ⟨⟨rfl, rfl, hfr, hlo, hC.words hcode, List.mem_cons_self, hC.ts hcode, hC.ts hini, hy, fun sig h => by (rw [h] at hlen; exact (Option.some.inj hlen).symm), hC.ts hlink⟩, hC.ts hinst, hC.ts hsel⟩ ⟨x_blind, va_recv hC.2.1 hP hc he, fun U hU hW => ⟨rfl, hC.start hP hD hS hU hW⟩⟩ rfl hn hl.1 hstk (lv_room hst) hd hf) hS (fun q _ h => hC.free hD hS q h) (hC.free hD hS) (fun q _ h => hC.free hD hS q h) (fun E ce q9 k9 t H1 locs1 ht hvm hp hB hz1 hk1 hS1 hce hcv hcl => ?_) (fun u t H1 locs1 ht hvm hw hB hz1 hk1 hS1 => k u hw H1 locs1 ls (by rw [← ht]; exact hB.1) (hB.2.2.weaken (fun _ q _ h => hC.free hD hS q.1 h)) hS1 hl)
  obtain ⟨hE, hB1, -, hB3⟩ := hB
  rw [ht] at hB1
  exact vx_out (fun x hx => absurd (hnh x hx) id) hlocks hce hcv hcl (fun t2 ht2 hal2 => ⟨k9, hT2 k9 hp, ⟨hE, by rw [ht2]; exact hB1, va_K.moved hal2 hC.2.1, hB3.weaken (fun _ q _ h => hC.free hD hS q.1 h)⟩, hS1.F ht2⟩) hS1.2.2 hmc hms
theorem x_callSv (hC : XC p s m args c D cl tys A nL cc TB own) {S : Type} {wf : S → va_W} {Qt : Nat → Prop} {y : MethodName} {bytes : ByteArray} {maxL index : Nat} {ret : Option FieldType} {rm : Room} {post : S → Prop} (As : List Value) (hM : ∀ sz : Nat, vx_Met l y (Cond.code y bytes maxL ret :: TB) rm (va_Pc As (XP D cl tys ws sz)) (va_Qv post (fun u t => XB D cl tys (va_A ws sz) (wf u) t) (va_A ws sz)) (XT D cl tys (va_A ws sz) ws Qt) rm.cells rm.slots (va_A ws sz)) (hfr : rm.frames + 1 ≤ R.frames) (hlo : 8 + (maxL + 11) + rm.locals ≤ R.locals) (hcode : Cond.code y bytes maxL ret ∈ TB) (hini : Cond.initialized y.cls ∈ TB) (hlink : Cond.methodLink own index y ∈ TB) (hy : (y.cls ≠ "java/lang/invoke/MethodHandle" ∧ y.cls ≠ "java/lang/invoke/VarHandle")) (n : Nat) (hn : As.length = n) (hlen : (parseMethodDescriptor y.desc).map (fun d => d.parameters.length) = some n) (hf : cells + rm.cells ≤ R.cells ∧ slots + rm.slots ≤ R.slots) (hst : (st.map fun v => v.category).sum ≤ 8) (hstat : Cond.static y ∈ TB) {st0 : List Value} (hstk : st0 = As.reverse ++ st) (hd : decode cc pc = .ok (.invokestatic index, 3)) (hno : ∀ k, ¬ Qt k) (k : ∀ (u : S), post u → XW p l e R s m args below meth c D cl A nL Q (cells + rm.cells) (slots + rm.slots) (wf u) (pc + 3) lv (st)) : XW p l e R s m args below meth c D cl A nL Q cells slots ws pc lv st0 := by
  intro H locs ls hP hD hS hl
  exact vx_callv (vx_runS (bytes := bytes) (maxL := maxL) (ret := ret) (As := As) (rest := st) hC.1 (hM H.size) ⟨⟨rfl, rfl, hfr, hlo, hC.words hcode, List.mem_cons_self, hC.ts hcode, hC.ts hini, hy, fun sig h => by (rw [h] at hlen; exact (Option.some.inj hlen).symm), hC.ts hlink⟩, hC.ts hstat⟩ ⟨x_blind, fun U hU hW => ⟨rfl, hC.start hP hD hS hU hW⟩⟩ rfl hn hl.1 hstk (lv_room hst) hd hf) hS (fun q _ h => hC.free hD hS q h) (hC.free hD hS) (fun q _ h => hC.free hD hS q h) (fun E ce q9 k9 t H1 locs1 ht hvm hp => absurd hp (hno k9)) (fun u t H1 locs1 ht hvm hw hB hz1 hk1 hS1 => k u hw H1 locs1 ls (by rw [← ht]; exact hB.1) (hB.2.2.weaken (fun _ q _ h => hC.free hD hS q.1 h)) hS1 hl)
theorem x_callSvT (hC : XC p s m args c D cl tys A nL cc TB own) {S : Type} {wf : S → va_W} {Qt : Nat → Prop} {y : MethodName} {bytes : ByteArray} {maxL index : Nat} {ret : Option FieldType} {rm : Room} {post : S → Prop} {QR : Array Value → State → Outcome → State → Prop} {PT : Nat → Prop} {mc2 ms2 : Nat} (hmc : cells + rm.cells ≤ mc2) (hms : slots + rm.slots ≤ ms2) (As : List Value) (hM : ∀ sz : Nat, vx_Met l y (Cond.code y bytes maxL ret :: TB) rm (va_Pc As (XP D cl tys ws sz)) (va_Qv post (fun u t => XB D cl tys (va_A ws sz) (wf u) t) (va_A ws sz)) (XT D cl tys (va_A ws sz) ws Qt) rm.cells rm.slots (va_A ws sz)) (hfr : rm.frames + 1 ≤ R.frames) (hlo : 8 + (maxL + 11) + rm.locals ≤ R.locals) (hcode : Cond.code y bytes maxL ret ∈ TB) (hini : Cond.initialized y.cls ∈ TB) (hlink : Cond.methodLink own index y ∈ TB) (hy : (y.cls ≠ "java/lang/invoke/MethodHandle" ∧ y.cls ≠ "java/lang/invoke/VarHandle")) (n : Nat) (hn : As.length = n) (hlen : (parseMethodDescriptor y.desc).map (fun d => d.parameters.length) = some n) (hf : cells + rm.cells ≤ R.cells ∧ slots + rm.slots ≤ R.slots) (hst : (st.map fun v => v.category).sum ≤ 8) (hstat : Cond.static y ∈ TB) {st0 : List Value} (hstk : st0 = As.reverse ++ st) (hd : decode cc pc = .ok (.invokestatic index, 3)) (hlocks : meth.locks = false) (hnh : ∀ x ∈ c.exceptionTable.toList, False) (hT2 : ∀ k, Qt k → PT k) (k : ∀ (u : S), post u → XW p l e R s m args below meth c D cl A nL (vx_MQ below QR (XT D cl tys A ws PT) args s mc2 ms2 A) (cells + rm.cells) (slots + rm.slots) (wf u) (pc + 3) lv (st)) : XW p l e R s m args below meth c D cl A nL (vx_MQ below QR (XT D cl tys A ws PT) args s mc2 ms2 A) cells slots ws pc lv st0 := by
  intro H locs ls hP hD hS hl
  refine vx_callv (vx_runS (bytes := bytes) (maxL := maxL) (ret := ret) (As := As) (rest := st) hC.1 (hM H.size) ⟨⟨rfl, rfl, hfr, hlo, hC.words hcode, List.mem_cons_self, hC.ts hcode, hC.ts hini, hy, fun sig h => by (rw [h] at hlen; exact (Option.some.inj hlen).symm), hC.ts hlink⟩, hC.ts hstat⟩ ⟨x_blind, fun U hU hW => ⟨rfl, hC.start hP hD hS hU hW⟩⟩ rfl hn hl.1 hstk (lv_room hst) hd hf) hS (fun q _ h => hC.free hD hS q h) (hC.free hD hS) (fun q _ h => hC.free hD hS q h) (fun E ce q9 k9 t H1 locs1 ht hvm hp hB hz1 hk1 hS1 hce hcv hcl => ?_) (fun u t H1 locs1 ht hvm hw hB hz1 hk1 hS1 => k u hw H1 locs1 ls (by rw [← ht]; exact hB.1) (hB.2.2.weaken (fun _ q _ h => hC.free hD hS q.1 h)) hS1 hl)
  obtain ⟨hE, hB1, -, hB3⟩ := hB
  rw [ht] at hB1
  exact vx_out (fun x hx => absurd (hnh x hx) id) hlocks hce hcv hcl (fun t2 ht2 hal2 => ⟨k9, hT2 k9 hp, ⟨hE, by rw [ht2]; exact hB1, va_K.moved hal2 hC.2.1, hB3.weaken (fun _ q _ h => hC.free hD hS q.1 h)⟩, hS1.F ht2⟩) hS1.2.2 hmc hms
theorem x_throw (hC : XC p s m args c D cl tys A nL cc TB own) {QR : Array Value → State → Outcome → State → Prop} {PT : Nat → Prop} {mc2 ms2 i1 i2 i3 : Nat} {cls tx : String} {names : List String} (kx : Nat) (hk : x_ex kx = cls) (htr : l.stackTraces = false) (hlocks : meth.locks = false) (hnh : ∀ x ∈ c.exceptionTable.toList, False)
    (d0 : decode cc pc = .ok (.new i1, 3)) (d1 : decode cc (pc + 3) = .ok (.dup, 1)) (d2 : decode cc (pc + 4) = .ok (.ldc i2, 2)) (d3 : decode cc (pc + 6) = .ok (.invokespecial i3, 3)) (d4 : decode cc (pc + 9) = .ok (.athrow, 1))
    (hcl : Cond.classLink own i1 cls ∈ TB) (hini : Cond.initialized cls ∈ TB) (hfc : Bundle.fit cls = true) (hfn : ∀ n ∈ names, Bundle.fit n = true) (hat : ∀ a ∈ vx_atS own i3 cls names, a ∈ TBX) (hgood : ∀ w ∈ Cond.classLink own i1 cls :: Cond.initialized cls :: vx_atS own i3 cls names, vx_ot w = true) (hstr : (own, i2, tx) ∈ x_strs)
    (hfr : names.length + 3 < R.frames) (hlo : 13 * (names.length + 1) + 43 ≤ R.locals) (hf : cells + 1 ≤ R.cells ∧ slots + 6 ≤ R.slots) (hmc : cells + 1 ≤ mc2) (hms : slots + 6 ≤ ms2) (hp : PT kx) :
    XW p l e R s m args below meth c D cl A nL (vx_MQ below QR (XT D cl tys A ws PT) args s mc2 ms2 A) cells slots ws pc lv [] := by
  intro H locs ls hP hD hS hl
  obtain ⟨sa, hsa⟩ := hC.2.2.2.2.2.2.2 _ hstr
  refine vx_throwS hC.1.1 hC.1.2.1 htr hC.1.2.2.2.1 hfc hfn (hC.ts hcl) (hC.ts hini) hsa (fun a ha => TBX_at (hat a ha) (State.WarmedH.refl s) (hC.2.2.2.2.2.2.1 a (hat a ha))) hgood hC.2.2.2.2.1 hC.2.2.2.2.2.1 hS (hl.1.trans hC.1.2.2.1.symm) d0 d1 d2 d3 d4 (fun x hx => absurd (hnh x hx) id) hfr (by show 0 + _ ≤ _; omega) hf.1 hf.2 hlocks (fun t hal hz hk9 => ⟨kx, hp, ⟨hk.symm, ?_, va_K.moved hal hC.2.1, hD⟩, ?_, ?_⟩) hS.2.2 hmc hms
  · exact hP.kept (fun k q h => hk9 q.1 ((hP k q h).lt))
  · exact Nat.le_trans hS.1 hz
  · intro q h1 h2
    rw [hk9 q (Nat.lt_of_lt_of_le h1 hS.1)]
    exact hS.2.1 q h1 h2
theorem x_met {y : MethodName} {bytes : ByteArray} {maxL sz mc ms : Nat} {ret : Option FieldType} {rm : Room} {Qc : Array Value → State → Outcome → State → Prop} {XQ : String → State → State → Prop} {free : Nat → Prop} (av : List Value) (hG : GoodIn TB TB) (hy : plainName y.cls = true) (hle : (lg_sl av).length ≤ maxL)
    (body : ∀ (p : Program) (e : Env) (s : State) (m : MethodId) (args : Array Value) (below : List Frame) (meth : Method) (c : Code), XC p s m args c D cl tys (va_A ws sz) maxL bytes TB y.cls → meth.sig.returnType = ret → meth.locks = false → meth.name = y.name → (∀ x ∈ c.exceptionTable.toList, False) → XW p l e rm s m args below meth c D cl (va_A ws sz) maxL (vx_MQ below Qc XQ args s mc ms free) 0 0 ws 0 (lv_args 0 av) []) :
    vx_Met l y (Cond.code y bytes maxL ret :: TB) rm (va_Pc av (XP D cl tys ws sz)) Qc XQ mc ms free := by
  refine vx_ofW (cc := bytes) (maxL := maxL) (ret := ret) hy rfl ?_
  intro p e s m args below meth c s₁ B hml hnh hv
  obtain ⟨rfl, hsz, hP, hK, hD0, hE⟩ := hv
  have hts := atoms_spec (ws := Cond.code y bytes maxL ret :: TB) B.pre
  have hD := hD0.self (sz := sz)
  have hl := lv_entry av (n := maxL) hle
  rw [lg_entry_eq]
  exact body p e s m av.toArray below meth c ⟨⟨B.exec, B.bytes, hml, findClass_of_methodNamed B.named, fun w hw => hts w (List.mem_cons_of_mem _ hw)⟩, hK, fun q h => Or.inr (by omega), hG, hE⟩ B.returns B.notSynchronized (name_of_methodNamed B.named B.method).1 hnh s.heap [] _ hP hD va_S.rf hl
end XR
end
section
def RX : String := "EventOrder"
def TX : u_T := fun k => match k with
  | 0 => ("EventOrder", "events", "LEventOrder$Events;", true)
  | 1 => ("EventOrder", "needs", "LEventOrder$Needs;", true)
  | 2 => ("EventOrder", "limits", "LEventOrder$Limits;", true)
  | 3 => ("EventOrder", "told", "LEventOrder$Ring;", true)
  | 4 => ("EventOrder", "timeline", "LEventOrder$Timeline;", true)
  | 5 => ("EventOrder", "sourceCount", "I", false)
  | _ => ("EventOrder", "settled", "Z", false)
def tX : Nat → FieldType := fun k => match k with
  | 0 => .object "EventOrder$Events"
  | 1 => .object "EventOrder$Needs"
  | 2 => .object "EventOrder$Limits"
  | 3 => .object "EventOrder$Ring"
  | 4 => .object "EventOrder$Timeline"
  | 5 => .int
  | _ => .boolean
theorem nX : ∀ a, a < 7 → ∀ b, b < 7 → a ≠ b → (TX a).2.1 ≠ (TX b).2.1 := by decide +kernel
theorem tX_ok : ∀ k, k < 7 → parseFieldDescriptor (TX k).2.2.1 = some (tX k) := by decide +kernel
theorem iX : ∀ w ∈ u_ws RX TX 7, w ∈ TBL := fun w h => TBL_in ((by decide +kernel : ∀ w ∈ u_ws RX TX 7, w ∈ lw_tbl) w h) ((by decide +kernel : ∀ w ∈ u_ws RX TX 7, goodWord w = true) w h)
abbrev bX_init : ByteArray := prog_1_method_1_code
def yX_init : MethodName := ⟨RX, "<init>", "()V"⟩
abbrev bX_source : ByteArray := prog_1_method_2_code
def yX_source : MethodName := ⟨RX, "source", "()I"⟩
abbrev bX_event : ByteArray := prog_1_method_3_code
def yX_event : MethodName := ⟨RX, "event", "(IIIIJ)I"⟩
abbrev bX_need : ByteArray := prog_1_method_4_code
def yX_need : MethodName := ⟨RX, "need", "(II)I"⟩
abbrev bX_settle : ByteArray := prog_1_method_5_code
def yX_settle : MethodName := ⟨RX, "settle", "()I"⟩
abbrev bX_ring : ByteArray := prog_1_method_6_code
def yX_ring : MethodName := ⟨RX, "ring", "(I)I"⟩
abbrev bX_offset : ByteArray := prog_1_method_7_code
def yX_offset : MethodName := ⟨RX, "offset", "(I)J"⟩
abbrev bX_bound : ByteArray := prog_1_method_8_code
def yX_bound : MethodName := ⟨RX, "bound", "(II)J"⟩
abbrev bX_corrected : ByteArray := prog_1_method_9_code
def yX_corrected : MethodName := ⟨RX, "corrected", "(I)J"⟩
abbrev bX_ordered : ByteArray := prog_1_method_10_code
def yX_ordered : MethodName := ⟨RX, "ordered", "(II)I"⟩
abbrev bX_implied : ByteArray := prog_1_method_11_code
def yX_implied : MethodName := ⟨RX, "implied", "(II)I"⟩
abbrev bX_correct : ByteArray := prog_1_method_12_code
def yX_correct : MethodName := ⟨RX, "correct", "(IJ)I"⟩
abbrev bX_ask : ByteArray := prog_1_method_13_code
def yX_ask : MethodName := ⟨RX, "ask", "(II)I"⟩
abbrev bX_checkSource : ByteArray := prog_1_method_14_code
def yX_checkSource : MethodName := ⟨RX, "checkSource", "(I)V"⟩
abbrev bX_checkEvent : ByteArray := prog_1_method_15_code
def yX_checkEvent : MethodName := ⟨RX, "checkEvent", "(I)V"⟩
abbrev bX_checkSettled : ByteArray := prog_1_method_16_code
def yX_checkSettled : MethodName := ⟨RX, "checkSettled", "()V"⟩
abbrev bX_checkItem : ByteArray := prog_1_method_17_code
def yX_checkItem : MethodName := ⟨RX, "checkItem", "(I)V"⟩
abbrev bX_checkKindAndPlace : ByteArray := prog_1_method_18_code
def yX_checkKindAndPlace : MethodName := ⟨RX, "checkKindAndPlace", "(III)V"⟩
abbrev bX_checkClock : ByteArray := prog_1_method_19_code
def yX_checkClock : MethodName := ⟨RX, "checkClock", "(J)V"⟩
abbrev bX_isBag : ByteArray := prog_1_method_20_code
def yX_isBag : MethodName := ⟨RX, "isBag", "(I)Z"⟩
def REv : String := "EventOrder$Events"
def TEv : u_T := fun k => match k with
  | 0 => ("EventOrder$Events", "sources", "[I", true)
  | 1 => ("EventOrder$Events", "items", "[I", true)
  | 2 => ("EventOrder$Events", "kinds", "[I", true)
  | 3 => ("EventOrder$Events", "places", "[I", true)
  | 4 => ("EventOrder$Events", "clocks", "[J", true)
  | _ => ("EventOrder$Events", "count", "I", false)
def tEv : Nat → FieldType := fun k => match k with
  | 0 => .array .int
  | 1 => .array .int
  | 2 => .array .int
  | 3 => .array .int
  | 4 => .array .long
  | _ => .int
theorem nEv : ∀ a, a < 6 → ∀ b, b < 6 → a ≠ b → (TEv a).2.1 ≠ (TEv b).2.1 := by decide +kernel
theorem tEv_ok : ∀ k, k < 6 → parseFieldDescriptor (TEv k).2.2.1 = some (tEv k) := by decide +kernel
theorem iEv : ∀ w ∈ u_ws REv TEv 6, w ∈ TBL := fun w h => TBL_in ((by decide +kernel : ∀ w ∈ u_ws REv TEv 6, w ∈ lw_tbl) w h) ((by decide +kernel : ∀ w ∈ u_ws REv TEv 6, goodWord w = true) w h)
abbrev bEv_init : ByteArray := prog_2_method_1_code
def yEv_init : MethodName := ⟨REv, "<init>", "()V"⟩
abbrev bEv_add : ByteArray := prog_2_method_2_code
def yEv_add : MethodName := ⟨REv, "add", "(IIIIJ)I"⟩
abbrev bEv_has : ByteArray := prog_2_method_3_code
def yEv_has : MethodName := ⟨REv, "has", "(IIIIJ)Z"⟩
abbrev bEv_countIn : ByteArray := prog_2_method_4_code
def yEv_countIn : MethodName := ⟨REv, "countIn", "([II)I"⟩
def RNd : String := "EventOrder$Needs"
def TNd : u_T := fun k => match k with
  | 0 => ("EventOrder$Needs", "firsts", "[I", true)
  | 1 => ("EventOrder$Needs", "seconds", "[I", true)
  | _ => ("EventOrder$Needs", "count", "I", false)
def tNd : Nat → FieldType := fun k => match k with
  | 0 => .array .int
  | 1 => .array .int
  | _ => .int
theorem nNd : ∀ a, a < 3 → ∀ b, b < 3 → a ≠ b → (TNd a).2.1 ≠ (TNd b).2.1 := by decide +kernel
theorem tNd_ok : ∀ k, k < 3 → parseFieldDescriptor (TNd k).2.2.1 = some (tNd k) := by decide +kernel
theorem iNd : ∀ w ∈ u_ws RNd TNd 3, w ∈ TBL := fun w h => TBL_in ((by decide +kernel : ∀ w ∈ u_ws RNd TNd 3, w ∈ lw_tbl) w h) ((by decide +kernel : ∀ w ∈ u_ws RNd TNd 3, goodWord w = true) w h)
abbrev bNd_init : ByteArray := prog_4_method_1_code
def yNd_init : MethodName := ⟨RNd, "<init>", "()V"⟩
abbrev bNd_add : ByteArray := prog_4_method_2_code
def yNd_add : MethodName := ⟨RNd, "add", "(II)I"⟩
def RLi : String := "EventOrder$Limits"
def TLi : u_T := fun k => match k with
  | 0 => ("EventOrder$Limits", "weights", "[[J", true)
  | 1 => ("EventOrder$Limits", "bounds", "[[J", true)
  | _ => ("EventOrder$Limits", "offsets", "[J", true)
def tLi : Nat → FieldType := fun k => match k with
  | 0 => .array (.array .long)
  | 1 => .array (.array .long)
  | _ => .array .long
theorem nLi : ∀ a, a < 3 → ∀ b, b < 3 → a ≠ b → (TLi a).2.1 ≠ (TLi b).2.1 := by decide +kernel
theorem tLi_ok : ∀ k, k < 3 → parseFieldDescriptor (TLi k).2.2.1 = some (tLi k) := by decide +kernel
theorem iLi : ∀ w ∈ u_ws RLi TLi 3, w ∈ TBL := fun w h => TBL_in ((by decide +kernel : ∀ w ∈ u_ws RLi TLi 3, w ∈ lw_tbl) w h) ((by decide +kernel : ∀ w ∈ u_ws RLi TLi 3, goodWord w = true) w h)
abbrev bLi_init : ByteArray := prog_3_method_1_code
def yLi_init : MethodName := ⟨RLi, "<init>", "()V"⟩
abbrev bLi_weigh : ByteArray := prog_3_method_2_code
def yLi_weigh : MethodName := ⟨RLi, "weigh", "(ILEventOrder$Events;LEventOrder$Needs;)V"⟩
abbrev bLi_findBounds : ByteArray := prog_3_method_3_code
def yLi_findBounds : MethodName := ⟨RLi, "findBounds", "(I)Z"⟩
abbrev bLi_shortenThrough : ByteArray := prog_3_method_4_code
def yLi_shortenThrough : MethodName := ⟨RLi, "shortenThrough", "(II)V"⟩
abbrev bLi_closesBelowZero : ByteArray := prog_3_method_5_code
def yLi_closesBelowZero : MethodName := ⟨RLi, "closesBelowZero", "(I)Z"⟩
abbrev bLi_chooseOffsets : ByteArray := prog_3_method_6_code
def yLi_chooseOffsets : MethodName := ⟨RLi, "chooseOffsets", "(I)V"⟩
def RRg : String := "EventOrder$Ring"
def TRg : u_T := fun k => match k with
  | 0 => ("EventOrder$Ring", "row", "[I", true)
  | 1 => ("EventOrder$Ring", "homeward", "[[J", true)
  | _ => ("EventOrder$Ring", "length", "I", false)
def tRg : Nat → FieldType := fun k => match k with
  | 0 => .array .int
  | 1 => .array (.array .long)
  | _ => .int
theorem nRg : ∀ a, a < 3 → ∀ b, b < 3 → a ≠ b → (TRg a).2.1 ≠ (TRg b).2.1 := by decide +kernel
theorem tRg_ok : ∀ k, k < 3 → parseFieldDescriptor (TRg k).2.2.1 = some (tRg k) := by decide +kernel
theorem iRg : ∀ w ∈ u_ws RRg TRg 3, w ∈ TBL := fun w h => TBL_in ((by decide +kernel : ∀ w ∈ u_ws RRg TRg 3, w ∈ lw_tbl) w h) ((by decide +kernel : ∀ w ∈ u_ws RRg TRg 3, goodWord w = true) w h)
abbrev bRg_init : ByteArray := prog_5_method_1_code
def yRg_init : MethodName := ⟨RRg, "<init>", "()V"⟩
abbrev bRg_find : ByteArray := prog_5_method_2_code
def yRg_find : MethodName := ⟨RRg, "find", "(I[[J)V"⟩
abbrev bRg_stepsBack : ByteArray := prog_5_method_3_code
def yRg_stepsBack : MethodName := ⟨RRg, "stepsBack", "(III[[J)I"⟩
abbrev bRg_leastThroughNext : ByteArray := prog_5_method_4_code
def yRg_leastThroughNext : MethodName := ⟨RRg, "leastThroughNext", "([J[JI)J"⟩
abbrev bRg_trace : ByteArray := prog_5_method_5_code
def yRg_trace : MethodName := ⟨RRg, "trace", "(II[[J)V"⟩
abbrev bRg_leastNext : ByteArray := prog_5_method_6_code
def yRg_leastNext : MethodName := ⟨RRg, "leastNext", "(J[J[JI)I"⟩
def RTl : String := "EventOrder$Timeline"
def TTl : u_T := fun k => match k with
  | 0 => ("EventOrder$Timeline", "times", "[J", true)
  | 1 => ("EventOrder$Timeline", "order", "[I", true)
  | _ => ("EventOrder$Timeline", "count", "I", false)
def tTl : Nat → FieldType := fun k => match k with
  | 0 => .array .long
  | 1 => .array .int
  | _ => .int
theorem nTl : ∀ a, a < 3 → ∀ b, b < 3 → a ≠ b → (TTl a).2.1 ≠ (TTl b).2.1 := by decide +kernel
theorem tTl_ok : ∀ k, k < 3 → parseFieldDescriptor (TTl k).2.2.1 = some (tTl k) := by decide +kernel
theorem iTl : ∀ w ∈ u_ws RTl TTl 3, w ∈ TBL := fun w h => TBL_in ((by decide +kernel : ∀ w ∈ u_ws RTl TTl 3, w ∈ lw_tbl) w h) ((by decide +kernel : ∀ w ∈ u_ws RTl TTl 3, goodWord w = true) w h)
abbrev bTl_init : ByteArray := prog_6_method_1_code
def yTl_init : MethodName := ⟨RTl, "<init>", "()V"⟩
abbrev bTl_lay : ByteArray := prog_6_method_2_code
def yTl_lay : MethodName := ⟨RTl, "lay", "(LEventOrder$Events;[J)V"⟩
abbrev bTl_isLater : ByteArray := prog_6_method_3_code
def yTl_isLater : MethodName := ⟨RTl, "isLater", "(II[I)Z"⟩
abbrev bTl_eventOf : ByteArray := prog_6_method_4_code
def yTl_eventOf : MethodName := ⟨RTl, "eventOf", "(LEventOrder$Events;II)I"⟩
abbrev bTl_countImplied : ByteArray := prog_6_method_5_code
def yTl_countImplied : MethodName := ⟨RTl, "countImplied", "(LEventOrder$Events;II)I"⟩
abbrev bTl_isInsideAfter : ByteArray := prog_6_method_6_code
def yTl_isInsideAfter : MethodName := ⟨RTl, "isInsideAfter", "(IZ)Z"⟩
def RM : String := "EventOrderModel"
def TM : u_T := fun k => match k with
  | 0 => ("EventOrderModel", "thrown", "I", false)
  | 1 => ("EventOrderModel", "sources", "I", false)
  | 2 => ("EventOrderModel", "events", "I", false)
  | 3 => ("EventOrderModel", "source", "[I", true)
  | 4 => ("EventOrderModel", "item", "[I", true)
  | 5 => ("EventOrderModel", "kind", "[I", true)
  | 6 => ("EventOrderModel", "place", "[I", true)
  | 7 => ("EventOrderModel", "clock", "[J", true)
  | 8 => ("EventOrderModel", "needs", "I", false)
  | 9 => ("EventOrderModel", "first", "[I", true)
  | 10 => ("EventOrderModel", "second", "[I", true)
  | 11 => ("EventOrderModel", "settled", "Z", false)
  | 12 => ("EventOrderModel", "ringSize", "I", false)
  | 13 => ("EventOrderModel", "ring", "[I", true)
  | 14 => ("EventOrderModel", "weights", "[J", true)
  | 15 => ("EventOrderModel", "bounds", "[J", true)
  | 16 => ("EventOrderModel", "ways", "[J", true)
  | _ => ("EventOrderModel", "offsets", "[J", true)
def tM : Nat → FieldType := fun k => match k with
  | 0 => .int
  | 1 => .int
  | 2 => .int
  | 3 => .array .int
  | 4 => .array .int
  | 5 => .array .int
  | 6 => .array .int
  | 7 => .array .long
  | 8 => .int
  | 9 => .array .int
  | 10 => .array .int
  | 11 => .boolean
  | 12 => .int
  | 13 => .array .int
  | 14 => .array .long
  | 15 => .array .long
  | 16 => .array .long
  | _ => .array .long
theorem nM : ∀ a, a < 18 → ∀ b, b < 18 → a ≠ b → (TM a).2.1 ≠ (TM b).2.1 := by decide +kernel
theorem tM_ok : ∀ k, k < 18 → parseFieldDescriptor (TM k).2.2.1 = some (tM k) := by decide +kernel
theorem iM : ∀ w ∈ u_ws RM TM 18, w ∈ TBL := fun w h => TBL_in ((by decide +kernel : ∀ w ∈ u_ws RM TM 18, w ∈ lw_tbl) w h) ((by decide +kernel : ∀ w ∈ u_ws RM TM 18, goodWord w = true) w h)
abbrev bM_init : ByteArray := prog_8_method_1_code
def yM_init : MethodName := ⟨RM, "<init>", "()V"⟩
abbrev bM_thrown : ByteArray := prog_8_method_2_code
def yM_thrown : MethodName := ⟨RM, "thrown", "()I"⟩
abbrev bM_refused : ByteArray := prog_8_method_3_code
def yM_refused : MethodName := ⟨RM, "refused", "(ZZZ)Z"⟩
abbrev bM_within : ByteArray := prog_8_method_4_code
def yM_within : MethodName := ⟨RM, "within", "(JJJ)Z"⟩
abbrev bM_isSource : ByteArray := prog_8_method_5_code
def yM_isSource : MethodName := ⟨RM, "isSource", "(I)Z"⟩
abbrev bM_isEvent : ByteArray := prog_8_method_6_code
def yM_isEvent : MethodName := ⟨RM, "isEvent", "(I)Z"⟩
abbrev bM_source : ByteArray := prog_8_method_7_code
def yM_source : MethodName := ⟨RM, "source", "()I"⟩
abbrev bM_find : ByteArray := prog_8_method_8_code
def yM_find : MethodName := ⟨RM, "find", "(IIIIJ)I"⟩
abbrev bM_event : ByteArray := prog_8_method_9_code
def yM_event : MethodName := ⟨RM, "event", "(IIIIJ)I"⟩
abbrev bM_need : ByteArray := prog_8_method_10_code
def yM_need : MethodName := ⟨RM, "need", "(II)I"⟩
abbrev bM_correct : ByteArray := prog_8_method_11_code
def yM_correct : MethodName := ⟨RM, "correct", "(IJ)I"⟩
abbrev bM_plus : ByteArray := prog_8_method_12_code
def yM_plus : MethodName := ⟨RM, "plus", "(JJ)J"⟩
abbrev bM_weigh : ByteArray := prog_8_method_13_code
def yM_weigh : MethodName := ⟨RM, "weigh", "()V"⟩
abbrev bM_step : ByteArray := prog_8_method_14_code
def yM_step : MethodName := ⟨RM, "step", "(I)V"⟩
abbrev bM_tellRing : ByteArray := prog_8_method_15_code
def yM_tellRing : MethodName := ⟨RM, "tellRing", "(II)V"⟩
abbrev bM_isOn : ByteArray := prog_8_method_16_code
def yM_isOn : MethodName := ⟨RM, "isOn", "(JIIII)Z"⟩
abbrev bM_settle : ByteArray := prog_8_method_17_code
def yM_settle : MethodName := ⟨RM, "settle", "()I"⟩
abbrev bM_bind : ByteArray := prog_8_method_18_code
def yM_bind : MethodName := ⟨RM, "bind", "()V"⟩
abbrev bM_ring : ByteArray := prog_8_method_19_code
def yM_ring : MethodName := ⟨RM, "ring", "(I)I"⟩
abbrev bM_offset : ByteArray := prog_8_method_20_code
def yM_offset : MethodName := ⟨RM, "offset", "(I)J"⟩
abbrev bM_bound : ByteArray := prog_8_method_21_code
def yM_bound : MethodName := ⟨RM, "bound", "(II)J"⟩
abbrev bM_timeOf : ByteArray := prog_8_method_22_code
def yM_timeOf : MethodName := ⟨RM, "timeOf", "(I)J"⟩
abbrev bM_corrected : ByteArray := prog_8_method_23_code
def yM_corrected : MethodName := ⟨RM, "corrected", "(I)J"⟩
abbrev bM_isBefore : ByteArray := prog_8_method_24_code
def yM_isBefore : MethodName := ⟨RM, "isBefore", "(II)Z"⟩
abbrev bM_ordered : ByteArray := prog_8_method_25_code
def yM_ordered : MethodName := ⟨RM, "ordered", "(II)I"⟩
abbrev bM_outOf : ByteArray := prog_8_method_26_code
def yM_outOf : MethodName := ⟨RM, "outOf", "(II)I"⟩
abbrev bM_isImplied : ByteArray := prog_8_method_27_code
def yM_isImplied : MethodName := ⟨RM, "isImplied", "(III)Z"⟩
abbrev bM_implied : ByteArray := prog_8_method_28_code
def yM_implied : MethodName := ⟨RM, "implied", "(II)I"⟩
abbrev bM_ask : ByteArray := prog_8_method_29_code
def yM_ask : MethodName := ⟨RM, "ask", "(II)I"⟩
abbrev vwCl : List vw_C := [(RX, TX, 7), (REv, TEv, 6), (RNd, TNd, 3), (RLi, TLi, 3), (RRg, TRg, 3), (RTl, TTl, 3), (RM, TM, 18)]
def tysX (cI cL cO : ClassId) : List (ClassId × FieldType) := [(cI, .int), (cL, .long), (cO, .array .long)]
def RL : String := "EventOrderLaw"
abbrev bL_source : ByteArray := method_3_code
def yL_source : MethodName := ⟨RL, "source", "(LEventOrder;[J)I"⟩
abbrev bL_event : ByteArray := method_4_code
def yL_event : MethodName := ⟨RL, "event", "(LEventOrder;IIIIJ[J)I"⟩
abbrev bL_need : ByteArray := method_5_code
def yL_need : MethodName := ⟨RL, "need", "(LEventOrder;II[J)I"⟩
abbrev bL_offset : ByteArray := method_6_code
def yL_offset : MethodName := ⟨RL, "offset", "(LEventOrder;I[J)I"⟩
abbrev bL_bound : ByteArray := method_7_code
def yL_bound : MethodName := ⟨RL, "bound", "(LEventOrder;II[J)I"⟩
abbrev bL_corrected : ByteArray := method_8_code
def yL_corrected : MethodName := ⟨RL, "corrected", "(LEventOrder;I[J)I"⟩
abbrev bL_ordered : ByteArray := method_9_code
def yL_ordered : MethodName := ⟨RL, "ordered", "(LEventOrder;II[J)I"⟩
abbrev bL_implied : ByteArray := method_10_code
def yL_implied : MethodName := ⟨RL, "implied", "(LEventOrder;II[J)I"⟩
abbrev bL_correct : ByteArray := method_11_code
def yL_correct : MethodName := ⟨RL, "correct", "(LEventOrder;IJ[J)I"⟩
abbrev bL_ask : ByteArray := method_12_code
def yL_ask : MethodName := ⟨RL, "ask", "(LEventOrder;II[J)I"⟩
abbrev bL_law : ByteArray := code
def yL_law : MethodName := ⟨RL, "law", "([I)Z"⟩
end
section
/-- the rows of an array of arrays of longs -/
def x_grid (ad : Nat → Nat) (cL : ClassId) (base n k : Nat) (M : Nat → Nat → Int64) : va_W := (List.range n).map (fun i => (ad (base + i), (.inl (cL, k, .inr (.inl (M i))) : va_E)))
theorem x_grid_len {ad : Nat → Nat} {cL : ClassId} {base n k : Nat} {M : Nat → Nat → Int64} : (x_grid ad cL base n k M).length = n := by simp [x_grid]
theorem x_grid_get {ad : Nat → Nat} {cL : ClassId} {base n k i : Nat} {M : Nat → Nat → Int64} (h : i < n) : (x_grid ad cL base n k M)[i]? = some (ad (base + i), .inl (cL, k, .inr (.inl (M i)))) := by
  simp [x_grid, h]
theorem x_grid_set {ad : Nat → Nat} {cL : ClassId} {base n k i : Nat} {M : Nat → Nat → Int64} {f : Nat → Int64} (h : i < n) : (x_grid ad cL base n k M).set i (ad (base + i), .inl (cL, k, .inr (.inl f))) = x_grid ad cL base n k (va_up M i f) := by
  apply List.ext_getElem?
  intro j
  by_cases hj : j < n
  · by_cases e : i = j
    · subst e
      rw [List.getElem?_set_self (by rw [x_grid_len]; exact h), x_grid_get h, va_up_self]
    · rw [List.getElem?_set_ne e, x_grid_get hj, x_grid_get hj, va_up_ne _ _ (Ne.symm e)]
  · rw [List.getElem?_eq_none (by rw [List.length_set, x_grid_len]; omega), List.getElem?_eq_none (by rw [x_grid_len]; omega)]
theorem x_app_get {X Y : va_W} {b i : Nat} {q : Nat × va_E} (hX : X.length = b) (h : Y[i]? = some q) : (X ++ Y)[b + i]? = some q := by
  rw [List.getElem?_append_right (by omega), hX, Nat.add_sub_cancel_left]; exact h
theorem x_app_get_left {X Y : va_W} {i : Nat} {q : Nat × va_E} (h : X[i]? = some q) : (X ++ Y)[i]? = some q := by
  rw [List.getElem?_append_left (List.getElem?_eq_some_iff.mp h).1]; exact h
theorem x_app_set {X Y Y' : va_W} {b i : Nat} {q : Nat × va_E} (hX : X.length = b) (h : Y.set i q = Y') : (X ++ Y).set (b + i) q = X ++ Y' := by
  rw [List.set_append_right _ _ (by omega), hX, Nat.add_sub_cancel_left, h]
theorem x_app_set_left {X Y X' : va_W} {i : Nat} {q : Nat × va_E} (hi : i < X.length) (h : X.set i q = X') : (X ++ Y).set i q = X' ++ Y := by
  rw [List.set_append_left _ _ hi, h]
def wX (ad : Nat → Nat) (cI cL cO : ClassId) (sc : Int32) (sd : Int32) (src : (Nat → Int32)) (itm : (Nat → Int32)) (knd : (Nat → Int32)) (plc : (Nat → Int32)) (clk : (Nat → Int64)) (ec : Int32) (nf : (Nat → Int32)) (ns : (Nat → Int32)) (nc : Int32) (wt : (Nat → Nat → Int64)) (bd : (Nat → Nat → Int64)) (off : (Nat → Int64)) (row : (Nat → Int32)) (hw : (Nat → Nat → Int64)) (rl : Int32) (tm : (Nat → Int64)) (ord : (Nat → Int32)) (tc : Int32) : va_W :=
    [(ad 0, .inr (0, [.ref (ad 1), .ref (ad 7), .ref (ad 10), .ref (ad 14), .ref (ad 17), .int sc, .int sd])),
    (ad 1, .inr (1, [.ref (ad 2), .ref (ad 3), .ref (ad 4), .ref (ad 5), .ref (ad 6), .int ec])),
    (ad 2, .inl (cI, 301, .inl src)),
    (ad 3, .inl (cI, 301, .inl itm)),
    (ad 4, .inl (cI, 301, .inl knd)),
    (ad 5, .inl (cI, 301, .inl plc)),
    (ad 6, .inl (cL, 301, .inr (.inl clk))),
    (ad 7, .inr (2, [.ref (ad 8), .ref (ad 9), .int nc])),
    (ad 8, .inl (cI, 300, .inl nf)),
    (ad 9, .inl (cI, 300, .inl ns)),
    (ad 10, .inr (3, [.ref (ad 11), .ref (ad 12), .ref (ad 13)])),
    (ad 11, .inl (cO, 16, .inr (.inr (.inr (.inr (fun i => some (ad (20 + i)))))))),
    (ad 12, .inl (cO, 16, .inr (.inr (.inr (.inr (fun i => some (ad (36 + i)))))))),
    (ad 13, .inl (cL, 16, .inr (.inl off))),
    (ad 14, .inr (4, [.ref (ad 15), .ref (ad 16), .int rl])),
    (ad 15, .inl (cI, 16, .inl row)),
    (ad 16, .inl (cO, 17, .inr (.inr (.inr (.inr (fun i => some (ad (52 + i)))))))),
    (ad 17, .inr (5, [.ref (ad 18), .ref (ad 19), .int tc])),
    (ad 18, .inl (cL, 301, .inr (.inl tm))),
    (ad 19, .inl (cI, 300, .inl ord))] ++ (x_grid ad cL 20 16 16 wt ++ (x_grid ad cL 36 16 16 bd ++ (x_grid ad cL 52 17 16 hw)))
theorem wX_0 {ad : Nat → Nat} {cI cL cO : ClassId} {sc : Int32} {sd : Int32} {src : (Nat → Int32)} {itm : (Nat → Int32)} {knd : (Nat → Int32)} {plc : (Nat → Int32)} {clk : (Nat → Int64)} {ec : Int32} {nf : (Nat → Int32)} {ns : (Nat → Int32)} {nc : Int32} {wt : (Nat → Nat → Int64)} {bd : (Nat → Nat → Int64)} {off : (Nat → Int64)} {row : (Nat → Int32)} {hw : (Nat → Nat → Int64)} {rl : Int32} {tm : (Nat → Int64)} {ord : (Nat → Int32)} {tc : Int32} : (wX ad cI cL cO sc sd src itm knd plc clk ec nf ns nc wt bd off row hw rl tm ord tc)[0]? = some (ad 0, .inr (0, [.ref (ad 1), .ref (ad 7), .ref (ad 10), .ref (ad 14), .ref (ad 17), .int sc, .int sd])) := rfl
theorem wX_1 {ad : Nat → Nat} {cI cL cO : ClassId} {sc : Int32} {sd : Int32} {src : (Nat → Int32)} {itm : (Nat → Int32)} {knd : (Nat → Int32)} {plc : (Nat → Int32)} {clk : (Nat → Int64)} {ec : Int32} {nf : (Nat → Int32)} {ns : (Nat → Int32)} {nc : Int32} {wt : (Nat → Nat → Int64)} {bd : (Nat → Nat → Int64)} {off : (Nat → Int64)} {row : (Nat → Int32)} {hw : (Nat → Nat → Int64)} {rl : Int32} {tm : (Nat → Int64)} {ord : (Nat → Int32)} {tc : Int32} : (wX ad cI cL cO sc sd src itm knd plc clk ec nf ns nc wt bd off row hw rl tm ord tc)[1]? = some (ad 1, .inr (1, [.ref (ad 2), .ref (ad 3), .ref (ad 4), .ref (ad 5), .ref (ad 6), .int ec])) := rfl
theorem wX_2 {ad : Nat → Nat} {cI cL cO : ClassId} {sc : Int32} {sd : Int32} {src : (Nat → Int32)} {itm : (Nat → Int32)} {knd : (Nat → Int32)} {plc : (Nat → Int32)} {clk : (Nat → Int64)} {ec : Int32} {nf : (Nat → Int32)} {ns : (Nat → Int32)} {nc : Int32} {wt : (Nat → Nat → Int64)} {bd : (Nat → Nat → Int64)} {off : (Nat → Int64)} {row : (Nat → Int32)} {hw : (Nat → Nat → Int64)} {rl : Int32} {tm : (Nat → Int64)} {ord : (Nat → Int32)} {tc : Int32} : (wX ad cI cL cO sc sd src itm knd plc clk ec nf ns nc wt bd off row hw rl tm ord tc)[2]? = some (ad 2, .inl (cI, 301, .inl src)) := rfl
theorem wX_2_set {ad : Nat → Nat} {cI cL cO : ClassId} {sc : Int32} {sd : Int32} {src : (Nat → Int32)} {itm : (Nat → Int32)} {knd : (Nat → Int32)} {plc : (Nat → Int32)} {clk : (Nat → Int64)} {ec : Int32} {nf : (Nat → Int32)} {ns : (Nat → Int32)} {nc : Int32} {wt : (Nat → Nat → Int64)} {bd : (Nat → Nat → Int64)} {off : (Nat → Int64)} {row : (Nat → Int32)} {hw : (Nat → Nat → Int64)} {rl : Int32} {tm : (Nat → Int64)} {ord : (Nat → Int32)} {tc : Int32} {f : Nat → Int32} : (wX ad cI cL cO sc sd src itm knd plc clk ec nf ns nc wt bd off row hw rl tm ord tc).set 2 (ad 2, .inl (cI, 301, .inl f)) = (wX ad cI cL cO sc sd f itm knd plc clk ec nf ns nc wt bd off row hw rl tm ord tc) := rfl
theorem wX_3 {ad : Nat → Nat} {cI cL cO : ClassId} {sc : Int32} {sd : Int32} {src : (Nat → Int32)} {itm : (Nat → Int32)} {knd : (Nat → Int32)} {plc : (Nat → Int32)} {clk : (Nat → Int64)} {ec : Int32} {nf : (Nat → Int32)} {ns : (Nat → Int32)} {nc : Int32} {wt : (Nat → Nat → Int64)} {bd : (Nat → Nat → Int64)} {off : (Nat → Int64)} {row : (Nat → Int32)} {hw : (Nat → Nat → Int64)} {rl : Int32} {tm : (Nat → Int64)} {ord : (Nat → Int32)} {tc : Int32} : (wX ad cI cL cO sc sd src itm knd plc clk ec nf ns nc wt bd off row hw rl tm ord tc)[3]? = some (ad 3, .inl (cI, 301, .inl itm)) := rfl
theorem wX_3_set {ad : Nat → Nat} {cI cL cO : ClassId} {sc : Int32} {sd : Int32} {src : (Nat → Int32)} {itm : (Nat → Int32)} {knd : (Nat → Int32)} {plc : (Nat → Int32)} {clk : (Nat → Int64)} {ec : Int32} {nf : (Nat → Int32)} {ns : (Nat → Int32)} {nc : Int32} {wt : (Nat → Nat → Int64)} {bd : (Nat → Nat → Int64)} {off : (Nat → Int64)} {row : (Nat → Int32)} {hw : (Nat → Nat → Int64)} {rl : Int32} {tm : (Nat → Int64)} {ord : (Nat → Int32)} {tc : Int32} {f : Nat → Int32} : (wX ad cI cL cO sc sd src itm knd plc clk ec nf ns nc wt bd off row hw rl tm ord tc).set 3 (ad 3, .inl (cI, 301, .inl f)) = (wX ad cI cL cO sc sd src f knd plc clk ec nf ns nc wt bd off row hw rl tm ord tc) := rfl
theorem wX_4 {ad : Nat → Nat} {cI cL cO : ClassId} {sc : Int32} {sd : Int32} {src : (Nat → Int32)} {itm : (Nat → Int32)} {knd : (Nat → Int32)} {plc : (Nat → Int32)} {clk : (Nat → Int64)} {ec : Int32} {nf : (Nat → Int32)} {ns : (Nat → Int32)} {nc : Int32} {wt : (Nat → Nat → Int64)} {bd : (Nat → Nat → Int64)} {off : (Nat → Int64)} {row : (Nat → Int32)} {hw : (Nat → Nat → Int64)} {rl : Int32} {tm : (Nat → Int64)} {ord : (Nat → Int32)} {tc : Int32} : (wX ad cI cL cO sc sd src itm knd plc clk ec nf ns nc wt bd off row hw rl tm ord tc)[4]? = some (ad 4, .inl (cI, 301, .inl knd)) := rfl
theorem wX_4_set {ad : Nat → Nat} {cI cL cO : ClassId} {sc : Int32} {sd : Int32} {src : (Nat → Int32)} {itm : (Nat → Int32)} {knd : (Nat → Int32)} {plc : (Nat → Int32)} {clk : (Nat → Int64)} {ec : Int32} {nf : (Nat → Int32)} {ns : (Nat → Int32)} {nc : Int32} {wt : (Nat → Nat → Int64)} {bd : (Nat → Nat → Int64)} {off : (Nat → Int64)} {row : (Nat → Int32)} {hw : (Nat → Nat → Int64)} {rl : Int32} {tm : (Nat → Int64)} {ord : (Nat → Int32)} {tc : Int32} {f : Nat → Int32} : (wX ad cI cL cO sc sd src itm knd plc clk ec nf ns nc wt bd off row hw rl tm ord tc).set 4 (ad 4, .inl (cI, 301, .inl f)) = (wX ad cI cL cO sc sd src itm f plc clk ec nf ns nc wt bd off row hw rl tm ord tc) := rfl
theorem wX_5 {ad : Nat → Nat} {cI cL cO : ClassId} {sc : Int32} {sd : Int32} {src : (Nat → Int32)} {itm : (Nat → Int32)} {knd : (Nat → Int32)} {plc : (Nat → Int32)} {clk : (Nat → Int64)} {ec : Int32} {nf : (Nat → Int32)} {ns : (Nat → Int32)} {nc : Int32} {wt : (Nat → Nat → Int64)} {bd : (Nat → Nat → Int64)} {off : (Nat → Int64)} {row : (Nat → Int32)} {hw : (Nat → Nat → Int64)} {rl : Int32} {tm : (Nat → Int64)} {ord : (Nat → Int32)} {tc : Int32} : (wX ad cI cL cO sc sd src itm knd plc clk ec nf ns nc wt bd off row hw rl tm ord tc)[5]? = some (ad 5, .inl (cI, 301, .inl plc)) := rfl
theorem wX_5_set {ad : Nat → Nat} {cI cL cO : ClassId} {sc : Int32} {sd : Int32} {src : (Nat → Int32)} {itm : (Nat → Int32)} {knd : (Nat → Int32)} {plc : (Nat → Int32)} {clk : (Nat → Int64)} {ec : Int32} {nf : (Nat → Int32)} {ns : (Nat → Int32)} {nc : Int32} {wt : (Nat → Nat → Int64)} {bd : (Nat → Nat → Int64)} {off : (Nat → Int64)} {row : (Nat → Int32)} {hw : (Nat → Nat → Int64)} {rl : Int32} {tm : (Nat → Int64)} {ord : (Nat → Int32)} {tc : Int32} {f : Nat → Int32} : (wX ad cI cL cO sc sd src itm knd plc clk ec nf ns nc wt bd off row hw rl tm ord tc).set 5 (ad 5, .inl (cI, 301, .inl f)) = (wX ad cI cL cO sc sd src itm knd f clk ec nf ns nc wt bd off row hw rl tm ord tc) := rfl
theorem wX_6 {ad : Nat → Nat} {cI cL cO : ClassId} {sc : Int32} {sd : Int32} {src : (Nat → Int32)} {itm : (Nat → Int32)} {knd : (Nat → Int32)} {plc : (Nat → Int32)} {clk : (Nat → Int64)} {ec : Int32} {nf : (Nat → Int32)} {ns : (Nat → Int32)} {nc : Int32} {wt : (Nat → Nat → Int64)} {bd : (Nat → Nat → Int64)} {off : (Nat → Int64)} {row : (Nat → Int32)} {hw : (Nat → Nat → Int64)} {rl : Int32} {tm : (Nat → Int64)} {ord : (Nat → Int32)} {tc : Int32} : (wX ad cI cL cO sc sd src itm knd plc clk ec nf ns nc wt bd off row hw rl tm ord tc)[6]? = some (ad 6, .inl (cL, 301, .inr (.inl clk))) := rfl
theorem wX_6_set {ad : Nat → Nat} {cI cL cO : ClassId} {sc : Int32} {sd : Int32} {src : (Nat → Int32)} {itm : (Nat → Int32)} {knd : (Nat → Int32)} {plc : (Nat → Int32)} {clk : (Nat → Int64)} {ec : Int32} {nf : (Nat → Int32)} {ns : (Nat → Int32)} {nc : Int32} {wt : (Nat → Nat → Int64)} {bd : (Nat → Nat → Int64)} {off : (Nat → Int64)} {row : (Nat → Int32)} {hw : (Nat → Nat → Int64)} {rl : Int32} {tm : (Nat → Int64)} {ord : (Nat → Int32)} {tc : Int32} {f : Nat → Int64} : (wX ad cI cL cO sc sd src itm knd plc clk ec nf ns nc wt bd off row hw rl tm ord tc).set 6 (ad 6, .inl (cL, 301, .inr (.inl f))) = (wX ad cI cL cO sc sd src itm knd plc f ec nf ns nc wt bd off row hw rl tm ord tc) := rfl
theorem wX_7 {ad : Nat → Nat} {cI cL cO : ClassId} {sc : Int32} {sd : Int32} {src : (Nat → Int32)} {itm : (Nat → Int32)} {knd : (Nat → Int32)} {plc : (Nat → Int32)} {clk : (Nat → Int64)} {ec : Int32} {nf : (Nat → Int32)} {ns : (Nat → Int32)} {nc : Int32} {wt : (Nat → Nat → Int64)} {bd : (Nat → Nat → Int64)} {off : (Nat → Int64)} {row : (Nat → Int32)} {hw : (Nat → Nat → Int64)} {rl : Int32} {tm : (Nat → Int64)} {ord : (Nat → Int32)} {tc : Int32} : (wX ad cI cL cO sc sd src itm knd plc clk ec nf ns nc wt bd off row hw rl tm ord tc)[7]? = some (ad 7, .inr (2, [.ref (ad 8), .ref (ad 9), .int nc])) := rfl
theorem wX_8 {ad : Nat → Nat} {cI cL cO : ClassId} {sc : Int32} {sd : Int32} {src : (Nat → Int32)} {itm : (Nat → Int32)} {knd : (Nat → Int32)} {plc : (Nat → Int32)} {clk : (Nat → Int64)} {ec : Int32} {nf : (Nat → Int32)} {ns : (Nat → Int32)} {nc : Int32} {wt : (Nat → Nat → Int64)} {bd : (Nat → Nat → Int64)} {off : (Nat → Int64)} {row : (Nat → Int32)} {hw : (Nat → Nat → Int64)} {rl : Int32} {tm : (Nat → Int64)} {ord : (Nat → Int32)} {tc : Int32} : (wX ad cI cL cO sc sd src itm knd plc clk ec nf ns nc wt bd off row hw rl tm ord tc)[8]? = some (ad 8, .inl (cI, 300, .inl nf)) := rfl
theorem wX_8_set {ad : Nat → Nat} {cI cL cO : ClassId} {sc : Int32} {sd : Int32} {src : (Nat → Int32)} {itm : (Nat → Int32)} {knd : (Nat → Int32)} {plc : (Nat → Int32)} {clk : (Nat → Int64)} {ec : Int32} {nf : (Nat → Int32)} {ns : (Nat → Int32)} {nc : Int32} {wt : (Nat → Nat → Int64)} {bd : (Nat → Nat → Int64)} {off : (Nat → Int64)} {row : (Nat → Int32)} {hw : (Nat → Nat → Int64)} {rl : Int32} {tm : (Nat → Int64)} {ord : (Nat → Int32)} {tc : Int32} {f : Nat → Int32} : (wX ad cI cL cO sc sd src itm knd plc clk ec nf ns nc wt bd off row hw rl tm ord tc).set 8 (ad 8, .inl (cI, 300, .inl f)) = (wX ad cI cL cO sc sd src itm knd plc clk ec f ns nc wt bd off row hw rl tm ord tc) := rfl
theorem wX_9 {ad : Nat → Nat} {cI cL cO : ClassId} {sc : Int32} {sd : Int32} {src : (Nat → Int32)} {itm : (Nat → Int32)} {knd : (Nat → Int32)} {plc : (Nat → Int32)} {clk : (Nat → Int64)} {ec : Int32} {nf : (Nat → Int32)} {ns : (Nat → Int32)} {nc : Int32} {wt : (Nat → Nat → Int64)} {bd : (Nat → Nat → Int64)} {off : (Nat → Int64)} {row : (Nat → Int32)} {hw : (Nat → Nat → Int64)} {rl : Int32} {tm : (Nat → Int64)} {ord : (Nat → Int32)} {tc : Int32} : (wX ad cI cL cO sc sd src itm knd plc clk ec nf ns nc wt bd off row hw rl tm ord tc)[9]? = some (ad 9, .inl (cI, 300, .inl ns)) := rfl
theorem wX_9_set {ad : Nat → Nat} {cI cL cO : ClassId} {sc : Int32} {sd : Int32} {src : (Nat → Int32)} {itm : (Nat → Int32)} {knd : (Nat → Int32)} {plc : (Nat → Int32)} {clk : (Nat → Int64)} {ec : Int32} {nf : (Nat → Int32)} {ns : (Nat → Int32)} {nc : Int32} {wt : (Nat → Nat → Int64)} {bd : (Nat → Nat → Int64)} {off : (Nat → Int64)} {row : (Nat → Int32)} {hw : (Nat → Nat → Int64)} {rl : Int32} {tm : (Nat → Int64)} {ord : (Nat → Int32)} {tc : Int32} {f : Nat → Int32} : (wX ad cI cL cO sc sd src itm knd plc clk ec nf ns nc wt bd off row hw rl tm ord tc).set 9 (ad 9, .inl (cI, 300, .inl f)) = (wX ad cI cL cO sc sd src itm knd plc clk ec nf f nc wt bd off row hw rl tm ord tc) := rfl
theorem wX_10 {ad : Nat → Nat} {cI cL cO : ClassId} {sc : Int32} {sd : Int32} {src : (Nat → Int32)} {itm : (Nat → Int32)} {knd : (Nat → Int32)} {plc : (Nat → Int32)} {clk : (Nat → Int64)} {ec : Int32} {nf : (Nat → Int32)} {ns : (Nat → Int32)} {nc : Int32} {wt : (Nat → Nat → Int64)} {bd : (Nat → Nat → Int64)} {off : (Nat → Int64)} {row : (Nat → Int32)} {hw : (Nat → Nat → Int64)} {rl : Int32} {tm : (Nat → Int64)} {ord : (Nat → Int32)} {tc : Int32} : (wX ad cI cL cO sc sd src itm knd plc clk ec nf ns nc wt bd off row hw rl tm ord tc)[10]? = some (ad 10, .inr (3, [.ref (ad 11), .ref (ad 12), .ref (ad 13)])) := rfl
theorem wX_11 {ad : Nat → Nat} {cI cL cO : ClassId} {sc : Int32} {sd : Int32} {src : (Nat → Int32)} {itm : (Nat → Int32)} {knd : (Nat → Int32)} {plc : (Nat → Int32)} {clk : (Nat → Int64)} {ec : Int32} {nf : (Nat → Int32)} {ns : (Nat → Int32)} {nc : Int32} {wt : (Nat → Nat → Int64)} {bd : (Nat → Nat → Int64)} {off : (Nat → Int64)} {row : (Nat → Int32)} {hw : (Nat → Nat → Int64)} {rl : Int32} {tm : (Nat → Int64)} {ord : (Nat → Int32)} {tc : Int32} : (wX ad cI cL cO sc sd src itm knd plc clk ec nf ns nc wt bd off row hw rl tm ord tc)[11]? = some (ad 11, .inl (cO, 16, .inr (.inr (.inr (.inr (fun i => some (ad (20 + i)))))))) := rfl
theorem wX_12 {ad : Nat → Nat} {cI cL cO : ClassId} {sc : Int32} {sd : Int32} {src : (Nat → Int32)} {itm : (Nat → Int32)} {knd : (Nat → Int32)} {plc : (Nat → Int32)} {clk : (Nat → Int64)} {ec : Int32} {nf : (Nat → Int32)} {ns : (Nat → Int32)} {nc : Int32} {wt : (Nat → Nat → Int64)} {bd : (Nat → Nat → Int64)} {off : (Nat → Int64)} {row : (Nat → Int32)} {hw : (Nat → Nat → Int64)} {rl : Int32} {tm : (Nat → Int64)} {ord : (Nat → Int32)} {tc : Int32} : (wX ad cI cL cO sc sd src itm knd plc clk ec nf ns nc wt bd off row hw rl tm ord tc)[12]? = some (ad 12, .inl (cO, 16, .inr (.inr (.inr (.inr (fun i => some (ad (36 + i)))))))) := rfl
theorem wX_13 {ad : Nat → Nat} {cI cL cO : ClassId} {sc : Int32} {sd : Int32} {src : (Nat → Int32)} {itm : (Nat → Int32)} {knd : (Nat → Int32)} {plc : (Nat → Int32)} {clk : (Nat → Int64)} {ec : Int32} {nf : (Nat → Int32)} {ns : (Nat → Int32)} {nc : Int32} {wt : (Nat → Nat → Int64)} {bd : (Nat → Nat → Int64)} {off : (Nat → Int64)} {row : (Nat → Int32)} {hw : (Nat → Nat → Int64)} {rl : Int32} {tm : (Nat → Int64)} {ord : (Nat → Int32)} {tc : Int32} : (wX ad cI cL cO sc sd src itm knd plc clk ec nf ns nc wt bd off row hw rl tm ord tc)[13]? = some (ad 13, .inl (cL, 16, .inr (.inl off))) := rfl
theorem wX_13_set {ad : Nat → Nat} {cI cL cO : ClassId} {sc : Int32} {sd : Int32} {src : (Nat → Int32)} {itm : (Nat → Int32)} {knd : (Nat → Int32)} {plc : (Nat → Int32)} {clk : (Nat → Int64)} {ec : Int32} {nf : (Nat → Int32)} {ns : (Nat → Int32)} {nc : Int32} {wt : (Nat → Nat → Int64)} {bd : (Nat → Nat → Int64)} {off : (Nat → Int64)} {row : (Nat → Int32)} {hw : (Nat → Nat → Int64)} {rl : Int32} {tm : (Nat → Int64)} {ord : (Nat → Int32)} {tc : Int32} {f : Nat → Int64} : (wX ad cI cL cO sc sd src itm knd plc clk ec nf ns nc wt bd off row hw rl tm ord tc).set 13 (ad 13, .inl (cL, 16, .inr (.inl f))) = (wX ad cI cL cO sc sd src itm knd plc clk ec nf ns nc wt bd f row hw rl tm ord tc) := rfl
theorem wX_14 {ad : Nat → Nat} {cI cL cO : ClassId} {sc : Int32} {sd : Int32} {src : (Nat → Int32)} {itm : (Nat → Int32)} {knd : (Nat → Int32)} {plc : (Nat → Int32)} {clk : (Nat → Int64)} {ec : Int32} {nf : (Nat → Int32)} {ns : (Nat → Int32)} {nc : Int32} {wt : (Nat → Nat → Int64)} {bd : (Nat → Nat → Int64)} {off : (Nat → Int64)} {row : (Nat → Int32)} {hw : (Nat → Nat → Int64)} {rl : Int32} {tm : (Nat → Int64)} {ord : (Nat → Int32)} {tc : Int32} : (wX ad cI cL cO sc sd src itm knd plc clk ec nf ns nc wt bd off row hw rl tm ord tc)[14]? = some (ad 14, .inr (4, [.ref (ad 15), .ref (ad 16), .int rl])) := rfl
theorem wX_15 {ad : Nat → Nat} {cI cL cO : ClassId} {sc : Int32} {sd : Int32} {src : (Nat → Int32)} {itm : (Nat → Int32)} {knd : (Nat → Int32)} {plc : (Nat → Int32)} {clk : (Nat → Int64)} {ec : Int32} {nf : (Nat → Int32)} {ns : (Nat → Int32)} {nc : Int32} {wt : (Nat → Nat → Int64)} {bd : (Nat → Nat → Int64)} {off : (Nat → Int64)} {row : (Nat → Int32)} {hw : (Nat → Nat → Int64)} {rl : Int32} {tm : (Nat → Int64)} {ord : (Nat → Int32)} {tc : Int32} : (wX ad cI cL cO sc sd src itm knd plc clk ec nf ns nc wt bd off row hw rl tm ord tc)[15]? = some (ad 15, .inl (cI, 16, .inl row)) := rfl
theorem wX_15_set {ad : Nat → Nat} {cI cL cO : ClassId} {sc : Int32} {sd : Int32} {src : (Nat → Int32)} {itm : (Nat → Int32)} {knd : (Nat → Int32)} {plc : (Nat → Int32)} {clk : (Nat → Int64)} {ec : Int32} {nf : (Nat → Int32)} {ns : (Nat → Int32)} {nc : Int32} {wt : (Nat → Nat → Int64)} {bd : (Nat → Nat → Int64)} {off : (Nat → Int64)} {row : (Nat → Int32)} {hw : (Nat → Nat → Int64)} {rl : Int32} {tm : (Nat → Int64)} {ord : (Nat → Int32)} {tc : Int32} {f : Nat → Int32} : (wX ad cI cL cO sc sd src itm knd plc clk ec nf ns nc wt bd off row hw rl tm ord tc).set 15 (ad 15, .inl (cI, 16, .inl f)) = (wX ad cI cL cO sc sd src itm knd plc clk ec nf ns nc wt bd off f hw rl tm ord tc) := rfl
theorem wX_16 {ad : Nat → Nat} {cI cL cO : ClassId} {sc : Int32} {sd : Int32} {src : (Nat → Int32)} {itm : (Nat → Int32)} {knd : (Nat → Int32)} {plc : (Nat → Int32)} {clk : (Nat → Int64)} {ec : Int32} {nf : (Nat → Int32)} {ns : (Nat → Int32)} {nc : Int32} {wt : (Nat → Nat → Int64)} {bd : (Nat → Nat → Int64)} {off : (Nat → Int64)} {row : (Nat → Int32)} {hw : (Nat → Nat → Int64)} {rl : Int32} {tm : (Nat → Int64)} {ord : (Nat → Int32)} {tc : Int32} : (wX ad cI cL cO sc sd src itm knd plc clk ec nf ns nc wt bd off row hw rl tm ord tc)[16]? = some (ad 16, .inl (cO, 17, .inr (.inr (.inr (.inr (fun i => some (ad (52 + i)))))))) := rfl
theorem wX_17 {ad : Nat → Nat} {cI cL cO : ClassId} {sc : Int32} {sd : Int32} {src : (Nat → Int32)} {itm : (Nat → Int32)} {knd : (Nat → Int32)} {plc : (Nat → Int32)} {clk : (Nat → Int64)} {ec : Int32} {nf : (Nat → Int32)} {ns : (Nat → Int32)} {nc : Int32} {wt : (Nat → Nat → Int64)} {bd : (Nat → Nat → Int64)} {off : (Nat → Int64)} {row : (Nat → Int32)} {hw : (Nat → Nat → Int64)} {rl : Int32} {tm : (Nat → Int64)} {ord : (Nat → Int32)} {tc : Int32} : (wX ad cI cL cO sc sd src itm knd plc clk ec nf ns nc wt bd off row hw rl tm ord tc)[17]? = some (ad 17, .inr (5, [.ref (ad 18), .ref (ad 19), .int tc])) := rfl
theorem wX_18 {ad : Nat → Nat} {cI cL cO : ClassId} {sc : Int32} {sd : Int32} {src : (Nat → Int32)} {itm : (Nat → Int32)} {knd : (Nat → Int32)} {plc : (Nat → Int32)} {clk : (Nat → Int64)} {ec : Int32} {nf : (Nat → Int32)} {ns : (Nat → Int32)} {nc : Int32} {wt : (Nat → Nat → Int64)} {bd : (Nat → Nat → Int64)} {off : (Nat → Int64)} {row : (Nat → Int32)} {hw : (Nat → Nat → Int64)} {rl : Int32} {tm : (Nat → Int64)} {ord : (Nat → Int32)} {tc : Int32} : (wX ad cI cL cO sc sd src itm knd plc clk ec nf ns nc wt bd off row hw rl tm ord tc)[18]? = some (ad 18, .inl (cL, 301, .inr (.inl tm))) := rfl
theorem wX_18_set {ad : Nat → Nat} {cI cL cO : ClassId} {sc : Int32} {sd : Int32} {src : (Nat → Int32)} {itm : (Nat → Int32)} {knd : (Nat → Int32)} {plc : (Nat → Int32)} {clk : (Nat → Int64)} {ec : Int32} {nf : (Nat → Int32)} {ns : (Nat → Int32)} {nc : Int32} {wt : (Nat → Nat → Int64)} {bd : (Nat → Nat → Int64)} {off : (Nat → Int64)} {row : (Nat → Int32)} {hw : (Nat → Nat → Int64)} {rl : Int32} {tm : (Nat → Int64)} {ord : (Nat → Int32)} {tc : Int32} {f : Nat → Int64} : (wX ad cI cL cO sc sd src itm knd plc clk ec nf ns nc wt bd off row hw rl tm ord tc).set 18 (ad 18, .inl (cL, 301, .inr (.inl f))) = (wX ad cI cL cO sc sd src itm knd plc clk ec nf ns nc wt bd off row hw rl f ord tc) := rfl
theorem wX_19 {ad : Nat → Nat} {cI cL cO : ClassId} {sc : Int32} {sd : Int32} {src : (Nat → Int32)} {itm : (Nat → Int32)} {knd : (Nat → Int32)} {plc : (Nat → Int32)} {clk : (Nat → Int64)} {ec : Int32} {nf : (Nat → Int32)} {ns : (Nat → Int32)} {nc : Int32} {wt : (Nat → Nat → Int64)} {bd : (Nat → Nat → Int64)} {off : (Nat → Int64)} {row : (Nat → Int32)} {hw : (Nat → Nat → Int64)} {rl : Int32} {tm : (Nat → Int64)} {ord : (Nat → Int32)} {tc : Int32} : (wX ad cI cL cO sc sd src itm knd plc clk ec nf ns nc wt bd off row hw rl tm ord tc)[19]? = some (ad 19, .inl (cI, 300, .inl ord)) := rfl
theorem wX_19_set {ad : Nat → Nat} {cI cL cO : ClassId} {sc : Int32} {sd : Int32} {src : (Nat → Int32)} {itm : (Nat → Int32)} {knd : (Nat → Int32)} {plc : (Nat → Int32)} {clk : (Nat → Int64)} {ec : Int32} {nf : (Nat → Int32)} {ns : (Nat → Int32)} {nc : Int32} {wt : (Nat → Nat → Int64)} {bd : (Nat → Nat → Int64)} {off : (Nat → Int64)} {row : (Nat → Int32)} {hw : (Nat → Nat → Int64)} {rl : Int32} {tm : (Nat → Int64)} {ord : (Nat → Int32)} {tc : Int32} {f : Nat → Int32} : (wX ad cI cL cO sc sd src itm knd plc clk ec nf ns nc wt bd off row hw rl tm ord tc).set 19 (ad 19, .inl (cI, 300, .inl f)) = (wX ad cI cL cO sc sd src itm knd plc clk ec nf ns nc wt bd off row hw rl tm f tc) := rfl
theorem wX_wt {ad : Nat → Nat} {cI cL cO : ClassId} {sc : Int32} {sd : Int32} {src : (Nat → Int32)} {itm : (Nat → Int32)} {knd : (Nat → Int32)} {plc : (Nat → Int32)} {clk : (Nat → Int64)} {ec : Int32} {nf : (Nat → Int32)} {ns : (Nat → Int32)} {nc : Int32} {wt : (Nat → Nat → Int64)} {bd : (Nat → Nat → Int64)} {off : (Nat → Int64)} {row : (Nat → Int32)} {hw : (Nat → Nat → Int64)} {rl : Int32} {tm : (Nat → Int64)} {ord : (Nat → Int32)} {tc : Int32} {i : Nat} (h : i < 16) : (wX ad cI cL cO sc sd src itm knd plc clk ec nf ns nc wt bd off row hw rl tm ord tc)[20 + i]? = some (ad (20 + i), .inl (cL, 16, .inr (.inl (wt i)))) := x_app_get rfl (x_app_get_left (x_grid_get h))
theorem wX_wt_set {ad : Nat → Nat} {cI cL cO : ClassId} {sc : Int32} {sd : Int32} {src : (Nat → Int32)} {itm : (Nat → Int32)} {knd : (Nat → Int32)} {plc : (Nat → Int32)} {clk : (Nat → Int64)} {ec : Int32} {nf : (Nat → Int32)} {ns : (Nat → Int32)} {nc : Int32} {wt : (Nat → Nat → Int64)} {bd : (Nat → Nat → Int64)} {off : (Nat → Int64)} {row : (Nat → Int32)} {hw : (Nat → Nat → Int64)} {rl : Int32} {tm : (Nat → Int64)} {ord : (Nat → Int32)} {tc : Int32} {i : Nat} {f : Nat → Int64} (h : i < 16) : (wX ad cI cL cO sc sd src itm knd plc clk ec nf ns nc wt bd off row hw rl tm ord tc).set (20 + i) (ad (20 + i), .inl (cL, 16, .inr (.inl f))) = (wX ad cI cL cO sc sd src itm knd plc clk ec nf ns nc (va_up wt i f) bd off row hw rl tm ord tc) := x_app_set rfl (x_app_set_left (by rw [x_grid_len]; exact h) (x_grid_set h))
theorem wX_bd {ad : Nat → Nat} {cI cL cO : ClassId} {sc : Int32} {sd : Int32} {src : (Nat → Int32)} {itm : (Nat → Int32)} {knd : (Nat → Int32)} {plc : (Nat → Int32)} {clk : (Nat → Int64)} {ec : Int32} {nf : (Nat → Int32)} {ns : (Nat → Int32)} {nc : Int32} {wt : (Nat → Nat → Int64)} {bd : (Nat → Nat → Int64)} {off : (Nat → Int64)} {row : (Nat → Int32)} {hw : (Nat → Nat → Int64)} {rl : Int32} {tm : (Nat → Int64)} {ord : (Nat → Int32)} {tc : Int32} {i : Nat} (h : i < 16) : (wX ad cI cL cO sc sd src itm knd plc clk ec nf ns nc wt bd off row hw rl tm ord tc)[36 + i]? = some (ad (36 + i), .inl (cL, 16, .inr (.inl (bd i)))) := by
  have e : 36 + i = (20 + (16 + i)) := by omega
  exact (congrArg (fun q => (wX ad cI cL cO sc sd src itm knd plc clk ec nf ns nc wt bd off row hw rl tm ord tc)[q]?) e).trans (x_app_get rfl (x_app_get x_grid_len (x_app_get_left (x_grid_get h))))
theorem wX_bd_set {ad : Nat → Nat} {cI cL cO : ClassId} {sc : Int32} {sd : Int32} {src : (Nat → Int32)} {itm : (Nat → Int32)} {knd : (Nat → Int32)} {plc : (Nat → Int32)} {clk : (Nat → Int64)} {ec : Int32} {nf : (Nat → Int32)} {ns : (Nat → Int32)} {nc : Int32} {wt : (Nat → Nat → Int64)} {bd : (Nat → Nat → Int64)} {off : (Nat → Int64)} {row : (Nat → Int32)} {hw : (Nat → Nat → Int64)} {rl : Int32} {tm : (Nat → Int64)} {ord : (Nat → Int32)} {tc : Int32} {i : Nat} {f : Nat → Int64} (h : i < 16) : (wX ad cI cL cO sc sd src itm knd plc clk ec nf ns nc wt bd off row hw rl tm ord tc).set (36 + i) (ad (36 + i), .inl (cL, 16, .inr (.inl f))) = (wX ad cI cL cO sc sd src itm knd plc clk ec nf ns nc wt (va_up bd i f) off row hw rl tm ord tc) := by
  have e : 36 + i = (20 + (16 + i)) := by omega
  exact (congrArg (fun q => (wX ad cI cL cO sc sd src itm knd plc clk ec nf ns nc wt bd off row hw rl tm ord tc).set q (ad (36 + i), .inl (cL, 16, .inr (.inl f)))) e).trans (x_app_set rfl (x_app_set x_grid_len (x_app_set_left (by rw [x_grid_len]; exact h) (x_grid_set h))))
theorem wX_hw {ad : Nat → Nat} {cI cL cO : ClassId} {sc : Int32} {sd : Int32} {src : (Nat → Int32)} {itm : (Nat → Int32)} {knd : (Nat → Int32)} {plc : (Nat → Int32)} {clk : (Nat → Int64)} {ec : Int32} {nf : (Nat → Int32)} {ns : (Nat → Int32)} {nc : Int32} {wt : (Nat → Nat → Int64)} {bd : (Nat → Nat → Int64)} {off : (Nat → Int64)} {row : (Nat → Int32)} {hw : (Nat → Nat → Int64)} {rl : Int32} {tm : (Nat → Int64)} {ord : (Nat → Int32)} {tc : Int32} {i : Nat} (h : i < 17) : (wX ad cI cL cO sc sd src itm knd plc clk ec nf ns nc wt bd off row hw rl tm ord tc)[52 + i]? = some (ad (52 + i), .inl (cL, 16, .inr (.inl (hw i)))) := by
  have e : 52 + i = (20 + (16 + (16 + i))) := by omega
  exact (congrArg (fun q => (wX ad cI cL cO sc sd src itm knd plc clk ec nf ns nc wt bd off row hw rl tm ord tc)[q]?) e).trans (x_app_get rfl (x_app_get x_grid_len (x_app_get x_grid_len (x_grid_get h))))
theorem wX_hw_set {ad : Nat → Nat} {cI cL cO : ClassId} {sc : Int32} {sd : Int32} {src : (Nat → Int32)} {itm : (Nat → Int32)} {knd : (Nat → Int32)} {plc : (Nat → Int32)} {clk : (Nat → Int64)} {ec : Int32} {nf : (Nat → Int32)} {ns : (Nat → Int32)} {nc : Int32} {wt : (Nat → Nat → Int64)} {bd : (Nat → Nat → Int64)} {off : (Nat → Int64)} {row : (Nat → Int32)} {hw : (Nat → Nat → Int64)} {rl : Int32} {tm : (Nat → Int64)} {ord : (Nat → Int32)} {tc : Int32} {i : Nat} {f : Nat → Int64} (h : i < 17) : (wX ad cI cL cO sc sd src itm knd plc clk ec nf ns nc wt bd off row hw rl tm ord tc).set (52 + i) (ad (52 + i), .inl (cL, 16, .inr (.inl f))) = (wX ad cI cL cO sc sd src itm knd plc clk ec nf ns nc wt bd off row (va_up hw i f) rl tm ord tc) := by
  have e : 52 + i = (20 + (16 + (16 + i))) := by omega
  exact (congrArg (fun q => (wX ad cI cL cO sc sd src itm knd plc clk ec nf ns nc wt bd off row hw rl tm ord tc).set q (ad (52 + i), .inl (cL, 16, .inr (.inl f)))) e).trans (x_app_set rfl (x_app_set x_grid_len (x_app_set x_grid_len (x_grid_set h))))
end
section
theorem dEv_add_0 : decode bEv_add 0 = .ok (.aload_n 0, 1) := by decide +kernel
theorem dEv_add_1 : decode bEv_add 1 = .ok (.dup, 1) := by decide +kernel
theorem dEv_add_2 : decode bEv_add 2 = .ok (.getfield 28, 3) := by decide +kernel
theorem dEv_add_5 : decode bEv_add 5 = .ok (.iconst 1, 1) := by decide +kernel
theorem dEv_add_6 : decode bEv_add 6 = .ok (.iadd, 1) := by decide +kernel
theorem dEv_add_7 : decode bEv_add 7 = .ok (.putfield 28, 3) := by decide +kernel
theorem dEv_add_10 : decode bEv_add 10 = .ok (.aload_n 0, 1) := by decide +kernel
theorem dEv_add_11 : decode bEv_add 11 = .ok (.getfield 9, 3) := by decide +kernel
theorem dEv_add_14 : decode bEv_add 14 = .ok (.aload_n 0, 1) := by decide +kernel
theorem dEv_add_15 : decode bEv_add 15 = .ok (.getfield 28, 3) := by decide +kernel
theorem dEv_add_18 : decode bEv_add 18 = .ok (.iload_n 1, 1) := by decide +kernel
theorem dEv_add_19 : decode bEv_add 19 = .ok (.iastore, 1) := by decide +kernel
theorem dEv_add_20 : decode bEv_add 20 = .ok (.aload_n 0, 1) := by decide +kernel
theorem dEv_add_21 : decode bEv_add 21 = .ok (.getfield 15, 3) := by decide +kernel
theorem dEv_add_24 : decode bEv_add 24 = .ok (.aload_n 0, 1) := by decide +kernel
theorem dEv_add_25 : decode bEv_add 25 = .ok (.getfield 28, 3) := by decide +kernel
theorem dEv_add_28 : decode bEv_add 28 = .ok (.iload_n 2, 1) := by decide +kernel
theorem dEv_add_29 : decode bEv_add 29 = .ok (.iastore, 1) := by decide +kernel
theorem dEv_add_30 : decode bEv_add 30 = .ok (.aload_n 0, 1) := by decide +kernel
theorem dEv_add_31 : decode bEv_add 31 = .ok (.getfield 18, 3) := by decide +kernel
theorem dEv_add_34 : decode bEv_add 34 = .ok (.aload_n 0, 1) := by decide +kernel
theorem dEv_add_35 : decode bEv_add 35 = .ok (.getfield 28, 3) := by decide +kernel
theorem dEv_add_38 : decode bEv_add 38 = .ok (.iload_n 3, 1) := by decide +kernel
theorem dEv_add_39 : decode bEv_add 39 = .ok (.iastore, 1) := by decide +kernel
theorem dEv_add_40 : decode bEv_add 40 = .ok (.aload_n 0, 1) := by decide +kernel
theorem dEv_add_41 : decode bEv_add 41 = .ok (.getfield 21, 3) := by decide +kernel
theorem dEv_add_44 : decode bEv_add 44 = .ok (.aload_n 0, 1) := by decide +kernel
theorem dEv_add_45 : decode bEv_add 45 = .ok (.getfield 28, 3) := by decide +kernel
theorem dEv_add_48 : decode bEv_add 48 = .ok (.iload 4, 2) := by decide +kernel
theorem dEv_add_50 : decode bEv_add 50 = .ok (.iastore, 1) := by decide +kernel
theorem dEv_add_51 : decode bEv_add 51 = .ok (.aload_n 0, 1) := by decide +kernel
theorem dEv_add_52 : decode bEv_add 52 = .ok (.getfield 24, 3) := by decide +kernel
theorem dEv_add_55 : decode bEv_add 55 = .ok (.aload_n 0, 1) := by decide +kernel
theorem dEv_add_56 : decode bEv_add 56 = .ok (.getfield 28, 3) := by decide +kernel
theorem dEv_add_59 : decode bEv_add 59 = .ok (.lload 5, 2) := by decide +kernel
theorem dEv_add_61 : decode bEv_add 61 = .ok (.lastore, 1) := by decide +kernel
theorem dEv_add_62 : decode bEv_add 62 = .ok (.aload_n 0, 1) := by decide +kernel
theorem dEv_add_63 : decode bEv_add 63 = .ok (.getfield 28, 3) := by decide +kernel
theorem dEv_add_66 : decode bEv_add 66 = .ok (.ireturn, 1) := by decide +kernel
theorem dEv_has_0 : decode bEv_has 0 = .ok (.iconst 1, 1) := by decide +kernel
theorem dEv_has_1 : decode bEv_has 1 = .ok (.istore 7, 2) := by decide +kernel
theorem dEv_has_3 : decode bEv_has 3 = .ok (.iload 7, 2) := by decide +kernel
theorem dEv_has_5 : decode bEv_has 5 = .ok (.aload_n 0, 1) := by decide +kernel
theorem dEv_has_6 : decode bEv_has 6 = .ok (.getfield 28, 3) := by decide +kernel
theorem dEv_has_9 : decode bEv_has 9 = .ok (.if_icmp .gt 69, 3) := by decide +kernel
theorem dEv_has_12 : decode bEv_has 12 = .ok (.aload_n 0, 1) := by decide +kernel
theorem dEv_has_13 : decode bEv_has 13 = .ok (.getfield 24, 3) := by decide +kernel
theorem dEv_has_16 : decode bEv_has 16 = .ok (.iload 7, 2) := by decide +kernel
theorem dEv_has_18 : decode bEv_has 18 = .ok (.laload, 1) := by decide +kernel
theorem dEv_has_19 : decode bEv_has 19 = .ok (.lload 5, 2) := by decide +kernel
theorem dEv_has_21 : decode bEv_has 21 = .ok (.lcmp, 1) := by decide +kernel
theorem dEv_has_22 : decode bEv_has 22 = .ok (.ifCond .ne 50, 3) := by decide +kernel
theorem dEv_has_72 : decode bEv_has 72 = .ok (.iinc 7 1, 3) := by decide +kernel
theorem dEv_has_75 : decode bEv_has 75 = .ok (.goto (-72), 3) := by decide +kernel
theorem dEv_has_25 : decode bEv_has 25 = .ok (.aload_n 0, 1) := by decide +kernel
theorem dEv_has_26 : decode bEv_has 26 = .ok (.getfield 9, 3) := by decide +kernel
theorem dEv_has_29 : decode bEv_has 29 = .ok (.iload 7, 2) := by decide +kernel
theorem dEv_has_31 : decode bEv_has 31 = .ok (.iaload, 1) := by decide +kernel
theorem dEv_has_32 : decode bEv_has 32 = .ok (.iload_n 1, 1) := by decide +kernel
theorem dEv_has_33 : decode bEv_has 33 = .ok (.if_icmp .ne 39, 3) := by decide +kernel
theorem dEv_has_36 : decode bEv_has 36 = .ok (.aload_n 0, 1) := by decide +kernel
theorem dEv_has_37 : decode bEv_has 37 = .ok (.getfield 15, 3) := by decide +kernel
theorem dEv_has_40 : decode bEv_has 40 = .ok (.iload 7, 2) := by decide +kernel
theorem dEv_has_42 : decode bEv_has 42 = .ok (.iaload, 1) := by decide +kernel
theorem dEv_has_43 : decode bEv_has 43 = .ok (.iload_n 2, 1) := by decide +kernel
theorem dEv_has_44 : decode bEv_has 44 = .ok (.if_icmp .ne 28, 3) := by decide +kernel
theorem dEv_has_47 : decode bEv_has 47 = .ok (.aload_n 0, 1) := by decide +kernel
theorem dEv_has_48 : decode bEv_has 48 = .ok (.getfield 18, 3) := by decide +kernel
theorem dEv_has_51 : decode bEv_has 51 = .ok (.iload 7, 2) := by decide +kernel
theorem dEv_has_53 : decode bEv_has 53 = .ok (.iaload, 1) := by decide +kernel
theorem dEv_has_54 : decode bEv_has 54 = .ok (.iload_n 3, 1) := by decide +kernel
theorem dEv_has_55 : decode bEv_has 55 = .ok (.if_icmp .ne 17, 3) := by decide +kernel
theorem dEv_has_58 : decode bEv_has 58 = .ok (.aload_n 0, 1) := by decide +kernel
theorem dEv_has_59 : decode bEv_has 59 = .ok (.getfield 21, 3) := by decide +kernel
theorem dEv_has_62 : decode bEv_has 62 = .ok (.iload 7, 2) := by decide +kernel
theorem dEv_has_64 : decode bEv_has 64 = .ok (.iaload, 1) := by decide +kernel
theorem dEv_has_65 : decode bEv_has 65 = .ok (.iload 4, 2) := by decide +kernel
theorem dEv_has_67 : decode bEv_has 67 = .ok (.if_icmp .ne 5, 3) := by decide +kernel
theorem dEv_has_70 : decode bEv_has 70 = .ok (.iconst 1, 1) := by decide +kernel
theorem dEv_has_71 : decode bEv_has 71 = .ok (.ireturn, 1) := by decide +kernel
theorem dEv_has_78 : decode bEv_has 78 = .ok (.iconst 0, 1) := by decide +kernel
theorem dEv_has_79 : decode bEv_has 79 = .ok (.ireturn, 1) := by decide +kernel
theorem dEv_countIn_0 : decode bEv_countIn 0 = .ok (.iconst 0, 1) := by decide +kernel
theorem dEv_countIn_1 : decode bEv_countIn 1 = .ok (.istore_n 3, 1) := by decide +kernel
theorem dEv_countIn_2 : decode bEv_countIn 2 = .ok (.iconst 1, 1) := by decide +kernel
theorem dEv_countIn_3 : decode bEv_countIn 3 = .ok (.istore 4, 2) := by decide +kernel
theorem dEv_countIn_5 : decode bEv_countIn 5 = .ok (.iload 4, 2) := by decide +kernel
theorem dEv_countIn_7 : decode bEv_countIn 7 = .ok (.aload_n 0, 1) := by decide +kernel
theorem dEv_countIn_8 : decode bEv_countIn 8 = .ok (.getfield 28, 3) := by decide +kernel
theorem dEv_countIn_11 : decode bEv_countIn 11 = .ok (.if_icmp .gt 20, 3) := by decide +kernel
theorem dEv_countIn_14 : decode bEv_countIn 14 = .ok (.aload_n 1, 1) := by decide +kernel
theorem dEv_countIn_15 : decode bEv_countIn 15 = .ok (.iload 4, 2) := by decide +kernel
theorem dEv_countIn_17 : decode bEv_countIn 17 = .ok (.iaload, 1) := by decide +kernel
theorem dEv_countIn_18 : decode bEv_countIn 18 = .ok (.iload_n 2, 1) := by decide +kernel
theorem dEv_countIn_19 : decode bEv_countIn 19 = .ok (.if_icmp .ne 6, 3) := by decide +kernel
theorem dEv_countIn_25 : decode bEv_countIn 25 = .ok (.iinc 4 1, 3) := by decide +kernel
theorem dEv_countIn_28 : decode bEv_countIn 28 = .ok (.goto (-23), 3) := by decide +kernel
theorem dEv_countIn_22 : decode bEv_countIn 22 = .ok (.iinc 3 1, 3) := by decide +kernel
theorem dEv_countIn_31 : decode bEv_countIn 31 = .ok (.iload_n 3, 1) := by decide +kernel
theorem dEv_countIn_32 : decode bEv_countIn 32 = .ok (.ireturn, 1) := by decide +kernel
theorem dNd_add_0 : decode bNd_add 0 = .ok (.aload_n 0, 1) := by decide +kernel
theorem dNd_add_1 : decode bNd_add 1 = .ok (.getfield 9, 3) := by decide +kernel
theorem dNd_add_4 : decode bNd_add 4 = .ok (.aload_n 0, 1) := by decide +kernel
theorem dNd_add_5 : decode bNd_add 5 = .ok (.getfield 18, 3) := by decide +kernel
theorem dNd_add_8 : decode bNd_add 8 = .ok (.iload_n 1, 1) := by decide +kernel
theorem dNd_add_9 : decode bNd_add 9 = .ok (.iastore, 1) := by decide +kernel
theorem dNd_add_10 : decode bNd_add 10 = .ok (.aload_n 0, 1) := by decide +kernel
theorem dNd_add_11 : decode bNd_add 11 = .ok (.getfield 15, 3) := by decide +kernel
theorem dNd_add_14 : decode bNd_add 14 = .ok (.aload_n 0, 1) := by decide +kernel
theorem dNd_add_15 : decode bNd_add 15 = .ok (.getfield 18, 3) := by decide +kernel
theorem dNd_add_18 : decode bNd_add 18 = .ok (.iload_n 2, 1) := by decide +kernel
theorem dNd_add_19 : decode bNd_add 19 = .ok (.iastore, 1) := by decide +kernel
theorem dNd_add_20 : decode bNd_add 20 = .ok (.aload_n 0, 1) := by decide +kernel
theorem dNd_add_21 : decode bNd_add 21 = .ok (.dup, 1) := by decide +kernel
theorem dNd_add_22 : decode bNd_add 22 = .ok (.getfield 18, 3) := by decide +kernel
theorem dNd_add_25 : decode bNd_add 25 = .ok (.iconst 1, 1) := by decide +kernel
theorem dNd_add_26 : decode bNd_add 26 = .ok (.iadd, 1) := by decide +kernel
theorem dNd_add_27 : decode bNd_add 27 = .ok (.putfield 18, 3) := by decide +kernel
theorem dNd_add_30 : decode bNd_add 30 = .ok (.aload_n 0, 1) := by decide +kernel
theorem dNd_add_31 : decode bNd_add 31 = .ok (.getfield 18, 3) := by decide +kernel
theorem dNd_add_34 : decode bNd_add 34 = .ok (.ireturn, 1) := by decide +kernel
theorem k_x0 : (.fieldLink REv 28 REv "count" "I" : Cond) ∈ TBL := TBL_in (by decide +kernel) (by decide +kernel)
theorem k_x1 : (.fieldLink REv 9 REv "sources" "[I" : Cond) ∈ TBL := TBL_in (by decide +kernel) (by decide +kernel)
theorem k_x2 : (.fieldLink REv 15 REv "items" "[I" : Cond) ∈ TBL := TBL_in (by decide +kernel) (by decide +kernel)
theorem k_x3 : (.fieldLink REv 18 REv "kinds" "[I" : Cond) ∈ TBL := TBL_in (by decide +kernel) (by decide +kernel)
theorem k_x4 : (.fieldLink REv 21 REv "places" "[I" : Cond) ∈ TBL := TBL_in (by decide +kernel) (by decide +kernel)
theorem k_x5 : (.fieldLink REv 24 REv "clocks" "[J" : Cond) ∈ TBL := TBL_in (by decide +kernel) (by decide +kernel)
theorem k_x6 : (.fieldLink RNd 9 RNd "firsts" "[I" : Cond) ∈ TBL := TBL_in (by decide +kernel) (by decide +kernel)
theorem k_x7 : (.fieldLink RNd 18 RNd "count" "I" : Cond) ∈ TBL := TBL_in (by decide +kernel) (by decide +kernel)
theorem k_x8 : (.fieldLink RNd 15 RNd "seconds" "[I" : Cond) ∈ TBL := TBL_in (by decide +kernel) (by decide +kernel)
end
section
/-! EventOrder$Events.add(IIIIJ)I -/
abbrev rm_Events_add : Room := { frames := 0, cells := 0, slots := 0, locals := 0 }
def Events_add_wp (src : (Nat → Int32)) (itm : (Nat → Int32)) (knd : (Nat → Int32)) (plc : (Nat → Int32)) (clk : (Nat → Int64)) (ec : Int32) (a1 : Int32) (a2 : Int32) (a3 : Int32) (a4 : Int32) (a5 : Int64) (Qr : Int32 → ((Nat → Int32) × (Nat → Int32) × (Nat → Int32) × (Nat → Int32) × (Nat → Int64) × Int32) → Prop) : Prop := vp_in (ec + 1) 301 ∧ vp_in (ec + 1) 301 ∧ vp_in (ec + 1) 301 ∧ vp_in (ec + 1) 301 ∧ vp_in (ec + 1) 301 ∧ Qr (ec + 1) (upd src (ec + 1).toNatClampNeg a1, upd itm (ec + 1).toNatClampNeg a2, upd knd (ec + 1).toNatClampNeg a3, upd plc (ec + 1).toNatClampNeg a4, vp_updL clk (ec + 1).toNatClampNeg a5, ec + 1)
set_option maxHeartbeats 4000000 in
set_option maxRecDepth 100000 in
theorem c_Events_add {l : Launch} {D : va_G} {ad : Nat → Nat} {cI cL cO : ClassId} {sc : Int32} {sd : Int32} {src : (Nat → Int32)} {itm : (Nat → Int32)} {knd : (Nat → Int32)} {plc : (Nat → Int32)} {clk : (Nat → Int64)} {ec : Int32} {nf : (Nat → Int32)} {ns : (Nat → Int32)} {nc : Int32} {wt : (Nat → Nat → Int64)} {bd : (Nat → Nat → Int64)} {off : (Nat → Int64)} {row : (Nat → Int32)} {hw : (Nat → Nat → Int64)} {rl : Int32} {tm : (Nat → Int64)} {ord : (Nat → Int32)} {tc : Int32} {a1 : Int32} {a2 : Int32} {a3 : Int32} {a4 : Int32} {a5 : Int64} {Qr : Int32 → ((Nat → Int32) × (Nat → Int32) × (Nat → Int32) × (Nat → Int32) × (Nat → Int64) × Int32) → Prop} (h : Events_add_wp src itm knd plc clk ec a1 a2 a3 a4 a5 Qr) (sz : Nat) : vx_Met l yEv_add (Cond.code yEv_add bEv_add 7 (some .int) :: TBL) rm_Events_add (va_Pc [.ref (ad 1), .int a1, .int a2, .int a3, .int a4, .long a5] (XP D vwCl (tysX cI cL cO) (wX ad cI cL cO sc sd src itm knd plc clk ec nf ns nc wt bd off row hw rl tm ord tc) sz)) (va_Qi Qr (fun u t => XB D vwCl (tysX cI cL cO) (va_A (wX ad cI cL cO sc sd src itm knd plc clk ec nf ns nc wt bd off row hw rl tm ord tc) sz) (wX ad cI cL cO sc sd u.1 u.2.1 u.2.2.1 u.2.2.2.1 u.2.2.2.2.1 u.2.2.2.2.2 nf ns nc wt bd off row hw rl tm ord tc) t) (va_A (wX ad cI cL cO sc sd src itm knd plc clk ec nf ns nc wt bd off row hw rl tm ord tc) sz)) (XT D vwCl (tysX cI cL cO) (va_A (wX ad cI cL cO sc sd src itm knd plc clk ec nf ns nc wt bd off row hw rl tm ord tc) sz) (wX ad cI cL cO sc sd src itm knd plc clk ec nf ns nc wt bd off row hw rl tm ord tc) (fun _ => False)) rm_Events_add.cells rm_Events_add.slots (va_A (wX ad cI cL cO sc sd src itm knd plc clk ec nf ns nc wt bd off row hw rl tm ord tc) sz) := by
  refine x_met [.ref (ad 1), .int a1, .int a2, .int a3, .int a4, .long a5] TBL_good (by decide) (Nat.le_of_ble_eq_true rfl) ?_
  intro p e s m args below meth c hC hr hlk hnm hnh
  have hret : ∀ (ce sl : Nat), ce ≤ rm_Events_add.cells → sl ≤ rm_Events_add.slots → ∀ (r : Int32) (u : ((Nat → Int32) × (Nat → Int32) × (Nat → Int32) × (Nat → Int32) × (Nat → Int64) × Int32)), Qr r u → ∀ (pc : Nat) (lv : List (Nat × Value)), decode bEv_add pc = .ok (.ireturn, 1) → XW p l e rm_Events_add s m args below meth c D vwCl (va_A (wX ad cI cL cO sc sd src itm knd plc clk ec nf ns nc wt bd off row hw rl tm ord tc) sz) 7 (vx_MQ below (va_Qi Qr (fun u t => XB D vwCl (tysX cI cL cO) (va_A (wX ad cI cL cO sc sd src itm knd plc clk ec nf ns nc wt bd off row hw rl tm ord tc) sz) (wX ad cI cL cO sc sd u.1 u.2.1 u.2.2.1 u.2.2.2.1 u.2.2.2.2.1 u.2.2.2.2.2 nf ns nc wt bd off row hw rl tm ord tc) t) (va_A (wX ad cI cL cO sc sd src itm knd plc clk ec nf ns nc wt bd off row hw rl tm ord tc) sz)) (XT D vwCl (tysX cI cL cO) (va_A (wX ad cI cL cO sc sd src itm knd plc clk ec nf ns nc wt bd off row hw rl tm ord tc) sz) (wX ad cI cL cO sc sd src itm knd plc clk ec nf ns nc wt bd off row hw rl tm ord tc) (fun _ => False)) args s rm_Events_add.cells rm_Events_add.slots (va_A (wX ad cI cL cO sc sd src itm knd plc clk ec nf ns nc wt bd off row hw rl tm ord tc) sz)) ce sl (wX ad cI cL cO sc sd u.1 u.2.1 u.2.2.1 u.2.2.2.1 u.2.2.2.2.1 u.2.2.2.2.2 nf ns nc wt bd off row hw rl tm ord tc) pc lv [.int r] := fun ce sl h1 h2 r u hq pc lv hd => x_iret (wf := fun u => (wX ad cI cL cO sc sd u.1 u.2.1 u.2.2.1 u.2.2.2.1 u.2.2.2.2.1 u.2.2.2.2.2 nf ns nc wt bd off row hw rl tm ord tc)) hC h1 h2 hr hlk hd hq rfl
  show XW p l e rm_Events_add s m args below meth c D vwCl (va_A (wX ad cI cL cO sc sd src itm knd plc clk ec nf ns nc wt bd off row hw rl tm ord tc) sz) 7 _ 0 0 (wX ad cI cL cO sc sd src itm knd plc clk ec nf ns nc wt bd off row hw rl tm ord tc) 0 [(0, .ref (ad 1)), (1, .int a1), (2, .int a2), (3, .int a3), (4, .int a4), (5, .long a5)] []
  unfold Events_add_wp at h
  refine x_aload_n hC dEv_add_0 rfl 0 rfl ?_
  refine x_dup hC dEv_add_1 rfl ?_
  refine x_get hC iEv 1 wX_1 rfl 5 (by decide) k_x0 rfl rfl dEv_add_2 ?_
  refine x_iconst (v := 1) hC dEv_add_5 (by decide) ?_
  refine x_iadd hC dEv_add_6 ?_
  refine x_put (ty := .int) (ws' := (wX ad cI cL cO sc sd src itm knd plc clk (ec + 1) nf ns nc wt bd off row hw rl tm ord tc)) hC iEv 1 wX_1 rfl 5 (by decide) k_x0 rfl tEv tEv_ok nEv rfl (by decide +kernel) rfl rfl (Nat.le_of_ble_eq_true rfl) rfl dEv_add_7 ?_
  refine x_aload_n hC dEv_add_10 rfl 0 rfl ?_
  refine x_get hC iEv 1 wX_1 rfl 0 (by decide) k_x1 rfl rfl dEv_add_11 ?_
  refine x_aload_n hC dEv_add_14 rfl 0 rfl ?_
  refine x_get hC iEv 1 wX_1 rfl 5 (by decide) k_x0 rfl rfl dEv_add_15 ?_
  refine x_iload_n hC dEv_add_18 rfl 1 rfl ?_
  obtain ⟨hb_1, h⟩ := h
  refine x_iast (ws' := (wX ad cI cL cO sc sd (upd src (ec + 1).toNatClampNeg a1) itm knd plc clk (ec + 1) nf ns nc wt bd off row hw rl tm ord tc)) hC 2 0 wX_2 rfl hb_1 wX_2_set dEv_add_19 ?_
  refine x_aload_n hC dEv_add_20 rfl 0 rfl ?_
  refine x_get hC iEv 1 wX_1 rfl 1 (by decide) k_x2 rfl rfl dEv_add_21 ?_
  refine x_aload_n hC dEv_add_24 rfl 0 rfl ?_
  refine x_get hC iEv 1 wX_1 rfl 5 (by decide) k_x0 rfl rfl dEv_add_25 ?_
  refine x_iload_n hC dEv_add_28 rfl 2 rfl ?_
  obtain ⟨hb_2, h⟩ := h
  refine x_iast (ws' := (wX ad cI cL cO sc sd (upd src (ec + 1).toNatClampNeg a1) (upd itm (ec + 1).toNatClampNeg a2) knd plc clk (ec + 1) nf ns nc wt bd off row hw rl tm ord tc)) hC 3 0 wX_3 rfl hb_2 wX_3_set dEv_add_29 ?_
  refine x_aload_n hC dEv_add_30 rfl 0 rfl ?_
  refine x_get hC iEv 1 wX_1 rfl 2 (by decide) k_x3 rfl rfl dEv_add_31 ?_
  refine x_aload_n hC dEv_add_34 rfl 0 rfl ?_
  refine x_get hC iEv 1 wX_1 rfl 5 (by decide) k_x0 rfl rfl dEv_add_35 ?_
  refine x_iload_n hC dEv_add_38 rfl 3 rfl ?_
  obtain ⟨hb_3, h⟩ := h
  refine x_iast (ws' := (wX ad cI cL cO sc sd (upd src (ec + 1).toNatClampNeg a1) (upd itm (ec + 1).toNatClampNeg a2) (upd knd (ec + 1).toNatClampNeg a3) plc clk (ec + 1) nf ns nc wt bd off row hw rl tm ord tc)) hC 4 0 wX_4 rfl hb_3 wX_4_set dEv_add_39 ?_
  refine x_aload_n hC dEv_add_40 rfl 0 rfl ?_
  refine x_get hC iEv 1 wX_1 rfl 3 (by decide) k_x4 rfl rfl dEv_add_41 ?_
  refine x_aload_n hC dEv_add_44 rfl 0 rfl ?_
  refine x_get hC iEv 1 wX_1 rfl 5 (by decide) k_x0 rfl rfl dEv_add_45 ?_
  refine x_iload hC dEv_add_48 4 rfl ?_
  obtain ⟨hb_4, h⟩ := h
  refine x_iast (ws' := (wX ad cI cL cO sc sd (upd src (ec + 1).toNatClampNeg a1) (upd itm (ec + 1).toNatClampNeg a2) (upd knd (ec + 1).toNatClampNeg a3) (upd plc (ec + 1).toNatClampNeg a4) clk (ec + 1) nf ns nc wt bd off row hw rl tm ord tc)) hC 5 0 wX_5 rfl hb_4 wX_5_set dEv_add_50 ?_
  refine x_aload_n hC dEv_add_51 rfl 0 rfl ?_
  refine x_get hC iEv 1 wX_1 rfl 4 (by decide) k_x5 rfl rfl dEv_add_52 ?_
  refine x_aload_n hC dEv_add_55 rfl 0 rfl ?_
  refine x_get hC iEv 1 wX_1 rfl 5 (by decide) k_x0 rfl rfl dEv_add_56 ?_
  refine x_lload hC dEv_add_59 5 rfl ?_
  obtain ⟨hb_5, h⟩ := h
  refine x_last (ws' := (wX ad cI cL cO sc sd (upd src (ec + 1).toNatClampNeg a1) (upd itm (ec + 1).toNatClampNeg a2) (upd knd (ec + 1).toNatClampNeg a3) (upd plc (ec + 1).toNatClampNeg a4) (vp_updL clk (ec + 1).toNatClampNeg a5) (ec + 1) nf ns nc wt bd off row hw rl tm ord tc)) hC 6 1 wX_6 rfl hb_5 wX_6_set dEv_add_61 ?_
  refine x_aload_n hC dEv_add_62 rfl 0 rfl ?_
  refine x_get hC iEv 1 wX_1 rfl 5 (by decide) k_x0 rfl rfl dEv_add_63 ?_
  exact hret _ _ (by decide) (by decide) (ec + 1) (upd src (ec + 1).toNatClampNeg a1, upd itm (ec + 1).toNatClampNeg a2, upd knd (ec + 1).toNatClampNeg a3, upd plc (ec + 1).toNatClampNeg a4, vp_updL clk (ec + 1).toNatClampNeg a5, ec + 1) h _ _ dEv_add_66

/-! EventOrder$Events.has(IIIIJ)Z -/
abbrev rm_Events_has : Room := { frames := 0, cells := 0, slots := 0, locals := 0 }
def Events_has_L3 (v1 : Int32) (v2 : Int32) (v3 : Int32) (v4 : Int32) (v5 : Int64) (src : (Nat → Int32)) (itm : (Nat → Int32)) (knd : (Nat → Int32)) (plc : (Nat → Int32)) (clk : (Nat → Int64)) (ec : Int32) (Qr : Int32 → Unit → Prop) (Qx : Prop) : Nat → Int32 → Prop
  | 0, _ => False
  | n + 1, v7 => ((ec < v7 → Qx) ∧ (¬ ec < v7 → vp_in v7 301 ∧ ((¬ (clk v7.toNatClampNeg) = v5 → Events_has_L3 v1 v2 v3 v4 v5 src itm knd plc clk ec Qr Qx n (v7 + 1)) ∧ ((clk v7.toNatClampNeg) = v5 → vp_in v7 301 ∧ ((¬ (src v7.toNatClampNeg) = v1 → Events_has_L3 v1 v2 v3 v4 v5 src itm knd plc clk ec Qr Qx n (v7 + 1)) ∧ ((src v7.toNatClampNeg) = v1 → vp_in v7 301 ∧ ((¬ (itm v7.toNatClampNeg) = v2 → Events_has_L3 v1 v2 v3 v4 v5 src itm knd plc clk ec Qr Qx n (v7 + 1)) ∧ ((itm v7.toNatClampNeg) = v2 → vp_in v7 301 ∧ ((¬ (knd v7.toNatClampNeg) = v3 → Events_has_L3 v1 v2 v3 v4 v5 src itm knd plc clk ec Qr Qx n (v7 + 1)) ∧ ((knd v7.toNatClampNeg) = v3 → vp_in v7 301 ∧ ((¬ (plc v7.toNatClampNeg) = v4 → Events_has_L3 v1 v2 v3 v4 v5 src itm knd plc clk ec Qr Qx n (v7 + 1)) ∧ ((plc v7.toNatClampNeg) = v4 → Qr 1 ()))))))))))))

def Events_has_wp (src : (Nat → Int32)) (itm : (Nat → Int32)) (knd : (Nat → Int32)) (plc : (Nat → Int32)) (clk : (Nat → Int64)) (ec : Int32) (a1 : Int32) (a2 : Int32) (a3 : Int32) (a4 : Int32) (a5 : Int64) (Qr : Int32 → Unit → Prop) : Prop := (∃ n_12 : Nat, Events_has_L3 a1 a2 a3 a4 a5 src itm knd plc clk ec Qr (Qr 0 ()) n_12 1)
set_option maxHeartbeats 4000000 in
set_option maxRecDepth 100000 in
theorem Events_has_L3_ok {p : Program} {l : Launch} {e : Env} {s : State} {m : MethodId} {args : Array Value} {below : List Frame} {meth : Method} {c : Code} {Q : State → Prop} {D : va_G} {A : Nat → Prop} {ad : Nat → Nat} {cI cL cO : ClassId} {sc : Int32} {sd : Int32} {src : (Nat → Int32)} {itm : (Nat → Int32)} {knd : (Nat → Int32)} {plc : (Nat → Int32)} {clk : (Nat → Int64)} {ec : Int32} {nf : (Nat → Int32)} {ns : (Nat → Int32)} {nc : Int32} {wt : (Nat → Nat → Int64)} {bd : (Nat → Nat → Int64)} {off : (Nat → Int64)} {row : (Nat → Int32)} {hw : (Nat → Nat → Int64)} {rl : Int32} {tm : (Nat → Int64)} {ord : (Nat → Int32)} {tc : Int32} {v1 : Int32} {v2 : Int32} {v3 : Int32} {v4 : Int32} {v5 : Int64} {Qr : Int32 → Unit → Prop} {Qx : Prop} (hC : XC p s m args c D vwCl (tysX cI cL cO) A 8 bEv_has TBL REv) (hret : ∀ (r : Int32) (u : Unit), x_bool r → Qr r u → ∀ (pc : Nat) (lv : List (Nat × Value)), decode bEv_has pc = .ok (.ireturn, 1) → XW p l e rm_Events_has s m args below meth c D vwCl A 8 Q 0 0 (wX ad cI cL cO sc sd src itm knd plc clk ec nf ns nc wt bd off row hw rl tm ord tc) pc lv [.int r]) (hexit : Qx → XW p l e rm_Events_has s m args below meth c D vwCl A 8 Q 0 0 (wX ad cI cL cO sc sd src itm knd plc clk ec nf ns nc wt bd off row hw rl tm ord tc) 78 [] []) : ∀ (n : Nat) (v7 : Int32), Events_has_L3 v1 v2 v3 v4 v5 src itm knd plc clk ec Qr Qx n v7 → XW p l e rm_Events_has s m args below meth c D vwCl A 8 Q 0 0 (wX ad cI cL cO sc sd src itm knd plc clk ec nf ns nc wt bd off row hw rl tm ord tc) 3 [(0, .ref (ad 1)), (1, .int v1), (2, .int v2), (3, .int v3), (4, .int v4), (5, .long v5), (7, .int v7)] [] := by
  intro n
  induction n with
  | zero => intro v7 h; exact False.elim h
  | succ n ih =>
    intro v7 h
    unfold Events_has_L3 at h
    refine x_iload hC dEv_has_3 6 rfl ?_
    refine x_aload_n hC dEv_has_5 rfl 0 rfl ?_
    refine x_get hC iEv 1 wX_1 rfl 5 (by decide) k_x0 rfl rfl dEv_has_6 ?_
    refine x_icmp_gt (tgt := 78) hC dEv_has_9 (by decide) (fun c_1 => ?_) (fun c_1 => ?_)
    · have h := h.1 c_1
      refine x_lv [] rfl ?_
      exact hexit  h
    · have h := h.2 c_1
      refine x_aload_n hC dEv_has_12 rfl 0 rfl ?_
      refine x_get hC iEv 1 wX_1 rfl 4 (by decide) k_x5 rfl rfl dEv_has_13 ?_
      refine x_iload hC dEv_has_16 6 rfl ?_
      obtain ⟨hb_2, h⟩ := h
      refine x_lald hC 6 1 wX_6 rfl hb_2 dEv_has_18 ?_
      refine x_lload hC dEv_has_19 5 rfl ?_
      refine x_lcmp_ne (tgt := 72) hC dEv_has_21 dEv_has_22 (by decide) (fun c_3 => ?_) (fun c_3 => ?_)
      · have h := h.1 c_3
        refine x_iinc (v := v7 + 1) (lv' := [(7, .int (v7 + 1)), (0, .ref (ad 1)), (1, .int v1), (2, .int v2), (3, .int v3), (4, .int v4), (5, .long v5)]) hC dEv_has_72 6 rfl rfl (by decide) rfl ?_
        refine x_goto (tgt := 3) hC dEv_has_75 (by decide) ?_
        refine x_lv [1, 2, 3, 4, 5, 6, 0] rfl ?_
        exact ih (v7 + 1) h
      · have h := h.2 c_3
        refine x_aload_n hC dEv_has_25 rfl 0 rfl ?_
        refine x_get hC iEv 1 wX_1 rfl 0 (by decide) k_x1 rfl rfl dEv_has_26 ?_
        refine x_iload hC dEv_has_29 6 rfl ?_
        obtain ⟨hb_4, h⟩ := h
        refine x_iald hC 2 0 wX_2 rfl hb_4 dEv_has_31 ?_
        refine x_iload_n hC dEv_has_32 rfl 1 rfl ?_
        refine x_icmp_ne (tgt := 72) hC dEv_has_33 (by decide) (fun c_5 => ?_) (fun c_5 => ?_)
        · have h := h.1 c_5
          refine x_iinc (v := v7 + 1) (lv' := [(7, .int (v7 + 1)), (0, .ref (ad 1)), (1, .int v1), (2, .int v2), (3, .int v3), (4, .int v4), (5, .long v5)]) hC dEv_has_72 6 rfl rfl (by decide) rfl ?_
          refine x_goto (tgt := 3) hC dEv_has_75 (by decide) ?_
          refine x_lv [1, 2, 3, 4, 5, 6, 0] rfl ?_
          exact ih (v7 + 1) h
        · have h := h.2 c_5
          refine x_aload_n hC dEv_has_36 rfl 0 rfl ?_
          refine x_get hC iEv 1 wX_1 rfl 1 (by decide) k_x2 rfl rfl dEv_has_37 ?_
          refine x_iload hC dEv_has_40 6 rfl ?_
          obtain ⟨hb_6, h⟩ := h
          refine x_iald hC 3 0 wX_3 rfl hb_6 dEv_has_42 ?_
          refine x_iload_n hC dEv_has_43 rfl 2 rfl ?_
          refine x_icmp_ne (tgt := 72) hC dEv_has_44 (by decide) (fun c_7 => ?_) (fun c_7 => ?_)
          · have h := h.1 c_7
            refine x_iinc (v := v7 + 1) (lv' := [(7, .int (v7 + 1)), (0, .ref (ad 1)), (1, .int v1), (2, .int v2), (3, .int v3), (4, .int v4), (5, .long v5)]) hC dEv_has_72 6 rfl rfl (by decide) rfl ?_
            refine x_goto (tgt := 3) hC dEv_has_75 (by decide) ?_
            refine x_lv [1, 2, 3, 4, 5, 6, 0] rfl ?_
            exact ih (v7 + 1) h
          · have h := h.2 c_7
            refine x_aload_n hC dEv_has_47 rfl 0 rfl ?_
            refine x_get hC iEv 1 wX_1 rfl 2 (by decide) k_x3 rfl rfl dEv_has_48 ?_
            refine x_iload hC dEv_has_51 6 rfl ?_
            obtain ⟨hb_8, h⟩ := h
            refine x_iald hC 4 0 wX_4 rfl hb_8 dEv_has_53 ?_
            refine x_iload_n hC dEv_has_54 rfl 3 rfl ?_
            refine x_icmp_ne (tgt := 72) hC dEv_has_55 (by decide) (fun c_9 => ?_) (fun c_9 => ?_)
            · have h := h.1 c_9
              refine x_iinc (v := v7 + 1) (lv' := [(7, .int (v7 + 1)), (0, .ref (ad 1)), (1, .int v1), (2, .int v2), (3, .int v3), (4, .int v4), (5, .long v5)]) hC dEv_has_72 6 rfl rfl (by decide) rfl ?_
              refine x_goto (tgt := 3) hC dEv_has_75 (by decide) ?_
              refine x_lv [1, 2, 3, 4, 5, 6, 0] rfl ?_
              exact ih (v7 + 1) h
            · have h := h.2 c_9
              refine x_aload_n hC dEv_has_58 rfl 0 rfl ?_
              refine x_get hC iEv 1 wX_1 rfl 3 (by decide) k_x4 rfl rfl dEv_has_59 ?_
              refine x_iload hC dEv_has_62 6 rfl ?_
              obtain ⟨hb_10, h⟩ := h
              refine x_iald hC 5 0 wX_5 rfl hb_10 dEv_has_64 ?_
              refine x_iload hC dEv_has_65 4 rfl ?_
              refine x_icmp_ne (tgt := 72) hC dEv_has_67 (by decide) (fun c_11 => ?_) (fun c_11 => ?_)
              · have h := h.1 c_11
                refine x_iinc (v := v7 + 1) (lv' := [(7, .int (v7 + 1)), (0, .ref (ad 1)), (1, .int v1), (2, .int v2), (3, .int v3), (4, .int v4), (5, .long v5)]) hC dEv_has_72 6 rfl rfl (by decide) rfl ?_
                refine x_goto (tgt := 3) hC dEv_has_75 (by decide) ?_
                refine x_lv [1, 2, 3, 4, 5, 6, 0] rfl ?_
                exact ih (v7 + 1) h
              · have h := h.2 c_11
                refine x_iconst (v := 1) hC dEv_has_70 (by decide) ?_
                exact hret 1 () (Or.inr rfl) h _ _ dEv_has_71

set_option maxHeartbeats 4000000 in
set_option maxRecDepth 100000 in
theorem c_Events_has {l : Launch} {D : va_G} {ad : Nat → Nat} {cI cL cO : ClassId} {sc : Int32} {sd : Int32} {src : (Nat → Int32)} {itm : (Nat → Int32)} {knd : (Nat → Int32)} {plc : (Nat → Int32)} {clk : (Nat → Int64)} {ec : Int32} {nf : (Nat → Int32)} {ns : (Nat → Int32)} {nc : Int32} {wt : (Nat → Nat → Int64)} {bd : (Nat → Nat → Int64)} {off : (Nat → Int64)} {row : (Nat → Int32)} {hw : (Nat → Nat → Int64)} {rl : Int32} {tm : (Nat → Int64)} {ord : (Nat → Int32)} {tc : Int32} {a1 : Int32} {a2 : Int32} {a3 : Int32} {a4 : Int32} {a5 : Int64} {Qr : Int32 → Unit → Prop} (h : Events_has_wp src itm knd plc clk ec a1 a2 a3 a4 a5 Qr) (sz : Nat) : vx_Met l yEv_has (Cond.code yEv_has bEv_has 8 (some .boolean) :: TBL) rm_Events_has (va_Pc [.ref (ad 1), .int a1, .int a2, .int a3, .int a4, .long a5] (XP D vwCl (tysX cI cL cO) (wX ad cI cL cO sc sd src itm knd plc clk ec nf ns nc wt bd off row hw rl tm ord tc) sz)) (va_Qi Qr (fun u t => XB D vwCl (tysX cI cL cO) (va_A (wX ad cI cL cO sc sd src itm knd plc clk ec nf ns nc wt bd off row hw rl tm ord tc) sz) (wX ad cI cL cO sc sd src itm knd plc clk ec nf ns nc wt bd off row hw rl tm ord tc) t) (va_A (wX ad cI cL cO sc sd src itm knd plc clk ec nf ns nc wt bd off row hw rl tm ord tc) sz)) (XT D vwCl (tysX cI cL cO) (va_A (wX ad cI cL cO sc sd src itm knd plc clk ec nf ns nc wt bd off row hw rl tm ord tc) sz) (wX ad cI cL cO sc sd src itm knd plc clk ec nf ns nc wt bd off row hw rl tm ord tc) (fun _ => False)) rm_Events_has.cells rm_Events_has.slots (va_A (wX ad cI cL cO sc sd src itm knd plc clk ec nf ns nc wt bd off row hw rl tm ord tc) sz) := by
  refine x_met [.ref (ad 1), .int a1, .int a2, .int a3, .int a4, .long a5] TBL_good (by decide) (Nat.le_of_ble_eq_true rfl) ?_
  intro p e s m args below meth c hC hr hlk hnm hnh
  have hret : ∀ (ce sl : Nat), ce ≤ rm_Events_has.cells → sl ≤ rm_Events_has.slots → ∀ (r : Int32) (u : Unit), x_bool r → Qr r u → ∀ (pc : Nat) (lv : List (Nat × Value)), decode bEv_has pc = .ok (.ireturn, 1) → XW p l e rm_Events_has s m args below meth c D vwCl (va_A (wX ad cI cL cO sc sd src itm knd plc clk ec nf ns nc wt bd off row hw rl tm ord tc) sz) 8 (vx_MQ below (va_Qi Qr (fun u t => XB D vwCl (tysX cI cL cO) (va_A (wX ad cI cL cO sc sd src itm knd plc clk ec nf ns nc wt bd off row hw rl tm ord tc) sz) (wX ad cI cL cO sc sd src itm knd plc clk ec nf ns nc wt bd off row hw rl tm ord tc) t) (va_A (wX ad cI cL cO sc sd src itm knd plc clk ec nf ns nc wt bd off row hw rl tm ord tc) sz)) (XT D vwCl (tysX cI cL cO) (va_A (wX ad cI cL cO sc sd src itm knd plc clk ec nf ns nc wt bd off row hw rl tm ord tc) sz) (wX ad cI cL cO sc sd src itm knd plc clk ec nf ns nc wt bd off row hw rl tm ord tc) (fun _ => False)) args s rm_Events_has.cells rm_Events_has.slots (va_A (wX ad cI cL cO sc sd src itm knd plc clk ec nf ns nc wt bd off row hw rl tm ord tc) sz)) ce sl (wX ad cI cL cO sc sd src itm knd plc clk ec nf ns nc wt bd off row hw rl tm ord tc) pc lv [.int r] := fun ce sl h1 h2 r u hb9 hq pc lv hd => x_zret (wf := fun u => (wX ad cI cL cO sc sd src itm knd plc clk ec nf ns nc wt bd off row hw rl tm ord tc)) hC h1 h2 hr hlk hb9 hd hq rfl
  show XW p l e rm_Events_has s m args below meth c D vwCl (va_A (wX ad cI cL cO sc sd src itm knd plc clk ec nf ns nc wt bd off row hw rl tm ord tc) sz) 8 _ 0 0 (wX ad cI cL cO sc sd src itm knd plc clk ec nf ns nc wt bd off row hw rl tm ord tc) 0 [(0, .ref (ad 1)), (1, .int a1), (2, .int a2), (3, .int a3), (4, .int a4), (5, .long a5)] []
  unfold Events_has_wp at h
  refine x_iconst (v := 1) hC dEv_has_0 (by decide) ?_
  refine x_istore (lv' := [(7, .int 1), (0, .ref (ad 1)), (1, .int a1), (2, .int a2), (3, .int a3), (4, .int a4), (5, .long a5)]) hC dEv_has_1 (by decide) rfl ?_
  obtain ⟨n_12, h⟩ := h
  refine x_lv [1, 2, 3, 4, 5, 6, 0] rfl ?_
  refine Events_has_L3_ok hC (hret _ _ (by decide) (by decide)) (fun h => ?_) n_12 1 h
  refine x_iconst (v := 0) hC dEv_has_78 (by decide) ?_
  exact hret _ _ (by decide) (by decide) 0 () (Or.inl rfl) h _ _ dEv_has_79

/-! EventOrder$Events.countIn([II)I -/
abbrev rm_Events_countIn_3 : Room := { frames := 0, cells := 0, slots := 0, locals := 0 }
def Events_countIn_3_L5 (v2 : Int32) (itm : (Nat → Int32)) (ec : Int32) (Qx : Int32 → Prop) : Nat → Int32 → Int32 → Prop
  | 0, _, _ => False
  | n + 1, v3, v4 => ((ec < v4 → Qx v3) ∧ (¬ ec < v4 → vp_in v4 301 ∧ ((¬ (itm v4.toNatClampNeg) = v2 → Events_countIn_3_L5 v2 itm ec Qx n v3 (v4 + 1)) ∧ ((itm v4.toNatClampNeg) = v2 → Events_countIn_3_L5 v2 itm ec Qx n (v3 + 1) (v4 + 1)))))

def Events_countIn_3_wp (itm : (Nat → Int32)) (ec : Int32) (a2 : Int32) (Qr : Int32 → Unit → Prop) : Prop := (∃ n_5 : Nat, Events_countIn_3_L5 a2 itm ec (fun (v3_4 : Int32) => Qr v3_4 ()) n_5 0 1)
set_option maxHeartbeats 4000000 in
set_option maxRecDepth 100000 in
theorem Events_countIn_3_L5_ok {p : Program} {l : Launch} {e : Env} {s : State} {m : MethodId} {args : Array Value} {below : List Frame} {meth : Method} {c : Code} {Q : State → Prop} {D : va_G} {A : Nat → Prop} {ad : Nat → Nat} {cI cL cO : ClassId} {sc : Int32} {sd : Int32} {src : (Nat → Int32)} {itm : (Nat → Int32)} {knd : (Nat → Int32)} {plc : (Nat → Int32)} {clk : (Nat → Int64)} {ec : Int32} {nf : (Nat → Int32)} {ns : (Nat → Int32)} {nc : Int32} {wt : (Nat → Nat → Int64)} {bd : (Nat → Nat → Int64)} {off : (Nat → Int64)} {row : (Nat → Int32)} {hw : (Nat → Nat → Int64)} {rl : Int32} {tm : (Nat → Int64)} {ord : (Nat → Int32)} {tc : Int32} {v2 : Int32} {Qx : Int32 → Prop} (hC : XC p s m args c D vwCl (tysX cI cL cO) A 5 bEv_countIn TBL REv)  (hexit : ∀ (v3 : Int32), Qx v3 → XW p l e rm_Events_countIn_3 s m args below meth c D vwCl A 5 Q 0 0 (wX ad cI cL cO sc sd src itm knd plc clk ec nf ns nc wt bd off row hw rl tm ord tc) 31 [(3, .int v3)] []) : ∀ (n : Nat) (v3 : Int32) (v4 : Int32), Events_countIn_3_L5 v2 itm ec Qx n v3 v4 → XW p l e rm_Events_countIn_3 s m args below meth c D vwCl A 5 Q 0 0 (wX ad cI cL cO sc sd src itm knd plc clk ec nf ns nc wt bd off row hw rl tm ord tc) 5 [(0, .ref (ad 1)), (1, .ref (ad 3)), (2, .int v2), (3, .int v3), (4, .int v4)] [] := by
  intro n
  induction n with
  | zero => intro v3 v4 h; exact False.elim h
  | succ n ih =>
    intro v3 v4 h
    unfold Events_countIn_3_L5 at h
    refine x_iload hC dEv_countIn_5 4 rfl ?_
    refine x_aload_n hC dEv_countIn_7 rfl 0 rfl ?_
    refine x_get hC iEv 1 wX_1 rfl 5 (by decide) k_x0 rfl rfl dEv_countIn_8 ?_
    refine x_icmp_gt (tgt := 31) hC dEv_countIn_11 (by decide) (fun c_1 => ?_) (fun c_1 => ?_)
    · have h := h.1 c_1
      refine x_lv [3] rfl ?_
      exact hexit v3 h
    · have h := h.2 c_1
      refine x_aload_n hC dEv_countIn_14 rfl 1 rfl ?_
      refine x_iload hC dEv_countIn_15 4 rfl ?_
      obtain ⟨hb_2, h⟩ := h
      refine x_iald hC 3 0 wX_3 rfl hb_2 dEv_countIn_17 ?_
      refine x_iload_n hC dEv_countIn_18 rfl 2 rfl ?_
      refine x_icmp_ne (tgt := 25) hC dEv_countIn_19 (by decide) (fun c_3 => ?_) (fun c_3 => ?_)
      · have h := h.1 c_3
        refine x_iinc (v := v4 + 1) (lv' := [(4, .int (v4 + 1)), (0, .ref (ad 1)), (1, .ref (ad 3)), (2, .int v2), (3, .int v3)]) hC dEv_countIn_25 4 rfl rfl (by decide) rfl ?_
        refine x_goto (tgt := 5) hC dEv_countIn_28 (by decide) ?_
        refine x_lv [1, 2, 3, 4, 0] rfl ?_
        exact ih v3 (v4 + 1) h
      · have h := h.2 c_3
        refine x_iinc (v := v3 + 1) (lv' := [(3, .int (v3 + 1)), (0, .ref (ad 1)), (1, .ref (ad 3)), (2, .int v2), (4, .int v4)]) hC dEv_countIn_22 3 rfl rfl (by decide) rfl ?_
        refine x_iinc (v := v4 + 1) (lv' := [(4, .int (v4 + 1)), (3, .int (v3 + 1)), (0, .ref (ad 1)), (1, .ref (ad 3)), (2, .int v2)]) hC dEv_countIn_25 4 rfl rfl (by decide) rfl ?_
        refine x_goto (tgt := 5) hC dEv_countIn_28 (by decide) ?_
        refine x_lv [2, 3, 4, 1, 0] rfl ?_
        exact ih (v3 + 1) (v4 + 1) h

set_option maxHeartbeats 4000000 in
set_option maxRecDepth 100000 in
theorem c_Events_countIn_3 {l : Launch} {D : va_G} {ad : Nat → Nat} {cI cL cO : ClassId} {sc : Int32} {sd : Int32} {src : (Nat → Int32)} {itm : (Nat → Int32)} {knd : (Nat → Int32)} {plc : (Nat → Int32)} {clk : (Nat → Int64)} {ec : Int32} {nf : (Nat → Int32)} {ns : (Nat → Int32)} {nc : Int32} {wt : (Nat → Nat → Int64)} {bd : (Nat → Nat → Int64)} {off : (Nat → Int64)} {row : (Nat → Int32)} {hw : (Nat → Nat → Int64)} {rl : Int32} {tm : (Nat → Int64)} {ord : (Nat → Int32)} {tc : Int32} {a2 : Int32} {Qr : Int32 → Unit → Prop} (h : Events_countIn_3_wp itm ec a2 Qr) (sz : Nat) : vx_Met l yEv_countIn (Cond.code yEv_countIn bEv_countIn 5 (some .int) :: TBL) rm_Events_countIn_3 (va_Pc [.ref (ad 1), .ref (ad 3), .int a2] (XP D vwCl (tysX cI cL cO) (wX ad cI cL cO sc sd src itm knd plc clk ec nf ns nc wt bd off row hw rl tm ord tc) sz)) (va_Qi Qr (fun u t => XB D vwCl (tysX cI cL cO) (va_A (wX ad cI cL cO sc sd src itm knd plc clk ec nf ns nc wt bd off row hw rl tm ord tc) sz) (wX ad cI cL cO sc sd src itm knd plc clk ec nf ns nc wt bd off row hw rl tm ord tc) t) (va_A (wX ad cI cL cO sc sd src itm knd plc clk ec nf ns nc wt bd off row hw rl tm ord tc) sz)) (XT D vwCl (tysX cI cL cO) (va_A (wX ad cI cL cO sc sd src itm knd plc clk ec nf ns nc wt bd off row hw rl tm ord tc) sz) (wX ad cI cL cO sc sd src itm knd plc clk ec nf ns nc wt bd off row hw rl tm ord tc) (fun _ => False)) rm_Events_countIn_3.cells rm_Events_countIn_3.slots (va_A (wX ad cI cL cO sc sd src itm knd plc clk ec nf ns nc wt bd off row hw rl tm ord tc) sz) := by
  refine x_met [.ref (ad 1), .ref (ad 3), .int a2] TBL_good (by decide) (Nat.le_of_ble_eq_true rfl) ?_
  intro p e s m args below meth c hC hr hlk hnm hnh
  have hret : ∀ (ce sl : Nat), ce ≤ rm_Events_countIn_3.cells → sl ≤ rm_Events_countIn_3.slots → ∀ (r : Int32) (u : Unit), Qr r u → ∀ (pc : Nat) (lv : List (Nat × Value)), decode bEv_countIn pc = .ok (.ireturn, 1) → XW p l e rm_Events_countIn_3 s m args below meth c D vwCl (va_A (wX ad cI cL cO sc sd src itm knd plc clk ec nf ns nc wt bd off row hw rl tm ord tc) sz) 5 (vx_MQ below (va_Qi Qr (fun u t => XB D vwCl (tysX cI cL cO) (va_A (wX ad cI cL cO sc sd src itm knd plc clk ec nf ns nc wt bd off row hw rl tm ord tc) sz) (wX ad cI cL cO sc sd src itm knd plc clk ec nf ns nc wt bd off row hw rl tm ord tc) t) (va_A (wX ad cI cL cO sc sd src itm knd plc clk ec nf ns nc wt bd off row hw rl tm ord tc) sz)) (XT D vwCl (tysX cI cL cO) (va_A (wX ad cI cL cO sc sd src itm knd plc clk ec nf ns nc wt bd off row hw rl tm ord tc) sz) (wX ad cI cL cO sc sd src itm knd plc clk ec nf ns nc wt bd off row hw rl tm ord tc) (fun _ => False)) args s rm_Events_countIn_3.cells rm_Events_countIn_3.slots (va_A (wX ad cI cL cO sc sd src itm knd plc clk ec nf ns nc wt bd off row hw rl tm ord tc) sz)) ce sl (wX ad cI cL cO sc sd src itm knd plc clk ec nf ns nc wt bd off row hw rl tm ord tc) pc lv [.int r] := fun ce sl h1 h2 r u hq pc lv hd => x_iret (wf := fun u => (wX ad cI cL cO sc sd src itm knd plc clk ec nf ns nc wt bd off row hw rl tm ord tc)) hC h1 h2 hr hlk hd hq rfl
  show XW p l e rm_Events_countIn_3 s m args below meth c D vwCl (va_A (wX ad cI cL cO sc sd src itm knd plc clk ec nf ns nc wt bd off row hw rl tm ord tc) sz) 5 _ 0 0 (wX ad cI cL cO sc sd src itm knd plc clk ec nf ns nc wt bd off row hw rl tm ord tc) 0 [(0, .ref (ad 1)), (1, .ref (ad 3)), (2, .int a2)] []
  unfold Events_countIn_3_wp at h
  refine x_iconst (v := 0) hC dEv_countIn_0 (by decide) ?_
  refine x_istore_n (lv' := [(3, .int 0), (0, .ref (ad 1)), (1, .ref (ad 3)), (2, .int a2)]) hC dEv_countIn_1 rfl (by decide) rfl ?_
  refine x_iconst (v := 1) hC dEv_countIn_2 (by decide) ?_
  refine x_istore (lv' := [(4, .int 1), (3, .int 0), (0, .ref (ad 1)), (1, .ref (ad 3)), (2, .int a2)]) hC dEv_countIn_3 (by decide) rfl ?_
  obtain ⟨n_5, h⟩ := h
  refine x_lv [2, 3, 4, 1, 0] rfl ?_
  refine Events_countIn_3_L5_ok hC (fun v3_4 h => ?_) n_5 0 1 h
  refine x_iload_n hC dEv_countIn_31 rfl 0 rfl ?_
  exact hret _ _ (by decide) (by decide) v3_4 () h _ _ dEv_countIn_32

/-! EventOrder$Events.countIn([II)I -/
abbrev rm_Events_countIn_5 : Room := { frames := 0, cells := 0, slots := 0, locals := 0 }
def Events_countIn_5_L5 (v2 : Int32) (plc : (Nat → Int32)) (ec : Int32) (Qx : Int32 → Prop) : Nat → Int32 → Int32 → Prop
  | 0, _, _ => False
  | n + 1, v3, v4 => ((ec < v4 → Qx v3) ∧ (¬ ec < v4 → vp_in v4 301 ∧ ((¬ (plc v4.toNatClampNeg) = v2 → Events_countIn_5_L5 v2 plc ec Qx n v3 (v4 + 1)) ∧ ((plc v4.toNatClampNeg) = v2 → Events_countIn_5_L5 v2 plc ec Qx n (v3 + 1) (v4 + 1)))))

def Events_countIn_5_wp (plc : (Nat → Int32)) (ec : Int32) (a2 : Int32) (Qr : Int32 → Unit → Prop) : Prop := (∃ n_5 : Nat, Events_countIn_5_L5 a2 plc ec (fun (v3_4 : Int32) => Qr v3_4 ()) n_5 0 1)
set_option maxHeartbeats 4000000 in
set_option maxRecDepth 100000 in
theorem Events_countIn_5_L5_ok {p : Program} {l : Launch} {e : Env} {s : State} {m : MethodId} {args : Array Value} {below : List Frame} {meth : Method} {c : Code} {Q : State → Prop} {D : va_G} {A : Nat → Prop} {ad : Nat → Nat} {cI cL cO : ClassId} {sc : Int32} {sd : Int32} {src : (Nat → Int32)} {itm : (Nat → Int32)} {knd : (Nat → Int32)} {plc : (Nat → Int32)} {clk : (Nat → Int64)} {ec : Int32} {nf : (Nat → Int32)} {ns : (Nat → Int32)} {nc : Int32} {wt : (Nat → Nat → Int64)} {bd : (Nat → Nat → Int64)} {off : (Nat → Int64)} {row : (Nat → Int32)} {hw : (Nat → Nat → Int64)} {rl : Int32} {tm : (Nat → Int64)} {ord : (Nat → Int32)} {tc : Int32} {v2 : Int32} {Qx : Int32 → Prop} (hC : XC p s m args c D vwCl (tysX cI cL cO) A 5 bEv_countIn TBL REv)  (hexit : ∀ (v3 : Int32), Qx v3 → XW p l e rm_Events_countIn_5 s m args below meth c D vwCl A 5 Q 0 0 (wX ad cI cL cO sc sd src itm knd plc clk ec nf ns nc wt bd off row hw rl tm ord tc) 31 [(3, .int v3)] []) : ∀ (n : Nat) (v3 : Int32) (v4 : Int32), Events_countIn_5_L5 v2 plc ec Qx n v3 v4 → XW p l e rm_Events_countIn_5 s m args below meth c D vwCl A 5 Q 0 0 (wX ad cI cL cO sc sd src itm knd plc clk ec nf ns nc wt bd off row hw rl tm ord tc) 5 [(0, .ref (ad 1)), (1, .ref (ad 5)), (2, .int v2), (3, .int v3), (4, .int v4)] [] := by
  intro n
  induction n with
  | zero => intro v3 v4 h; exact False.elim h
  | succ n ih =>
    intro v3 v4 h
    unfold Events_countIn_5_L5 at h
    refine x_iload hC dEv_countIn_5 4 rfl ?_
    refine x_aload_n hC dEv_countIn_7 rfl 0 rfl ?_
    refine x_get hC iEv 1 wX_1 rfl 5 (by decide) k_x0 rfl rfl dEv_countIn_8 ?_
    refine x_icmp_gt (tgt := 31) hC dEv_countIn_11 (by decide) (fun c_1 => ?_) (fun c_1 => ?_)
    · have h := h.1 c_1
      refine x_lv [3] rfl ?_
      exact hexit v3 h
    · have h := h.2 c_1
      refine x_aload_n hC dEv_countIn_14 rfl 1 rfl ?_
      refine x_iload hC dEv_countIn_15 4 rfl ?_
      obtain ⟨hb_2, h⟩ := h
      refine x_iald hC 5 0 wX_5 rfl hb_2 dEv_countIn_17 ?_
      refine x_iload_n hC dEv_countIn_18 rfl 2 rfl ?_
      refine x_icmp_ne (tgt := 25) hC dEv_countIn_19 (by decide) (fun c_3 => ?_) (fun c_3 => ?_)
      · have h := h.1 c_3
        refine x_iinc (v := v4 + 1) (lv' := [(4, .int (v4 + 1)), (0, .ref (ad 1)), (1, .ref (ad 5)), (2, .int v2), (3, .int v3)]) hC dEv_countIn_25 4 rfl rfl (by decide) rfl ?_
        refine x_goto (tgt := 5) hC dEv_countIn_28 (by decide) ?_
        refine x_lv [1, 2, 3, 4, 0] rfl ?_
        exact ih v3 (v4 + 1) h
      · have h := h.2 c_3
        refine x_iinc (v := v3 + 1) (lv' := [(3, .int (v3 + 1)), (0, .ref (ad 1)), (1, .ref (ad 5)), (2, .int v2), (4, .int v4)]) hC dEv_countIn_22 3 rfl rfl (by decide) rfl ?_
        refine x_iinc (v := v4 + 1) (lv' := [(4, .int (v4 + 1)), (3, .int (v3 + 1)), (0, .ref (ad 1)), (1, .ref (ad 5)), (2, .int v2)]) hC dEv_countIn_25 4 rfl rfl (by decide) rfl ?_
        refine x_goto (tgt := 5) hC dEv_countIn_28 (by decide) ?_
        refine x_lv [2, 3, 4, 1, 0] rfl ?_
        exact ih (v3 + 1) (v4 + 1) h

set_option maxHeartbeats 4000000 in
set_option maxRecDepth 100000 in
theorem c_Events_countIn_5 {l : Launch} {D : va_G} {ad : Nat → Nat} {cI cL cO : ClassId} {sc : Int32} {sd : Int32} {src : (Nat → Int32)} {itm : (Nat → Int32)} {knd : (Nat → Int32)} {plc : (Nat → Int32)} {clk : (Nat → Int64)} {ec : Int32} {nf : (Nat → Int32)} {ns : (Nat → Int32)} {nc : Int32} {wt : (Nat → Nat → Int64)} {bd : (Nat → Nat → Int64)} {off : (Nat → Int64)} {row : (Nat → Int32)} {hw : (Nat → Nat → Int64)} {rl : Int32} {tm : (Nat → Int64)} {ord : (Nat → Int32)} {tc : Int32} {a2 : Int32} {Qr : Int32 → Unit → Prop} (h : Events_countIn_5_wp plc ec a2 Qr) (sz : Nat) : vx_Met l yEv_countIn (Cond.code yEv_countIn bEv_countIn 5 (some .int) :: TBL) rm_Events_countIn_5 (va_Pc [.ref (ad 1), .ref (ad 5), .int a2] (XP D vwCl (tysX cI cL cO) (wX ad cI cL cO sc sd src itm knd plc clk ec nf ns nc wt bd off row hw rl tm ord tc) sz)) (va_Qi Qr (fun u t => XB D vwCl (tysX cI cL cO) (va_A (wX ad cI cL cO sc sd src itm knd plc clk ec nf ns nc wt bd off row hw rl tm ord tc) sz) (wX ad cI cL cO sc sd src itm knd plc clk ec nf ns nc wt bd off row hw rl tm ord tc) t) (va_A (wX ad cI cL cO sc sd src itm knd plc clk ec nf ns nc wt bd off row hw rl tm ord tc) sz)) (XT D vwCl (tysX cI cL cO) (va_A (wX ad cI cL cO sc sd src itm knd plc clk ec nf ns nc wt bd off row hw rl tm ord tc) sz) (wX ad cI cL cO sc sd src itm knd plc clk ec nf ns nc wt bd off row hw rl tm ord tc) (fun _ => False)) rm_Events_countIn_5.cells rm_Events_countIn_5.slots (va_A (wX ad cI cL cO sc sd src itm knd plc clk ec nf ns nc wt bd off row hw rl tm ord tc) sz) := by
  refine x_met [.ref (ad 1), .ref (ad 5), .int a2] TBL_good (by decide) (Nat.le_of_ble_eq_true rfl) ?_
  intro p e s m args below meth c hC hr hlk hnm hnh
  have hret : ∀ (ce sl : Nat), ce ≤ rm_Events_countIn_5.cells → sl ≤ rm_Events_countIn_5.slots → ∀ (r : Int32) (u : Unit), Qr r u → ∀ (pc : Nat) (lv : List (Nat × Value)), decode bEv_countIn pc = .ok (.ireturn, 1) → XW p l e rm_Events_countIn_5 s m args below meth c D vwCl (va_A (wX ad cI cL cO sc sd src itm knd plc clk ec nf ns nc wt bd off row hw rl tm ord tc) sz) 5 (vx_MQ below (va_Qi Qr (fun u t => XB D vwCl (tysX cI cL cO) (va_A (wX ad cI cL cO sc sd src itm knd plc clk ec nf ns nc wt bd off row hw rl tm ord tc) sz) (wX ad cI cL cO sc sd src itm knd plc clk ec nf ns nc wt bd off row hw rl tm ord tc) t) (va_A (wX ad cI cL cO sc sd src itm knd plc clk ec nf ns nc wt bd off row hw rl tm ord tc) sz)) (XT D vwCl (tysX cI cL cO) (va_A (wX ad cI cL cO sc sd src itm knd plc clk ec nf ns nc wt bd off row hw rl tm ord tc) sz) (wX ad cI cL cO sc sd src itm knd plc clk ec nf ns nc wt bd off row hw rl tm ord tc) (fun _ => False)) args s rm_Events_countIn_5.cells rm_Events_countIn_5.slots (va_A (wX ad cI cL cO sc sd src itm knd plc clk ec nf ns nc wt bd off row hw rl tm ord tc) sz)) ce sl (wX ad cI cL cO sc sd src itm knd plc clk ec nf ns nc wt bd off row hw rl tm ord tc) pc lv [.int r] := fun ce sl h1 h2 r u hq pc lv hd => x_iret (wf := fun u => (wX ad cI cL cO sc sd src itm knd plc clk ec nf ns nc wt bd off row hw rl tm ord tc)) hC h1 h2 hr hlk hd hq rfl
  show XW p l e rm_Events_countIn_5 s m args below meth c D vwCl (va_A (wX ad cI cL cO sc sd src itm knd plc clk ec nf ns nc wt bd off row hw rl tm ord tc) sz) 5 _ 0 0 (wX ad cI cL cO sc sd src itm knd plc clk ec nf ns nc wt bd off row hw rl tm ord tc) 0 [(0, .ref (ad 1)), (1, .ref (ad 5)), (2, .int a2)] []
  unfold Events_countIn_5_wp at h
  refine x_iconst (v := 0) hC dEv_countIn_0 (by decide) ?_
  refine x_istore_n (lv' := [(3, .int 0), (0, .ref (ad 1)), (1, .ref (ad 5)), (2, .int a2)]) hC dEv_countIn_1 rfl (by decide) rfl ?_
  refine x_iconst (v := 1) hC dEv_countIn_2 (by decide) ?_
  refine x_istore (lv' := [(4, .int 1), (3, .int 0), (0, .ref (ad 1)), (1, .ref (ad 5)), (2, .int a2)]) hC dEv_countIn_3 (by decide) rfl ?_
  obtain ⟨n_5, h⟩ := h
  refine x_lv [2, 3, 4, 1, 0] rfl ?_
  refine Events_countIn_5_L5_ok hC (fun v3_4 h => ?_) n_5 0 1 h
  refine x_iload_n hC dEv_countIn_31 rfl 0 rfl ?_
  exact hret _ _ (by decide) (by decide) v3_4 () h _ _ dEv_countIn_32

/-! EventOrder$Events.countIn([II)I -/
abbrev rm_Events_countIn_2 : Room := { frames := 0, cells := 0, slots := 0, locals := 0 }
def Events_countIn_2_L5 (v2 : Int32) (src : (Nat → Int32)) (ec : Int32) (Qx : Int32 → Prop) : Nat → Int32 → Int32 → Prop
  | 0, _, _ => False
  | n + 1, v3, v4 => ((ec < v4 → Qx v3) ∧ (¬ ec < v4 → vp_in v4 301 ∧ ((¬ (src v4.toNatClampNeg) = v2 → Events_countIn_2_L5 v2 src ec Qx n v3 (v4 + 1)) ∧ ((src v4.toNatClampNeg) = v2 → Events_countIn_2_L5 v2 src ec Qx n (v3 + 1) (v4 + 1)))))

def Events_countIn_2_wp (src : (Nat → Int32)) (ec : Int32) (a2 : Int32) (Qr : Int32 → Unit → Prop) : Prop := (∃ n_5 : Nat, Events_countIn_2_L5 a2 src ec (fun (v3_4 : Int32) => Qr v3_4 ()) n_5 0 1)
set_option maxHeartbeats 4000000 in
set_option maxRecDepth 100000 in
theorem Events_countIn_2_L5_ok {p : Program} {l : Launch} {e : Env} {s : State} {m : MethodId} {args : Array Value} {below : List Frame} {meth : Method} {c : Code} {Q : State → Prop} {D : va_G} {A : Nat → Prop} {ad : Nat → Nat} {cI cL cO : ClassId} {sc : Int32} {sd : Int32} {src : (Nat → Int32)} {itm : (Nat → Int32)} {knd : (Nat → Int32)} {plc : (Nat → Int32)} {clk : (Nat → Int64)} {ec : Int32} {nf : (Nat → Int32)} {ns : (Nat → Int32)} {nc : Int32} {wt : (Nat → Nat → Int64)} {bd : (Nat → Nat → Int64)} {off : (Nat → Int64)} {row : (Nat → Int32)} {hw : (Nat → Nat → Int64)} {rl : Int32} {tm : (Nat → Int64)} {ord : (Nat → Int32)} {tc : Int32} {v2 : Int32} {Qx : Int32 → Prop} (hC : XC p s m args c D vwCl (tysX cI cL cO) A 5 bEv_countIn TBL REv)  (hexit : ∀ (v3 : Int32), Qx v3 → XW p l e rm_Events_countIn_2 s m args below meth c D vwCl A 5 Q 0 0 (wX ad cI cL cO sc sd src itm knd plc clk ec nf ns nc wt bd off row hw rl tm ord tc) 31 [(3, .int v3)] []) : ∀ (n : Nat) (v3 : Int32) (v4 : Int32), Events_countIn_2_L5 v2 src ec Qx n v3 v4 → XW p l e rm_Events_countIn_2 s m args below meth c D vwCl A 5 Q 0 0 (wX ad cI cL cO sc sd src itm knd plc clk ec nf ns nc wt bd off row hw rl tm ord tc) 5 [(0, .ref (ad 1)), (1, .ref (ad 2)), (2, .int v2), (3, .int v3), (4, .int v4)] [] := by
  intro n
  induction n with
  | zero => intro v3 v4 h; exact False.elim h
  | succ n ih =>
    intro v3 v4 h
    unfold Events_countIn_2_L5 at h
    refine x_iload hC dEv_countIn_5 4 rfl ?_
    refine x_aload_n hC dEv_countIn_7 rfl 0 rfl ?_
    refine x_get hC iEv 1 wX_1 rfl 5 (by decide) k_x0 rfl rfl dEv_countIn_8 ?_
    refine x_icmp_gt (tgt := 31) hC dEv_countIn_11 (by decide) (fun c_1 => ?_) (fun c_1 => ?_)
    · have h := h.1 c_1
      refine x_lv [3] rfl ?_
      exact hexit v3 h
    · have h := h.2 c_1
      refine x_aload_n hC dEv_countIn_14 rfl 1 rfl ?_
      refine x_iload hC dEv_countIn_15 4 rfl ?_
      obtain ⟨hb_2, h⟩ := h
      refine x_iald hC 2 0 wX_2 rfl hb_2 dEv_countIn_17 ?_
      refine x_iload_n hC dEv_countIn_18 rfl 2 rfl ?_
      refine x_icmp_ne (tgt := 25) hC dEv_countIn_19 (by decide) (fun c_3 => ?_) (fun c_3 => ?_)
      · have h := h.1 c_3
        refine x_iinc (v := v4 + 1) (lv' := [(4, .int (v4 + 1)), (0, .ref (ad 1)), (1, .ref (ad 2)), (2, .int v2), (3, .int v3)]) hC dEv_countIn_25 4 rfl rfl (by decide) rfl ?_
        refine x_goto (tgt := 5) hC dEv_countIn_28 (by decide) ?_
        refine x_lv [1, 2, 3, 4, 0] rfl ?_
        exact ih v3 (v4 + 1) h
      · have h := h.2 c_3
        refine x_iinc (v := v3 + 1) (lv' := [(3, .int (v3 + 1)), (0, .ref (ad 1)), (1, .ref (ad 2)), (2, .int v2), (4, .int v4)]) hC dEv_countIn_22 3 rfl rfl (by decide) rfl ?_
        refine x_iinc (v := v4 + 1) (lv' := [(4, .int (v4 + 1)), (3, .int (v3 + 1)), (0, .ref (ad 1)), (1, .ref (ad 2)), (2, .int v2)]) hC dEv_countIn_25 4 rfl rfl (by decide) rfl ?_
        refine x_goto (tgt := 5) hC dEv_countIn_28 (by decide) ?_
        refine x_lv [2, 3, 4, 1, 0] rfl ?_
        exact ih (v3 + 1) (v4 + 1) h

set_option maxHeartbeats 4000000 in
set_option maxRecDepth 100000 in
theorem c_Events_countIn_2 {l : Launch} {D : va_G} {ad : Nat → Nat} {cI cL cO : ClassId} {sc : Int32} {sd : Int32} {src : (Nat → Int32)} {itm : (Nat → Int32)} {knd : (Nat → Int32)} {plc : (Nat → Int32)} {clk : (Nat → Int64)} {ec : Int32} {nf : (Nat → Int32)} {ns : (Nat → Int32)} {nc : Int32} {wt : (Nat → Nat → Int64)} {bd : (Nat → Nat → Int64)} {off : (Nat → Int64)} {row : (Nat → Int32)} {hw : (Nat → Nat → Int64)} {rl : Int32} {tm : (Nat → Int64)} {ord : (Nat → Int32)} {tc : Int32} {a2 : Int32} {Qr : Int32 → Unit → Prop} (h : Events_countIn_2_wp src ec a2 Qr) (sz : Nat) : vx_Met l yEv_countIn (Cond.code yEv_countIn bEv_countIn 5 (some .int) :: TBL) rm_Events_countIn_2 (va_Pc [.ref (ad 1), .ref (ad 2), .int a2] (XP D vwCl (tysX cI cL cO) (wX ad cI cL cO sc sd src itm knd plc clk ec nf ns nc wt bd off row hw rl tm ord tc) sz)) (va_Qi Qr (fun u t => XB D vwCl (tysX cI cL cO) (va_A (wX ad cI cL cO sc sd src itm knd plc clk ec nf ns nc wt bd off row hw rl tm ord tc) sz) (wX ad cI cL cO sc sd src itm knd plc clk ec nf ns nc wt bd off row hw rl tm ord tc) t) (va_A (wX ad cI cL cO sc sd src itm knd plc clk ec nf ns nc wt bd off row hw rl tm ord tc) sz)) (XT D vwCl (tysX cI cL cO) (va_A (wX ad cI cL cO sc sd src itm knd plc clk ec nf ns nc wt bd off row hw rl tm ord tc) sz) (wX ad cI cL cO sc sd src itm knd plc clk ec nf ns nc wt bd off row hw rl tm ord tc) (fun _ => False)) rm_Events_countIn_2.cells rm_Events_countIn_2.slots (va_A (wX ad cI cL cO sc sd src itm knd plc clk ec nf ns nc wt bd off row hw rl tm ord tc) sz) := by
  refine x_met [.ref (ad 1), .ref (ad 2), .int a2] TBL_good (by decide) (Nat.le_of_ble_eq_true rfl) ?_
  intro p e s m args below meth c hC hr hlk hnm hnh
  have hret : ∀ (ce sl : Nat), ce ≤ rm_Events_countIn_2.cells → sl ≤ rm_Events_countIn_2.slots → ∀ (r : Int32) (u : Unit), Qr r u → ∀ (pc : Nat) (lv : List (Nat × Value)), decode bEv_countIn pc = .ok (.ireturn, 1) → XW p l e rm_Events_countIn_2 s m args below meth c D vwCl (va_A (wX ad cI cL cO sc sd src itm knd plc clk ec nf ns nc wt bd off row hw rl tm ord tc) sz) 5 (vx_MQ below (va_Qi Qr (fun u t => XB D vwCl (tysX cI cL cO) (va_A (wX ad cI cL cO sc sd src itm knd plc clk ec nf ns nc wt bd off row hw rl tm ord tc) sz) (wX ad cI cL cO sc sd src itm knd plc clk ec nf ns nc wt bd off row hw rl tm ord tc) t) (va_A (wX ad cI cL cO sc sd src itm knd plc clk ec nf ns nc wt bd off row hw rl tm ord tc) sz)) (XT D vwCl (tysX cI cL cO) (va_A (wX ad cI cL cO sc sd src itm knd plc clk ec nf ns nc wt bd off row hw rl tm ord tc) sz) (wX ad cI cL cO sc sd src itm knd plc clk ec nf ns nc wt bd off row hw rl tm ord tc) (fun _ => False)) args s rm_Events_countIn_2.cells rm_Events_countIn_2.slots (va_A (wX ad cI cL cO sc sd src itm knd plc clk ec nf ns nc wt bd off row hw rl tm ord tc) sz)) ce sl (wX ad cI cL cO sc sd src itm knd plc clk ec nf ns nc wt bd off row hw rl tm ord tc) pc lv [.int r] := fun ce sl h1 h2 r u hq pc lv hd => x_iret (wf := fun u => (wX ad cI cL cO sc sd src itm knd plc clk ec nf ns nc wt bd off row hw rl tm ord tc)) hC h1 h2 hr hlk hd hq rfl
  show XW p l e rm_Events_countIn_2 s m args below meth c D vwCl (va_A (wX ad cI cL cO sc sd src itm knd plc clk ec nf ns nc wt bd off row hw rl tm ord tc) sz) 5 _ 0 0 (wX ad cI cL cO sc sd src itm knd plc clk ec nf ns nc wt bd off row hw rl tm ord tc) 0 [(0, .ref (ad 1)), (1, .ref (ad 2)), (2, .int a2)] []
  unfold Events_countIn_2_wp at h
  refine x_iconst (v := 0) hC dEv_countIn_0 (by decide) ?_
  refine x_istore_n (lv' := [(3, .int 0), (0, .ref (ad 1)), (1, .ref (ad 2)), (2, .int a2)]) hC dEv_countIn_1 rfl (by decide) rfl ?_
  refine x_iconst (v := 1) hC dEv_countIn_2 (by decide) ?_
  refine x_istore (lv' := [(4, .int 1), (3, .int 0), (0, .ref (ad 1)), (1, .ref (ad 2)), (2, .int a2)]) hC dEv_countIn_3 (by decide) rfl ?_
  obtain ⟨n_5, h⟩ := h
  refine x_lv [2, 3, 4, 1, 0] rfl ?_
  refine Events_countIn_2_L5_ok hC (fun v3_4 h => ?_) n_5 0 1 h
  refine x_iload_n hC dEv_countIn_31 rfl 0 rfl ?_
  exact hret _ _ (by decide) (by decide) v3_4 () h _ _ dEv_countIn_32

/-! EventOrder$Events.countIn([II)I -/
abbrev rm_Events_countIn_4 : Room := { frames := 0, cells := 0, slots := 0, locals := 0 }
def Events_countIn_4_L5 (v2 : Int32) (knd : (Nat → Int32)) (ec : Int32) (Qx : Int32 → Prop) : Nat → Int32 → Int32 → Prop
  | 0, _, _ => False
  | n + 1, v3, v4 => ((ec < v4 → Qx v3) ∧ (¬ ec < v4 → vp_in v4 301 ∧ ((¬ (knd v4.toNatClampNeg) = v2 → Events_countIn_4_L5 v2 knd ec Qx n v3 (v4 + 1)) ∧ ((knd v4.toNatClampNeg) = v2 → Events_countIn_4_L5 v2 knd ec Qx n (v3 + 1) (v4 + 1)))))

def Events_countIn_4_wp (knd : (Nat → Int32)) (ec : Int32) (a2 : Int32) (Qr : Int32 → Unit → Prop) : Prop := (∃ n_5 : Nat, Events_countIn_4_L5 a2 knd ec (fun (v3_4 : Int32) => Qr v3_4 ()) n_5 0 1)
set_option maxHeartbeats 4000000 in
set_option maxRecDepth 100000 in
theorem Events_countIn_4_L5_ok {p : Program} {l : Launch} {e : Env} {s : State} {m : MethodId} {args : Array Value} {below : List Frame} {meth : Method} {c : Code} {Q : State → Prop} {D : va_G} {A : Nat → Prop} {ad : Nat → Nat} {cI cL cO : ClassId} {sc : Int32} {sd : Int32} {src : (Nat → Int32)} {itm : (Nat → Int32)} {knd : (Nat → Int32)} {plc : (Nat → Int32)} {clk : (Nat → Int64)} {ec : Int32} {nf : (Nat → Int32)} {ns : (Nat → Int32)} {nc : Int32} {wt : (Nat → Nat → Int64)} {bd : (Nat → Nat → Int64)} {off : (Nat → Int64)} {row : (Nat → Int32)} {hw : (Nat → Nat → Int64)} {rl : Int32} {tm : (Nat → Int64)} {ord : (Nat → Int32)} {tc : Int32} {v2 : Int32} {Qx : Int32 → Prop} (hC : XC p s m args c D vwCl (tysX cI cL cO) A 5 bEv_countIn TBL REv)  (hexit : ∀ (v3 : Int32), Qx v3 → XW p l e rm_Events_countIn_4 s m args below meth c D vwCl A 5 Q 0 0 (wX ad cI cL cO sc sd src itm knd plc clk ec nf ns nc wt bd off row hw rl tm ord tc) 31 [(3, .int v3)] []) : ∀ (n : Nat) (v3 : Int32) (v4 : Int32), Events_countIn_4_L5 v2 knd ec Qx n v3 v4 → XW p l e rm_Events_countIn_4 s m args below meth c D vwCl A 5 Q 0 0 (wX ad cI cL cO sc sd src itm knd plc clk ec nf ns nc wt bd off row hw rl tm ord tc) 5 [(0, .ref (ad 1)), (1, .ref (ad 4)), (2, .int v2), (3, .int v3), (4, .int v4)] [] := by
  intro n
  induction n with
  | zero => intro v3 v4 h; exact False.elim h
  | succ n ih =>
    intro v3 v4 h
    unfold Events_countIn_4_L5 at h
    refine x_iload hC dEv_countIn_5 4 rfl ?_
    refine x_aload_n hC dEv_countIn_7 rfl 0 rfl ?_
    refine x_get hC iEv 1 wX_1 rfl 5 (by decide) k_x0 rfl rfl dEv_countIn_8 ?_
    refine x_icmp_gt (tgt := 31) hC dEv_countIn_11 (by decide) (fun c_1 => ?_) (fun c_1 => ?_)
    · have h := h.1 c_1
      refine x_lv [3] rfl ?_
      exact hexit v3 h
    · have h := h.2 c_1
      refine x_aload_n hC dEv_countIn_14 rfl 1 rfl ?_
      refine x_iload hC dEv_countIn_15 4 rfl ?_
      obtain ⟨hb_2, h⟩ := h
      refine x_iald hC 4 0 wX_4 rfl hb_2 dEv_countIn_17 ?_
      refine x_iload_n hC dEv_countIn_18 rfl 2 rfl ?_
      refine x_icmp_ne (tgt := 25) hC dEv_countIn_19 (by decide) (fun c_3 => ?_) (fun c_3 => ?_)
      · have h := h.1 c_3
        refine x_iinc (v := v4 + 1) (lv' := [(4, .int (v4 + 1)), (0, .ref (ad 1)), (1, .ref (ad 4)), (2, .int v2), (3, .int v3)]) hC dEv_countIn_25 4 rfl rfl (by decide) rfl ?_
        refine x_goto (tgt := 5) hC dEv_countIn_28 (by decide) ?_
        refine x_lv [1, 2, 3, 4, 0] rfl ?_
        exact ih v3 (v4 + 1) h
      · have h := h.2 c_3
        refine x_iinc (v := v3 + 1) (lv' := [(3, .int (v3 + 1)), (0, .ref (ad 1)), (1, .ref (ad 4)), (2, .int v2), (4, .int v4)]) hC dEv_countIn_22 3 rfl rfl (by decide) rfl ?_
        refine x_iinc (v := v4 + 1) (lv' := [(4, .int (v4 + 1)), (3, .int (v3 + 1)), (0, .ref (ad 1)), (1, .ref (ad 4)), (2, .int v2)]) hC dEv_countIn_25 4 rfl rfl (by decide) rfl ?_
        refine x_goto (tgt := 5) hC dEv_countIn_28 (by decide) ?_
        refine x_lv [2, 3, 4, 1, 0] rfl ?_
        exact ih (v3 + 1) (v4 + 1) h

set_option maxHeartbeats 4000000 in
set_option maxRecDepth 100000 in
theorem c_Events_countIn_4 {l : Launch} {D : va_G} {ad : Nat → Nat} {cI cL cO : ClassId} {sc : Int32} {sd : Int32} {src : (Nat → Int32)} {itm : (Nat → Int32)} {knd : (Nat → Int32)} {plc : (Nat → Int32)} {clk : (Nat → Int64)} {ec : Int32} {nf : (Nat → Int32)} {ns : (Nat → Int32)} {nc : Int32} {wt : (Nat → Nat → Int64)} {bd : (Nat → Nat → Int64)} {off : (Nat → Int64)} {row : (Nat → Int32)} {hw : (Nat → Nat → Int64)} {rl : Int32} {tm : (Nat → Int64)} {ord : (Nat → Int32)} {tc : Int32} {a2 : Int32} {Qr : Int32 → Unit → Prop} (h : Events_countIn_4_wp knd ec a2 Qr) (sz : Nat) : vx_Met l yEv_countIn (Cond.code yEv_countIn bEv_countIn 5 (some .int) :: TBL) rm_Events_countIn_4 (va_Pc [.ref (ad 1), .ref (ad 4), .int a2] (XP D vwCl (tysX cI cL cO) (wX ad cI cL cO sc sd src itm knd plc clk ec nf ns nc wt bd off row hw rl tm ord tc) sz)) (va_Qi Qr (fun u t => XB D vwCl (tysX cI cL cO) (va_A (wX ad cI cL cO sc sd src itm knd plc clk ec nf ns nc wt bd off row hw rl tm ord tc) sz) (wX ad cI cL cO sc sd src itm knd plc clk ec nf ns nc wt bd off row hw rl tm ord tc) t) (va_A (wX ad cI cL cO sc sd src itm knd plc clk ec nf ns nc wt bd off row hw rl tm ord tc) sz)) (XT D vwCl (tysX cI cL cO) (va_A (wX ad cI cL cO sc sd src itm knd plc clk ec nf ns nc wt bd off row hw rl tm ord tc) sz) (wX ad cI cL cO sc sd src itm knd plc clk ec nf ns nc wt bd off row hw rl tm ord tc) (fun _ => False)) rm_Events_countIn_4.cells rm_Events_countIn_4.slots (va_A (wX ad cI cL cO sc sd src itm knd plc clk ec nf ns nc wt bd off row hw rl tm ord tc) sz) := by
  refine x_met [.ref (ad 1), .ref (ad 4), .int a2] TBL_good (by decide) (Nat.le_of_ble_eq_true rfl) ?_
  intro p e s m args below meth c hC hr hlk hnm hnh
  have hret : ∀ (ce sl : Nat), ce ≤ rm_Events_countIn_4.cells → sl ≤ rm_Events_countIn_4.slots → ∀ (r : Int32) (u : Unit), Qr r u → ∀ (pc : Nat) (lv : List (Nat × Value)), decode bEv_countIn pc = .ok (.ireturn, 1) → XW p l e rm_Events_countIn_4 s m args below meth c D vwCl (va_A (wX ad cI cL cO sc sd src itm knd plc clk ec nf ns nc wt bd off row hw rl tm ord tc) sz) 5 (vx_MQ below (va_Qi Qr (fun u t => XB D vwCl (tysX cI cL cO) (va_A (wX ad cI cL cO sc sd src itm knd plc clk ec nf ns nc wt bd off row hw rl tm ord tc) sz) (wX ad cI cL cO sc sd src itm knd plc clk ec nf ns nc wt bd off row hw rl tm ord tc) t) (va_A (wX ad cI cL cO sc sd src itm knd plc clk ec nf ns nc wt bd off row hw rl tm ord tc) sz)) (XT D vwCl (tysX cI cL cO) (va_A (wX ad cI cL cO sc sd src itm knd plc clk ec nf ns nc wt bd off row hw rl tm ord tc) sz) (wX ad cI cL cO sc sd src itm knd plc clk ec nf ns nc wt bd off row hw rl tm ord tc) (fun _ => False)) args s rm_Events_countIn_4.cells rm_Events_countIn_4.slots (va_A (wX ad cI cL cO sc sd src itm knd plc clk ec nf ns nc wt bd off row hw rl tm ord tc) sz)) ce sl (wX ad cI cL cO sc sd src itm knd plc clk ec nf ns nc wt bd off row hw rl tm ord tc) pc lv [.int r] := fun ce sl h1 h2 r u hq pc lv hd => x_iret (wf := fun u => (wX ad cI cL cO sc sd src itm knd plc clk ec nf ns nc wt bd off row hw rl tm ord tc)) hC h1 h2 hr hlk hd hq rfl
  show XW p l e rm_Events_countIn_4 s m args below meth c D vwCl (va_A (wX ad cI cL cO sc sd src itm knd plc clk ec nf ns nc wt bd off row hw rl tm ord tc) sz) 5 _ 0 0 (wX ad cI cL cO sc sd src itm knd plc clk ec nf ns nc wt bd off row hw rl tm ord tc) 0 [(0, .ref (ad 1)), (1, .ref (ad 4)), (2, .int a2)] []
  unfold Events_countIn_4_wp at h
  refine x_iconst (v := 0) hC dEv_countIn_0 (by decide) ?_
  refine x_istore_n (lv' := [(3, .int 0), (0, .ref (ad 1)), (1, .ref (ad 4)), (2, .int a2)]) hC dEv_countIn_1 rfl (by decide) rfl ?_
  refine x_iconst (v := 1) hC dEv_countIn_2 (by decide) ?_
  refine x_istore (lv' := [(4, .int 1), (3, .int 0), (0, .ref (ad 1)), (1, .ref (ad 4)), (2, .int a2)]) hC dEv_countIn_3 (by decide) rfl ?_
  obtain ⟨n_5, h⟩ := h
  refine x_lv [2, 3, 4, 1, 0] rfl ?_
  refine Events_countIn_4_L5_ok hC (fun v3_4 h => ?_) n_5 0 1 h
  refine x_iload_n hC dEv_countIn_31 rfl 0 rfl ?_
  exact hret _ _ (by decide) (by decide) v3_4 () h _ _ dEv_countIn_32

/-! EventOrder$Needs.add(II)I -/
abbrev rm_Needs_add : Room := { frames := 0, cells := 0, slots := 0, locals := 0 }
def Needs_add_wp (nf : (Nat → Int32)) (ns : (Nat → Int32)) (nc : Int32) (a1 : Int32) (a2 : Int32) (Qr : Int32 → ((Nat → Int32) × (Nat → Int32) × Int32) → Prop) : Prop := vp_in nc 300 ∧ vp_in nc 300 ∧ Qr (nc + 1) (upd nf nc.toNatClampNeg a1, upd ns nc.toNatClampNeg a2, nc + 1)
set_option maxHeartbeats 4000000 in
set_option maxRecDepth 100000 in
theorem c_Needs_add {l : Launch} {D : va_G} {ad : Nat → Nat} {cI cL cO : ClassId} {sc : Int32} {sd : Int32} {src : (Nat → Int32)} {itm : (Nat → Int32)} {knd : (Nat → Int32)} {plc : (Nat → Int32)} {clk : (Nat → Int64)} {ec : Int32} {nf : (Nat → Int32)} {ns : (Nat → Int32)} {nc : Int32} {wt : (Nat → Nat → Int64)} {bd : (Nat → Nat → Int64)} {off : (Nat → Int64)} {row : (Nat → Int32)} {hw : (Nat → Nat → Int64)} {rl : Int32} {tm : (Nat → Int64)} {ord : (Nat → Int32)} {tc : Int32} {a1 : Int32} {a2 : Int32} {Qr : Int32 → ((Nat → Int32) × (Nat → Int32) × Int32) → Prop} (h : Needs_add_wp nf ns nc a1 a2 Qr) (sz : Nat) : vx_Met l yNd_add (Cond.code yNd_add bNd_add 3 (some .int) :: TBL) rm_Needs_add (va_Pc [.ref (ad 7), .int a1, .int a2] (XP D vwCl (tysX cI cL cO) (wX ad cI cL cO sc sd src itm knd plc clk ec nf ns nc wt bd off row hw rl tm ord tc) sz)) (va_Qi Qr (fun u t => XB D vwCl (tysX cI cL cO) (va_A (wX ad cI cL cO sc sd src itm knd plc clk ec nf ns nc wt bd off row hw rl tm ord tc) sz) (wX ad cI cL cO sc sd src itm knd plc clk ec u.1 u.2.1 u.2.2 wt bd off row hw rl tm ord tc) t) (va_A (wX ad cI cL cO sc sd src itm knd plc clk ec nf ns nc wt bd off row hw rl tm ord tc) sz)) (XT D vwCl (tysX cI cL cO) (va_A (wX ad cI cL cO sc sd src itm knd plc clk ec nf ns nc wt bd off row hw rl tm ord tc) sz) (wX ad cI cL cO sc sd src itm knd plc clk ec nf ns nc wt bd off row hw rl tm ord tc) (fun _ => False)) rm_Needs_add.cells rm_Needs_add.slots (va_A (wX ad cI cL cO sc sd src itm knd plc clk ec nf ns nc wt bd off row hw rl tm ord tc) sz) := by
  refine x_met [.ref (ad 7), .int a1, .int a2] TBL_good (by decide) (Nat.le_of_ble_eq_true rfl) ?_
  intro p e s m args below meth c hC hr hlk hnm hnh
  have hret : ∀ (ce sl : Nat), ce ≤ rm_Needs_add.cells → sl ≤ rm_Needs_add.slots → ∀ (r : Int32) (u : ((Nat → Int32) × (Nat → Int32) × Int32)), Qr r u → ∀ (pc : Nat) (lv : List (Nat × Value)), decode bNd_add pc = .ok (.ireturn, 1) → XW p l e rm_Needs_add s m args below meth c D vwCl (va_A (wX ad cI cL cO sc sd src itm knd plc clk ec nf ns nc wt bd off row hw rl tm ord tc) sz) 3 (vx_MQ below (va_Qi Qr (fun u t => XB D vwCl (tysX cI cL cO) (va_A (wX ad cI cL cO sc sd src itm knd plc clk ec nf ns nc wt bd off row hw rl tm ord tc) sz) (wX ad cI cL cO sc sd src itm knd plc clk ec u.1 u.2.1 u.2.2 wt bd off row hw rl tm ord tc) t) (va_A (wX ad cI cL cO sc sd src itm knd plc clk ec nf ns nc wt bd off row hw rl tm ord tc) sz)) (XT D vwCl (tysX cI cL cO) (va_A (wX ad cI cL cO sc sd src itm knd plc clk ec nf ns nc wt bd off row hw rl tm ord tc) sz) (wX ad cI cL cO sc sd src itm knd plc clk ec nf ns nc wt bd off row hw rl tm ord tc) (fun _ => False)) args s rm_Needs_add.cells rm_Needs_add.slots (va_A (wX ad cI cL cO sc sd src itm knd plc clk ec nf ns nc wt bd off row hw rl tm ord tc) sz)) ce sl (wX ad cI cL cO sc sd src itm knd plc clk ec u.1 u.2.1 u.2.2 wt bd off row hw rl tm ord tc) pc lv [.int r] := fun ce sl h1 h2 r u hq pc lv hd => x_iret (wf := fun u => (wX ad cI cL cO sc sd src itm knd plc clk ec u.1 u.2.1 u.2.2 wt bd off row hw rl tm ord tc)) hC h1 h2 hr hlk hd hq rfl
  show XW p l e rm_Needs_add s m args below meth c D vwCl (va_A (wX ad cI cL cO sc sd src itm knd plc clk ec nf ns nc wt bd off row hw rl tm ord tc) sz) 3 _ 0 0 (wX ad cI cL cO sc sd src itm knd plc clk ec nf ns nc wt bd off row hw rl tm ord tc) 0 [(0, .ref (ad 7)), (1, .int a1), (2, .int a2)] []
  unfold Needs_add_wp at h
  refine x_aload_n hC dNd_add_0 rfl 0 rfl ?_
  refine x_get hC iNd 7 wX_7 rfl 0 (by decide) k_x6 rfl rfl dNd_add_1 ?_
  refine x_aload_n hC dNd_add_4 rfl 0 rfl ?_
  refine x_get hC iNd 7 wX_7 rfl 2 (by decide) k_x7 rfl rfl dNd_add_5 ?_
  refine x_iload_n hC dNd_add_8 rfl 1 rfl ?_
  obtain ⟨hb_1, h⟩ := h
  refine x_iast (ws' := (wX ad cI cL cO sc sd src itm knd plc clk ec (upd nf nc.toNatClampNeg a1) ns nc wt bd off row hw rl tm ord tc)) hC 8 0 wX_8 rfl hb_1 wX_8_set dNd_add_9 ?_
  refine x_aload_n hC dNd_add_10 rfl 0 rfl ?_
  refine x_get hC iNd 7 wX_7 rfl 1 (by decide) k_x8 rfl rfl dNd_add_11 ?_
  refine x_aload_n hC dNd_add_14 rfl 0 rfl ?_
  refine x_get hC iNd 7 wX_7 rfl 2 (by decide) k_x7 rfl rfl dNd_add_15 ?_
  refine x_iload_n hC dNd_add_18 rfl 2 rfl ?_
  obtain ⟨hb_2, h⟩ := h
  refine x_iast (ws' := (wX ad cI cL cO sc sd src itm knd plc clk ec (upd nf nc.toNatClampNeg a1) (upd ns nc.toNatClampNeg a2) nc wt bd off row hw rl tm ord tc)) hC 9 0 wX_9 rfl hb_2 wX_9_set dNd_add_19 ?_
  refine x_aload_n hC dNd_add_20 rfl 0 rfl ?_
  refine x_dup hC dNd_add_21 rfl ?_
  refine x_get hC iNd 7 wX_7 rfl 2 (by decide) k_x7 rfl rfl dNd_add_22 ?_
  refine x_iconst (v := 1) hC dNd_add_25 (by decide) ?_
  refine x_iadd hC dNd_add_26 ?_
  refine x_put (ty := .int) (ws' := (wX ad cI cL cO sc sd src itm knd plc clk ec (upd nf nc.toNatClampNeg a1) (upd ns nc.toNatClampNeg a2) (nc + 1) wt bd off row hw rl tm ord tc)) hC iNd 7 wX_7 rfl 2 (by decide) k_x7 rfl tNd tNd_ok nNd rfl (by decide +kernel) rfl rfl (Nat.le_of_ble_eq_true rfl) rfl dNd_add_27 ?_
  refine x_aload_n hC dNd_add_30 rfl 0 rfl ?_
  refine x_get hC iNd 7 wX_7 rfl 2 (by decide) k_x7 rfl rfl dNd_add_31 ?_
  exact hret _ _ (by decide) (by decide) (nc + 1) (upd nf nc.toNatClampNeg a1, upd ns nc.toNatClampNeg a2, nc + 1) h _ _ dNd_add_34
end
section
theorem dLi_weigh_0 : decode bLi_weigh 0 = .ok (.iconst 0, 1) := by decide +kernel
theorem dLi_weigh_1 : decode bLi_weigh 1 = .ok (.istore 4, 2) := by decide +kernel
theorem dLi_weigh_3 : decode bLi_weigh 3 = .ok (.iload 4, 2) := by decide +kernel
theorem dLi_weigh_5 : decode bLi_weigh 5 = .ok (.iload_n 1, 1) := by decide +kernel
theorem dLi_weigh_6 : decode bLi_weigh 6 = .ok (.if_icmp .ge 37, 3) := by decide +kernel
theorem dLi_weigh_9 : decode bLi_weigh 9 = .ok (.iconst 0, 1) := by decide +kernel
theorem dLi_weigh_10 : decode bLi_weigh 10 = .ok (.istore 5, 2) := by decide +kernel
theorem dLi_weigh_12 : decode bLi_weigh 12 = .ok (.iload 5, 2) := by decide +kernel
theorem dLi_weigh_14 : decode bLi_weigh 14 = .ok (.iload_n 1, 1) := by decide +kernel
theorem dLi_weigh_15 : decode bLi_weigh 15 = .ok (.if_icmp .ge 22, 3) := by decide +kernel
theorem dLi_weigh_18 : decode bLi_weigh 18 = .ok (.aload_n 0, 1) := by decide +kernel
theorem dLi_weigh_19 : decode bLi_weigh 19 = .ok (.getfield 11, 3) := by decide +kernel
theorem dLi_weigh_22 : decode bLi_weigh 22 = .ok (.iload 4, 2) := by decide +kernel
theorem dLi_weigh_24 : decode bLi_weigh 24 = .ok (.aaload, 1) := by decide +kernel
theorem dLi_weigh_25 : decode bLi_weigh 25 = .ok (.iload 5, 2) := by decide +kernel
theorem dLi_weigh_27 : decode bLi_weigh 27 = .ok (.ldc2_w 23, 3) := by decide +kernel
theorem dLi_weigh_30 : decode bLi_weigh 30 = .ok (.lastore, 1) := by decide +kernel
theorem dLi_weigh_31 : decode bLi_weigh 31 = .ok (.iinc 5 1, 3) := by decide +kernel
theorem dLi_weigh_34 : decode bLi_weigh 34 = .ok (.goto (-22), 3) := by decide +kernel
theorem dLi_weigh_37 : decode bLi_weigh 37 = .ok (.iinc 4 1, 3) := by decide +kernel
theorem dLi_weigh_40 : decode bLi_weigh 40 = .ok (.goto (-37), 3) := by decide +kernel
theorem dLi_weigh_43 : decode bLi_weigh 43 = .ok (.iconst 0, 1) := by decide +kernel
theorem dLi_weigh_44 : decode bLi_weigh 44 = .ok (.istore 4, 2) := by decide +kernel
theorem dLi_weigh_46 : decode bLi_weigh 46 = .ok (.iload 4, 2) := by decide +kernel
theorem dLi_weigh_48 : decode bLi_weigh 48 = .ok (.aload_n 3, 1) := by decide +kernel
theorem dLi_weigh_49 : decode bLi_weigh 49 = .ok (.getfield 25, 3) := by decide +kernel
theorem dLi_weigh_52 : decode bLi_weigh 52 = .ok (.if_icmp .ge 89, 3) := by decide +kernel
theorem dLi_weigh_55 : decode bLi_weigh 55 = .ok (.aload_n 3, 1) := by decide +kernel
theorem dLi_weigh_56 : decode bLi_weigh 56 = .ok (.getfield 31, 3) := by decide +kernel
theorem dLi_weigh_59 : decode bLi_weigh 59 = .ok (.iload 4, 2) := by decide +kernel
theorem dLi_weigh_61 : decode bLi_weigh 61 = .ok (.iaload, 1) := by decide +kernel
theorem dLi_weigh_62 : decode bLi_weigh 62 = .ok (.istore 5, 2) := by decide +kernel
theorem dLi_weigh_64 : decode bLi_weigh 64 = .ok (.aload_n 3, 1) := by decide +kernel
theorem dLi_weigh_65 : decode bLi_weigh 65 = .ok (.getfield 35, 3) := by decide +kernel
theorem dLi_weigh_68 : decode bLi_weigh 68 = .ok (.iload 4, 2) := by decide +kernel
theorem dLi_weigh_70 : decode bLi_weigh 70 = .ok (.iaload, 1) := by decide +kernel
theorem dLi_weigh_71 : decode bLi_weigh 71 = .ok (.istore 6, 2) := by decide +kernel
theorem dLi_weigh_73 : decode bLi_weigh 73 = .ok (.aload_n 2, 1) := by decide +kernel
theorem dLi_weigh_74 : decode bLi_weigh 74 = .ok (.getfield 38, 3) := by decide +kernel
theorem dLi_weigh_77 : decode bLi_weigh 77 = .ok (.iload 5, 2) := by decide +kernel
theorem dLi_weigh_79 : decode bLi_weigh 79 = .ok (.iaload, 1) := by decide +kernel
theorem dLi_weigh_80 : decode bLi_weigh 80 = .ok (.istore 7, 2) := by decide +kernel
theorem dLi_weigh_82 : decode bLi_weigh 82 = .ok (.aload_n 2, 1) := by decide +kernel
theorem dLi_weigh_83 : decode bLi_weigh 83 = .ok (.getfield 38, 3) := by decide +kernel
theorem dLi_weigh_86 : decode bLi_weigh 86 = .ok (.iload 6, 2) := by decide +kernel
theorem dLi_weigh_88 : decode bLi_weigh 88 = .ok (.iaload, 1) := by decide +kernel
theorem dLi_weigh_89 : decode bLi_weigh 89 = .ok (.istore 8, 2) := by decide +kernel
theorem dLi_weigh_91 : decode bLi_weigh 91 = .ok (.aload_n 2, 1) := by decide +kernel
theorem dLi_weigh_92 : decode bLi_weigh 92 = .ok (.getfield 43, 3) := by decide +kernel
theorem dLi_weigh_95 : decode bLi_weigh 95 = .ok (.iload 6, 2) := by decide +kernel
theorem dLi_weigh_97 : decode bLi_weigh 97 = .ok (.laload, 1) := by decide +kernel
theorem dLi_weigh_98 : decode bLi_weigh 98 = .ok (.aload_n 2, 1) := by decide +kernel
theorem dLi_weigh_99 : decode bLi_weigh 99 = .ok (.getfield 43, 3) := by decide +kernel
theorem dLi_weigh_102 : decode bLi_weigh 102 = .ok (.iload 5, 2) := by decide +kernel
theorem dLi_weigh_104 : decode bLi_weigh 104 = .ok (.laload, 1) := by decide +kernel
theorem dLi_weigh_105 : decode bLi_weigh 105 = .ok (.lsub, 1) := by decide +kernel
theorem dLi_weigh_106 : decode bLi_weigh 106 = .ok (.lconst 1, 1) := by decide +kernel
theorem dLi_weigh_107 : decode bLi_weigh 107 = .ok (.lsub, 1) := by decide +kernel
theorem dLi_weigh_108 : decode bLi_weigh 108 = .ok (.lstore 9, 2) := by decide +kernel
theorem dLi_weigh_110 : decode bLi_weigh 110 = .ok (.aload_n 0, 1) := by decide +kernel
theorem dLi_weigh_111 : decode bLi_weigh 111 = .ok (.getfield 11, 3) := by decide +kernel
theorem dLi_weigh_114 : decode bLi_weigh 114 = .ok (.iload 7, 2) := by decide +kernel
theorem dLi_weigh_116 : decode bLi_weigh 116 = .ok (.aaload, 1) := by decide +kernel
theorem dLi_weigh_117 : decode bLi_weigh 117 = .ok (.iload 8, 2) := by decide +kernel
theorem dLi_weigh_119 : decode bLi_weigh 119 = .ok (.aload_n 0, 1) := by decide +kernel
theorem dLi_weigh_120 : decode bLi_weigh 120 = .ok (.getfield 11, 3) := by decide +kernel
theorem dLi_weigh_123 : decode bLi_weigh 123 = .ok (.iload 7, 2) := by decide +kernel
theorem dLi_weigh_125 : decode bLi_weigh 125 = .ok (.aaload, 1) := by decide +kernel
theorem dLi_weigh_126 : decode bLi_weigh 126 = .ok (.iload 8, 2) := by decide +kernel
theorem dLi_weigh_128 : decode bLi_weigh 128 = .ok (.laload, 1) := by decide +kernel
theorem dLi_weigh_129 : decode bLi_weigh 129 = .ok (.lload 9, 2) := by decide +kernel
theorem dLi_weigh_131 : decode bLi_weigh 131 = .ok (.invokestatic 46, 3) := by decide +kernel
theorem dLi_weigh_134 : decode bLi_weigh 134 = .ok (.lastore, 1) := by decide +kernel
theorem dLi_weigh_135 : decode bLi_weigh 135 = .ok (.iinc 4 1, 3) := by decide +kernel
theorem dLi_weigh_138 : decode bLi_weigh 138 = .ok (.goto (-92), 3) := by decide +kernel
theorem dLi_weigh_141 : decode bLi_weigh 141 = .ok (.return_, 1) := by decide +kernel
theorem dLi_findBounds_0 : decode bLi_findBounds 0 = .ok (.iconst 0, 1) := by decide +kernel
theorem dLi_findBounds_1 : decode bLi_findBounds 1 = .ok (.istore_n 2, 1) := by decide +kernel
theorem dLi_findBounds_2 : decode bLi_findBounds 2 = .ok (.iload_n 2, 1) := by decide +kernel
theorem dLi_findBounds_3 : decode bLi_findBounds 3 = .ok (.iload_n 1, 1) := by decide +kernel
theorem dLi_findBounds_4 : decode bLi_findBounds 4 = .ok (.if_icmp .ge 58, 3) := by decide +kernel
theorem dLi_findBounds_7 : decode bLi_findBounds 7 = .ok (.iconst 0, 1) := by decide +kernel
theorem dLi_findBounds_8 : decode bLi_findBounds 8 = .ok (.istore_n 3, 1) := by decide +kernel
theorem dLi_findBounds_9 : decode bLi_findBounds 9 = .ok (.iload_n 3, 1) := by decide +kernel
theorem dLi_findBounds_10 : decode bLi_findBounds 10 = .ok (.iload_n 1, 1) := by decide +kernel
theorem dLi_findBounds_11 : decode bLi_findBounds 11 = .ok (.if_icmp .ge 25, 3) := by decide +kernel
theorem dLi_findBounds_14 : decode bLi_findBounds 14 = .ok (.aload_n 0, 1) := by decide +kernel
theorem dLi_findBounds_15 : decode bLi_findBounds 15 = .ok (.getfield 16, 3) := by decide +kernel
theorem dLi_findBounds_18 : decode bLi_findBounds 18 = .ok (.iload_n 2, 1) := by decide +kernel
theorem dLi_findBounds_19 : decode bLi_findBounds 19 = .ok (.aaload, 1) := by decide +kernel
theorem dLi_findBounds_20 : decode bLi_findBounds 20 = .ok (.iload_n 3, 1) := by decide +kernel
theorem dLi_findBounds_21 : decode bLi_findBounds 21 = .ok (.aload_n 0, 1) := by decide +kernel
theorem dLi_findBounds_22 : decode bLi_findBounds 22 = .ok (.getfield 11, 3) := by decide +kernel
theorem dLi_findBounds_25 : decode bLi_findBounds 25 = .ok (.iload_n 2, 1) := by decide +kernel
theorem dLi_findBounds_26 : decode bLi_findBounds 26 = .ok (.aaload, 1) := by decide +kernel
theorem dLi_findBounds_27 : decode bLi_findBounds 27 = .ok (.iload_n 3, 1) := by decide +kernel
theorem dLi_findBounds_28 : decode bLi_findBounds 28 = .ok (.laload, 1) := by decide +kernel
theorem dLi_findBounds_29 : decode bLi_findBounds 29 = .ok (.lastore, 1) := by decide +kernel
theorem dLi_findBounds_30 : decode bLi_findBounds 30 = .ok (.iinc 3 1, 3) := by decide +kernel
theorem dLi_findBounds_33 : decode bLi_findBounds 33 = .ok (.goto (-24), 3) := by decide +kernel
theorem dLi_findBounds_36 : decode bLi_findBounds 36 = .ok (.aload_n 0, 1) := by decide +kernel
theorem dLi_findBounds_37 : decode bLi_findBounds 37 = .ok (.getfield 16, 3) := by decide +kernel
theorem dLi_findBounds_40 : decode bLi_findBounds 40 = .ok (.iload_n 2, 1) := by decide +kernel
theorem dLi_findBounds_41 : decode bLi_findBounds 41 = .ok (.aaload, 1) := by decide +kernel
theorem dLi_findBounds_42 : decode bLi_findBounds 42 = .ok (.iload_n 2, 1) := by decide +kernel
theorem dLi_findBounds_43 : decode bLi_findBounds 43 = .ok (.aload_n 0, 1) := by decide +kernel
theorem dLi_findBounds_44 : decode bLi_findBounds 44 = .ok (.getfield 11, 3) := by decide +kernel
theorem dLi_findBounds_47 : decode bLi_findBounds 47 = .ok (.iload_n 2, 1) := by decide +kernel
theorem dLi_findBounds_48 : decode bLi_findBounds 48 = .ok (.aaload, 1) := by decide +kernel
theorem dLi_findBounds_49 : decode bLi_findBounds 49 = .ok (.iload_n 2, 1) := by decide +kernel
theorem dLi_findBounds_50 : decode bLi_findBounds 50 = .ok (.laload, 1) := by decide +kernel
theorem dLi_findBounds_51 : decode bLi_findBounds 51 = .ok (.lconst 0, 1) := by decide +kernel
theorem dLi_findBounds_52 : decode bLi_findBounds 52 = .ok (.invokestatic 46, 3) := by decide +kernel
theorem dLi_findBounds_55 : decode bLi_findBounds 55 = .ok (.lastore, 1) := by decide +kernel
theorem dLi_findBounds_56 : decode bLi_findBounds 56 = .ok (.iinc 2 1, 3) := by decide +kernel
theorem dLi_findBounds_59 : decode bLi_findBounds 59 = .ok (.goto (-57), 3) := by decide +kernel
theorem dLi_findBounds_62 : decode bLi_findBounds 62 = .ok (.aload_n 0, 1) := by decide +kernel
theorem dLi_findBounds_63 : decode bLi_findBounds 63 = .ok (.iload_n 1, 1) := by decide +kernel
theorem dLi_findBounds_64 : decode bLi_findBounds 64 = .ok (.invokevirtual 52, 3) := by decide +kernel
theorem dLi_closesBelowZero_0 : decode bLi_closesBelowZero 0 = .ok (.iconst 0, 1) := by decide +kernel
theorem dLi_closesBelowZero_1 : decode bLi_closesBelowZero 1 = .ok (.istore_n 2, 1) := by decide +kernel
theorem dLi_closesBelowZero_2 : decode bLi_closesBelowZero 2 = .ok (.iload_n 2, 1) := by decide +kernel
theorem dLi_closesBelowZero_3 : decode bLi_closesBelowZero 3 = .ok (.iload_n 1, 1) := by decide +kernel
theorem dLi_closesBelowZero_4 : decode bLi_closesBelowZero 4 = .ok (.if_icmp .ge 24, 3) := by decide +kernel
theorem dLi_closesBelowZero_7 : decode bLi_closesBelowZero 7 = .ok (.aload_n 0, 1) := by decide +kernel
theorem dLi_closesBelowZero_8 : decode bLi_closesBelowZero 8 = .ok (.getfield 16, 3) := by decide +kernel
theorem dLi_closesBelowZero_11 : decode bLi_closesBelowZero 11 = .ok (.iload_n 2, 1) := by decide +kernel
theorem dLi_closesBelowZero_12 : decode bLi_closesBelowZero 12 = .ok (.aaload, 1) := by decide +kernel
theorem dLi_closesBelowZero_13 : decode bLi_closesBelowZero 13 = .ok (.iload_n 2, 1) := by decide +kernel
theorem dLi_closesBelowZero_14 : decode bLi_closesBelowZero 14 = .ok (.laload, 1) := by decide +kernel
theorem dLi_closesBelowZero_15 : decode bLi_closesBelowZero 15 = .ok (.lconst 0, 1) := by decide +kernel
theorem dLi_closesBelowZero_16 : decode bLi_closesBelowZero 16 = .ok (.lcmp, 1) := by decide +kernel
theorem dLi_closesBelowZero_17 : decode bLi_closesBelowZero 17 = .ok (.ifCond .ge 5, 3) := by decide +kernel
theorem dLi_closesBelowZero_22 : decode bLi_closesBelowZero 22 = .ok (.iinc 2 1, 3) := by decide +kernel
theorem dLi_closesBelowZero_25 : decode bLi_closesBelowZero 25 = .ok (.goto (-23), 3) := by decide +kernel
theorem dLi_closesBelowZero_20 : decode bLi_closesBelowZero 20 = .ok (.iconst 1, 1) := by decide +kernel
theorem dLi_closesBelowZero_21 : decode bLi_closesBelowZero 21 = .ok (.ireturn, 1) := by decide +kernel
theorem dLi_closesBelowZero_28 : decode bLi_closesBelowZero 28 = .ok (.iconst 0, 1) := by decide +kernel
theorem dLi_closesBelowZero_29 : decode bLi_closesBelowZero 29 = .ok (.ireturn, 1) := by decide +kernel
theorem dLi_findBounds_67 : decode bLi_findBounds 67 = .ok (.ifCond .ne 7, 3) := by decide +kernel
theorem dLi_findBounds_74 : decode bLi_findBounds 74 = .ok (.iconst 0, 1) := by decide +kernel
theorem dLi_findBounds_75 : decode bLi_findBounds 75 = .ok (.istore_n 2, 1) := by decide +kernel
theorem dLi_findBounds_76 : decode bLi_findBounds 76 = .ok (.iconst 0, 1) := by decide +kernel
theorem dLi_findBounds_77 : decode bLi_findBounds 77 = .ok (.istore_n 3, 1) := by decide +kernel
theorem dLi_findBounds_78 : decode bLi_findBounds 78 = .ok (.iload_n 3, 1) := by decide +kernel
theorem dLi_findBounds_79 : decode bLi_findBounds 79 = .ok (.iload_n 1, 1) := by decide +kernel
theorem dLi_findBounds_80 : decode bLi_findBounds 80 = .ok (.if_icmp .ge 33, 3) := by decide +kernel
theorem dLi_findBounds_83 : decode bLi_findBounds 83 = .ok (.iload_n 2, 1) := by decide +kernel
theorem dLi_findBounds_84 : decode bLi_findBounds 84 = .ok (.ifCond .eq 29, 3) := by decide +kernel
theorem dLi_findBounds_87 : decode bLi_findBounds 87 = .ok (.aload_n 0, 1) := by decide +kernel
theorem dLi_findBounds_88 : decode bLi_findBounds 88 = .ok (.iload_n 3, 1) := by decide +kernel
theorem dLi_findBounds_89 : decode bLi_findBounds 89 = .ok (.iload_n 1, 1) := by decide +kernel
theorem dLi_findBounds_90 : decode bLi_findBounds 90 = .ok (.invokevirtual 56, 3) := by decide +kernel
theorem dLi_shortenThrough_0 : decode bLi_shortenThrough 0 = .ok (.iconst 0, 1) := by decide +kernel
theorem dLi_shortenThrough_1 : decode bLi_shortenThrough 1 = .ok (.istore_n 3, 1) := by decide +kernel
theorem dLi_shortenThrough_2 : decode bLi_shortenThrough 2 = .ok (.iload_n 3, 1) := by decide +kernel
theorem dLi_shortenThrough_3 : decode bLi_shortenThrough 3 = .ok (.iload_n 2, 1) := by decide +kernel
theorem dLi_shortenThrough_4 : decode bLi_shortenThrough 4 = .ok (.if_icmp .ge 97, 3) := by decide +kernel
theorem dLi_shortenThrough_7 : decode bLi_shortenThrough 7 = .ok (.aload_n 0, 1) := by decide +kernel
theorem dLi_shortenThrough_8 : decode bLi_shortenThrough 8 = .ok (.getfield 16, 3) := by decide +kernel
theorem dLi_shortenThrough_11 : decode bLi_shortenThrough 11 = .ok (.iload_n 3, 1) := by decide +kernel
theorem dLi_shortenThrough_12 : decode bLi_shortenThrough 12 = .ok (.aaload, 1) := by decide +kernel
theorem dLi_shortenThrough_13 : decode bLi_shortenThrough 13 = .ok (.iload_n 1, 1) := by decide +kernel
theorem dLi_shortenThrough_14 : decode bLi_shortenThrough 14 = .ok (.laload, 1) := by decide +kernel
theorem dLi_shortenThrough_15 : decode bLi_shortenThrough 15 = .ok (.ldc2_w 23, 3) := by decide +kernel
theorem dLi_shortenThrough_18 : decode bLi_shortenThrough 18 = .ok (.lcmp, 1) := by decide +kernel
theorem dLi_shortenThrough_19 : decode bLi_shortenThrough 19 = .ok (.ifCond .ne 6, 3) := by decide +kernel
theorem dLi_shortenThrough_25 : decode bLi_shortenThrough 25 = .ok (.iconst 0, 1) := by decide +kernel
theorem dLi_shortenThrough_26 : decode bLi_shortenThrough 26 = .ok (.istore 4, 2) := by decide +kernel
theorem dLi_shortenThrough_28 : decode bLi_shortenThrough 28 = .ok (.iload 4, 2) := by decide +kernel
theorem dLi_shortenThrough_30 : decode bLi_shortenThrough 30 = .ok (.iload_n 2, 1) := by decide +kernel
theorem dLi_shortenThrough_31 : decode bLi_shortenThrough 31 = .ok (.if_icmp .ge 64, 3) := by decide +kernel
theorem dLi_shortenThrough_34 : decode bLi_shortenThrough 34 = .ok (.aload_n 0, 1) := by decide +kernel
theorem dLi_shortenThrough_35 : decode bLi_shortenThrough 35 = .ok (.getfield 16, 3) := by decide +kernel
theorem dLi_shortenThrough_38 : decode bLi_shortenThrough 38 = .ok (.iload_n 1, 1) := by decide +kernel
theorem dLi_shortenThrough_39 : decode bLi_shortenThrough 39 = .ok (.aaload, 1) := by decide +kernel
theorem dLi_shortenThrough_40 : decode bLi_shortenThrough 40 = .ok (.iload 4, 2) := by decide +kernel
theorem dLi_shortenThrough_42 : decode bLi_shortenThrough 42 = .ok (.laload, 1) := by decide +kernel
theorem dLi_shortenThrough_43 : decode bLi_shortenThrough 43 = .ok (.ldc2_w 23, 3) := by decide +kernel
theorem dLi_shortenThrough_46 : decode bLi_shortenThrough 46 = .ok (.lcmp, 1) := by decide +kernel
theorem dLi_shortenThrough_47 : decode bLi_shortenThrough 47 = .ok (.ifCond .eq 42, 3) := by decide +kernel
theorem dLi_shortenThrough_89 : decode bLi_shortenThrough 89 = .ok (.iinc 4 1, 3) := by decide +kernel
theorem dLi_shortenThrough_92 : decode bLi_shortenThrough 92 = .ok (.goto (-64), 3) := by decide +kernel
theorem dLi_shortenThrough_50 : decode bLi_shortenThrough 50 = .ok (.aload_n 0, 1) := by decide +kernel
theorem dLi_shortenThrough_51 : decode bLi_shortenThrough 51 = .ok (.getfield 16, 3) := by decide +kernel
theorem dLi_shortenThrough_54 : decode bLi_shortenThrough 54 = .ok (.iload_n 3, 1) := by decide +kernel
theorem dLi_shortenThrough_55 : decode bLi_shortenThrough 55 = .ok (.aaload, 1) := by decide +kernel
theorem dLi_shortenThrough_56 : decode bLi_shortenThrough 56 = .ok (.iload 4, 2) := by decide +kernel
theorem dLi_shortenThrough_58 : decode bLi_shortenThrough 58 = .ok (.aload_n 0, 1) := by decide +kernel
theorem dLi_shortenThrough_59 : decode bLi_shortenThrough 59 = .ok (.getfield 16, 3) := by decide +kernel
theorem dLi_shortenThrough_62 : decode bLi_shortenThrough 62 = .ok (.iload_n 3, 1) := by decide +kernel
theorem dLi_shortenThrough_63 : decode bLi_shortenThrough 63 = .ok (.aaload, 1) := by decide +kernel
theorem dLi_shortenThrough_64 : decode bLi_shortenThrough 64 = .ok (.iload 4, 2) := by decide +kernel
theorem dLi_shortenThrough_66 : decode bLi_shortenThrough 66 = .ok (.laload, 1) := by decide +kernel
theorem dLi_shortenThrough_67 : decode bLi_shortenThrough 67 = .ok (.aload_n 0, 1) := by decide +kernel
theorem dLi_shortenThrough_68 : decode bLi_shortenThrough 68 = .ok (.getfield 16, 3) := by decide +kernel
theorem dLi_shortenThrough_71 : decode bLi_shortenThrough 71 = .ok (.iload_n 3, 1) := by decide +kernel
theorem dLi_shortenThrough_72 : decode bLi_shortenThrough 72 = .ok (.aaload, 1) := by decide +kernel
theorem dLi_shortenThrough_73 : decode bLi_shortenThrough 73 = .ok (.iload_n 1, 1) := by decide +kernel
theorem dLi_shortenThrough_74 : decode bLi_shortenThrough 74 = .ok (.laload, 1) := by decide +kernel
theorem dLi_shortenThrough_75 : decode bLi_shortenThrough 75 = .ok (.aload_n 0, 1) := by decide +kernel
theorem dLi_shortenThrough_76 : decode bLi_shortenThrough 76 = .ok (.getfield 16, 3) := by decide +kernel
theorem dLi_shortenThrough_79 : decode bLi_shortenThrough 79 = .ok (.iload_n 1, 1) := by decide +kernel
theorem dLi_shortenThrough_80 : decode bLi_shortenThrough 80 = .ok (.aaload, 1) := by decide +kernel
theorem dLi_shortenThrough_81 : decode bLi_shortenThrough 81 = .ok (.iload 4, 2) := by decide +kernel
theorem dLi_shortenThrough_83 : decode bLi_shortenThrough 83 = .ok (.laload, 1) := by decide +kernel
theorem dLi_shortenThrough_84 : decode bLi_shortenThrough 84 = .ok (.ladd, 1) := by decide +kernel
theorem dLi_shortenThrough_85 : decode bLi_shortenThrough 85 = .ok (.invokestatic 46, 3) := by decide +kernel
theorem dLi_shortenThrough_88 : decode bLi_shortenThrough 88 = .ok (.lastore, 1) := by decide +kernel
theorem dLi_shortenThrough_95 : decode bLi_shortenThrough 95 = .ok (.iinc 3 1, 3) := by decide +kernel
theorem dLi_shortenThrough_98 : decode bLi_shortenThrough 98 = .ok (.goto (-96), 3) := by decide +kernel
theorem dLi_shortenThrough_22 : decode bLi_shortenThrough 22 = .ok (.goto 73, 3) := by decide +kernel
theorem dLi_shortenThrough_101 : decode bLi_shortenThrough 101 = .ok (.return_, 1) := by decide +kernel
theorem dLi_findBounds_93 : decode bLi_findBounds 93 = .ok (.aload_n 0, 1) := by decide +kernel
theorem dLi_findBounds_94 : decode bLi_findBounds 94 = .ok (.iload_n 1, 1) := by decide +kernel
theorem dLi_findBounds_95 : decode bLi_findBounds 95 = .ok (.invokevirtual 52, 3) := by decide +kernel
theorem dLi_findBounds_98 : decode bLi_findBounds 98 = .ok (.ifCond .ne 7, 3) := by decide +kernel
theorem dLi_findBounds_105 : decode bLi_findBounds 105 = .ok (.iconst 0, 1) := by decide +kernel
theorem dLi_findBounds_106 : decode bLi_findBounds 106 = .ok (.istore_n 2, 1) := by decide +kernel
theorem dLi_findBounds_107 : decode bLi_findBounds 107 = .ok (.iinc 3 1, 3) := by decide +kernel
theorem dLi_findBounds_110 : decode bLi_findBounds 110 = .ok (.goto (-32), 3) := by decide +kernel
theorem dLi_findBounds_101 : decode bLi_findBounds 101 = .ok (.iconst 1, 1) := by decide +kernel
theorem dLi_findBounds_102 : decode bLi_findBounds 102 = .ok (.goto 4, 3) := by decide +kernel
theorem dLi_findBounds_113 : decode bLi_findBounds 113 = .ok (.iload_n 2, 1) := by decide +kernel
theorem dLi_findBounds_114 : decode bLi_findBounds 114 = .ok (.ireturn, 1) := by decide +kernel
theorem dLi_findBounds_70 : decode bLi_findBounds 70 = .ok (.iconst 1, 1) := by decide +kernel
theorem dLi_findBounds_71 : decode bLi_findBounds 71 = .ok (.goto 4, 3) := by decide +kernel
theorem dLi_chooseOffsets_0 : decode bLi_chooseOffsets 0 = .ok (.iconst 0, 1) := by decide +kernel
theorem dLi_chooseOffsets_1 : decode bLi_chooseOffsets 1 = .ok (.istore_n 2, 1) := by decide +kernel
theorem dLi_chooseOffsets_2 : decode bLi_chooseOffsets 2 = .ok (.iload_n 2, 1) := by decide +kernel
theorem dLi_chooseOffsets_3 : decode bLi_chooseOffsets 3 = .ok (.iload_n 1, 1) := by decide +kernel
theorem dLi_chooseOffsets_4 : decode bLi_chooseOffsets 4 = .ok (.if_icmp .ge 127, 3) := by decide +kernel
theorem dLi_chooseOffsets_7 : decode bLi_chooseOffsets 7 = .ok (.ldc2_w 60, 3) := by decide +kernel
theorem dLi_chooseOffsets_10 : decode bLi_chooseOffsets 10 = .ok (.lstore_n 3, 1) := by decide +kernel
theorem dLi_chooseOffsets_11 : decode bLi_chooseOffsets 11 = .ok (.ldc2_w 23, 3) := by decide +kernel
theorem dLi_chooseOffsets_14 : decode bLi_chooseOffsets 14 = .ok (.lstore 5, 2) := by decide +kernel
theorem dLi_chooseOffsets_16 : decode bLi_chooseOffsets 16 = .ok (.iconst 0, 1) := by decide +kernel
theorem dLi_chooseOffsets_17 : decode bLi_chooseOffsets 17 = .ok (.istore 7, 2) := by decide +kernel
theorem dLi_chooseOffsets_19 : decode bLi_chooseOffsets 19 = .ok (.iload 7, 2) := by decide +kernel
theorem dLi_chooseOffsets_21 : decode bLi_chooseOffsets 21 = .ok (.iload_n 2, 1) := by decide +kernel
theorem dLi_chooseOffsets_22 : decode bLi_chooseOffsets 22 = .ok (.if_icmp .ge 87, 3) := by decide +kernel
theorem dLi_chooseOffsets_25 : decode bLi_chooseOffsets 25 = .ok (.aload_n 0, 1) := by decide +kernel
theorem dLi_chooseOffsets_26 : decode bLi_chooseOffsets 26 = .ok (.getfield 16, 3) := by decide +kernel
theorem dLi_chooseOffsets_29 : decode bLi_chooseOffsets 29 = .ok (.iload_n 2, 1) := by decide +kernel
theorem dLi_chooseOffsets_30 : decode bLi_chooseOffsets 30 = .ok (.aaload, 1) := by decide +kernel
theorem dLi_chooseOffsets_31 : decode bLi_chooseOffsets 31 = .ok (.iload 7, 2) := by decide +kernel
theorem dLi_chooseOffsets_33 : decode bLi_chooseOffsets 33 = .ok (.laload, 1) := by decide +kernel
theorem dLi_chooseOffsets_34 : decode bLi_chooseOffsets 34 = .ok (.ldc2_w 23, 3) := by decide +kernel
theorem dLi_chooseOffsets_37 : decode bLi_chooseOffsets 37 = .ok (.lcmp, 1) := by decide +kernel
theorem dLi_chooseOffsets_38 : decode bLi_chooseOffsets 38 = .ok (.ifCond .eq 27, 3) := by decide +kernel
theorem dLi_chooseOffsets_65 : decode bLi_chooseOffsets 65 = .ok (.aload_n 0, 1) := by decide +kernel
theorem dLi_chooseOffsets_66 : decode bLi_chooseOffsets 66 = .ok (.getfield 16, 3) := by decide +kernel
theorem dLi_chooseOffsets_69 : decode bLi_chooseOffsets 69 = .ok (.iload 7, 2) := by decide +kernel
theorem dLi_chooseOffsets_71 : decode bLi_chooseOffsets 71 = .ok (.aaload, 1) := by decide +kernel
theorem dLi_chooseOffsets_72 : decode bLi_chooseOffsets 72 = .ok (.iload_n 2, 1) := by decide +kernel
theorem dLi_chooseOffsets_73 : decode bLi_chooseOffsets 73 = .ok (.laload, 1) := by decide +kernel
theorem dLi_chooseOffsets_74 : decode bLi_chooseOffsets 74 = .ok (.ldc2_w 23, 3) := by decide +kernel
theorem dLi_chooseOffsets_77 : decode bLi_chooseOffsets 77 = .ok (.lcmp, 1) := by decide +kernel
theorem dLi_chooseOffsets_78 : decode bLi_chooseOffsets 78 = .ok (.ifCond .eq 25, 3) := by decide +kernel
theorem dLi_chooseOffsets_103 : decode bLi_chooseOffsets 103 = .ok (.iinc 7 1, 3) := by decide +kernel
theorem dLi_chooseOffsets_106 : decode bLi_chooseOffsets 106 = .ok (.goto (-87), 3) := by decide +kernel
theorem dLi_chooseOffsets_81 : decode bLi_chooseOffsets 81 = .ok (.lload_n 3, 1) := by decide +kernel
theorem dLi_chooseOffsets_82 : decode bLi_chooseOffsets 82 = .ok (.aload_n 0, 1) := by decide +kernel
theorem dLi_chooseOffsets_83 : decode bLi_chooseOffsets 83 = .ok (.getfield 19, 3) := by decide +kernel
theorem dLi_chooseOffsets_86 : decode bLi_chooseOffsets 86 = .ok (.iload 7, 2) := by decide +kernel
theorem dLi_chooseOffsets_88 : decode bLi_chooseOffsets 88 = .ok (.laload, 1) := by decide +kernel
theorem dLi_chooseOffsets_89 : decode bLi_chooseOffsets 89 = .ok (.aload_n 0, 1) := by decide +kernel
theorem dLi_chooseOffsets_90 : decode bLi_chooseOffsets 90 = .ok (.getfield 16, 3) := by decide +kernel
theorem dLi_chooseOffsets_93 : decode bLi_chooseOffsets 93 = .ok (.iload 7, 2) := by decide +kernel
theorem dLi_chooseOffsets_95 : decode bLi_chooseOffsets 95 = .ok (.aaload, 1) := by decide +kernel
theorem dLi_chooseOffsets_96 : decode bLi_chooseOffsets 96 = .ok (.iload_n 2, 1) := by decide +kernel
theorem dLi_chooseOffsets_97 : decode bLi_chooseOffsets 97 = .ok (.laload, 1) := by decide +kernel
theorem dLi_chooseOffsets_98 : decode bLi_chooseOffsets 98 = .ok (.lsub, 1) := by decide +kernel
theorem dLi_chooseOffsets_99 : decode bLi_chooseOffsets 99 = .ok (.invokestatic 62, 3) := by decide +kernel
theorem dLi_chooseOffsets_102 : decode bLi_chooseOffsets 102 = .ok (.lstore_n 3, 1) := by decide +kernel
theorem dLi_chooseOffsets_41 : decode bLi_chooseOffsets 41 = .ok (.lload 5, 2) := by decide +kernel
theorem dLi_chooseOffsets_43 : decode bLi_chooseOffsets 43 = .ok (.aload_n 0, 1) := by decide +kernel
theorem dLi_chooseOffsets_44 : decode bLi_chooseOffsets 44 = .ok (.getfield 19, 3) := by decide +kernel
theorem dLi_chooseOffsets_47 : decode bLi_chooseOffsets 47 = .ok (.iload 7, 2) := by decide +kernel
theorem dLi_chooseOffsets_49 : decode bLi_chooseOffsets 49 = .ok (.laload, 1) := by decide +kernel
theorem dLi_chooseOffsets_50 : decode bLi_chooseOffsets 50 = .ok (.aload_n 0, 1) := by decide +kernel
theorem dLi_chooseOffsets_51 : decode bLi_chooseOffsets 51 = .ok (.getfield 16, 3) := by decide +kernel
theorem dLi_chooseOffsets_54 : decode bLi_chooseOffsets 54 = .ok (.iload_n 2, 1) := by decide +kernel
theorem dLi_chooseOffsets_55 : decode bLi_chooseOffsets 55 = .ok (.aaload, 1) := by decide +kernel
theorem dLi_chooseOffsets_56 : decode bLi_chooseOffsets 56 = .ok (.iload 7, 2) := by decide +kernel
theorem dLi_chooseOffsets_58 : decode bLi_chooseOffsets 58 = .ok (.laload, 1) := by decide +kernel
theorem dLi_chooseOffsets_59 : decode bLi_chooseOffsets 59 = .ok (.ladd, 1) := by decide +kernel
theorem dLi_chooseOffsets_60 : decode bLi_chooseOffsets 60 = .ok (.invokestatic 46, 3) := by decide +kernel
theorem dLi_chooseOffsets_63 : decode bLi_chooseOffsets 63 = .ok (.lstore 5, 2) := by decide +kernel
theorem dLi_chooseOffsets_109 : decode bLi_chooseOffsets 109 = .ok (.aload_n 0, 1) := by decide +kernel
theorem dLi_chooseOffsets_110 : decode bLi_chooseOffsets 110 = .ok (.getfield 19, 3) := by decide +kernel
theorem dLi_chooseOffsets_113 : decode bLi_chooseOffsets 113 = .ok (.iload_n 2, 1) := by decide +kernel
theorem dLi_chooseOffsets_114 : decode bLi_chooseOffsets 114 = .ok (.lload_n 3, 1) := by decide +kernel
theorem dLi_chooseOffsets_115 : decode bLi_chooseOffsets 115 = .ok (.lload 5, 2) := by decide +kernel
theorem dLi_chooseOffsets_117 : decode bLi_chooseOffsets 117 = .ok (.lconst 0, 1) := by decide +kernel
theorem dLi_chooseOffsets_118 : decode bLi_chooseOffsets 118 = .ok (.invokestatic 46, 3) := by decide +kernel
theorem dLi_chooseOffsets_121 : decode bLi_chooseOffsets 121 = .ok (.invokestatic 62, 3) := by decide +kernel
theorem dLi_chooseOffsets_124 : decode bLi_chooseOffsets 124 = .ok (.lastore, 1) := by decide +kernel
theorem dLi_chooseOffsets_125 : decode bLi_chooseOffsets 125 = .ok (.iinc 2 1, 3) := by decide +kernel
theorem dLi_chooseOffsets_128 : decode bLi_chooseOffsets 128 = .ok (.goto (-126), 3) := by decide +kernel
theorem dLi_chooseOffsets_131 : decode bLi_chooseOffsets 131 = .ok (.return_, 1) := by decide +kernel
theorem k_x9 : (.fieldLink RLi 11 RLi "weights" "[[J" : Cond) ∈ TBL := TBL_in (by decide +kernel) (by decide +kernel)
theorem k_x10 : (.constantLong RLi 23 9223372036854775807 : Cond) ∈ TBL := TBL_in (by decide +kernel) (by decide +kernel)
theorem k_x11 : (.fieldLink RLi 25 RNd "count" "I" : Cond) ∈ TBL := TBL_in (by decide +kernel) (by decide +kernel)
theorem k_x12 : (.fieldLink RLi 31 RNd "firsts" "[I" : Cond) ∈ TBL := TBL_in (by decide +kernel) (by decide +kernel)
theorem k_x13 : (.fieldLink RLi 35 RNd "seconds" "[I" : Cond) ∈ TBL := TBL_in (by decide +kernel) (by decide +kernel)
theorem k_x14 : (.fieldLink RLi 38 REv "sources" "[I" : Cond) ∈ TBL := TBL_in (by decide +kernel) (by decide +kernel)
theorem k_x15 : (.fieldLink RLi 43 REv "clocks" "[J" : Cond) ∈ TBL := TBL_in (by decide +kernel) (by decide +kernel)
theorem k_x16 : (.methodLink RLi 46 Lib.MathLoose.min_long.x : Cond) ∈ TBL := TBL_in (by decide +kernel) (by decide +kernel)
theorem k_x17 : (.static Lib.MathLoose.min_long.x : Cond) ∈ TBL := TBL_in (by decide +kernel) (by decide +kernel)
theorem k_x18 : (.initialized "java/lang/Math" : Cond) ∈ TBL := TBL_in (by decide +kernel) (by decide +kernel)
theorem k_x19 : (.code Lib.MathLoose.min_long.x Lib.MathLoose.min_long.code 4 (some .long) : Cond) ∈ TBL := TBL_in (by decide +kernel) (by decide +kernel)
theorem k_x20 : (.fieldLink RLi 16 RLi "bounds" "[[J" : Cond) ∈ TBL := TBL_in (by decide +kernel) (by decide +kernel)
theorem k_x21 : (.code yLi_closesBelowZero bLi_closesBelowZero 3 (some .boolean) : Cond) ∈ TBL := TBL_in (by decide +kernel) (by decide +kernel)
theorem k_x22 : (.initialized yLi_closesBelowZero.cls : Cond) ∈ TBL := TBL_in (by decide +kernel) (by decide +kernel)
theorem k_x23 : (.methodLink RLi 52 yLi_closesBelowZero : Cond) ∈ TBL := TBL_in (by decide +kernel) (by decide +kernel)
theorem k_x24 : (.instanceMethod yLi_closesBelowZero : Cond) ∈ TBL := TBL_in (by decide +kernel) (by decide +kernel)
theorem k_x25 : (.selects RLi yLi_closesBelowZero yLi_closesBelowZero : Cond) ∈ TBL := TBL_in (by decide +kernel) (by decide +kernel)
theorem k_x26 : (.code yLi_shortenThrough bLi_shortenThrough 5 none : Cond) ∈ TBL := TBL_in (by decide +kernel) (by decide +kernel)
theorem k_x27 : (.initialized yLi_shortenThrough.cls : Cond) ∈ TBL := TBL_in (by decide +kernel) (by decide +kernel)
theorem k_x28 : (.methodLink RLi 56 yLi_shortenThrough : Cond) ∈ TBL := TBL_in (by decide +kernel) (by decide +kernel)
theorem k_x29 : (.instanceMethod yLi_shortenThrough : Cond) ∈ TBL := TBL_in (by decide +kernel) (by decide +kernel)
theorem k_x30 : (.selects RLi yLi_shortenThrough yLi_shortenThrough : Cond) ∈ TBL := TBL_in (by decide +kernel) (by decide +kernel)
theorem k_x31 : (.constantLong RLi 60 (-9223372036854775807) : Cond) ∈ TBL := TBL_in (by decide +kernel) (by decide +kernel)
theorem k_x32 : (.fieldLink RLi 19 RLi "offsets" "[J" : Cond) ∈ TBL := TBL_in (by decide +kernel) (by decide +kernel)
theorem k_x33 : (.methodLink RLi 62 Lib.MathLoose.max_long.x : Cond) ∈ TBL := TBL_in (by decide +kernel) (by decide +kernel)
theorem k_x34 : (.static Lib.MathLoose.max_long.x : Cond) ∈ TBL := TBL_in (by decide +kernel) (by decide +kernel)
theorem k_x35 : (.code Lib.MathLoose.max_long.x Lib.MathLoose.max_long.code 4 (some .long) : Cond) ∈ TBL := TBL_in (by decide +kernel) (by decide +kernel)
end
section
/-! EventOrder$Limits.weigh(ILEventOrder$Events;LEventOrder$Needs;)V -/
abbrev rm_Limits_weigh_1_7 : Room := { frames := 1, cells := 0, slots := 0, locals := 40 }
def Limits_weigh_1_7_L12 (v1 : Int32) (v4 : Int32) (Qx : (Nat → Nat → Int64) → Prop) : Nat → Int32 → (Nat → Nat → Int64) → Prop
  | 0, _, _ => False
  | n + 1, v5, wt => ((v1 ≤ v5 → Qx wt) ∧ (¬ v1 ≤ v5 → vp_in v4 16 ∧ vp_in v5 16 ∧ Limits_weigh_1_7_L12 v1 v4 Qx n (v5 + 1) (va_up wt v4.toNatClampNeg (vp_updL (wt v4.toNatClampNeg) v5.toNatClampNeg 9223372036854775807))))

def Limits_weigh_1_7_L3 (v1 : Int32) (Qx : (Nat → Nat → Int64) → Prop) : Nat → Int32 → (Nat → Nat → Int64) → Prop
  | 0, _, _ => False
  | n + 1, v4, wt => ((v1 ≤ v4 → Qx wt) ∧ (¬ v1 ≤ v4 → (∃ n_6 : Nat, Limits_weigh_1_7_L12 v1 v4 (fun (wt_5 : (Nat → Nat → Int64)) => Limits_weigh_1_7_L3 v1 Qx n (v4 + 1) wt_5) n_6 0 wt)))

def Limits_weigh_1_7_L46 (src : (Nat → Int32)) (clk : (Nat → Int64)) (nf : (Nat → Int32)) (ns : (Nat → Int32)) (nc : Int32) (Qx : (Nat → Nat → Int64) → Prop) : Nat → Int32 → (Nat → Nat → Int64) → Prop
  | 0, _, _ => False
  | n + 1, v4, wt => ((nc ≤ v4 → Qx wt) ∧ (¬ nc ≤ v4 → vp_in v4 300 ∧ vp_in v4 300 ∧ vp_in (nf v4.toNatClampNeg) 301 ∧ vp_in (ns v4.toNatClampNeg) 301 ∧ vp_in (ns v4.toNatClampNeg) 301 ∧ vp_in (nf v4.toNatClampNeg) 301 ∧ vp_in (src (nf v4.toNatClampNeg).toNatClampNeg) 16 ∧ vp_in (src (nf v4.toNatClampNeg).toNatClampNeg) 16 ∧ vp_in (src (ns v4.toNatClampNeg).toNatClampNeg) 16 ∧ vp_in (src (ns v4.toNatClampNeg).toNatClampNeg) 16 ∧ Limits_weigh_1_7_L46 src clk nf ns nc Qx n (v4 + 1) (va_up wt ((src (nf v4.toNatClampNeg).toNatClampNeg).toNatClampNeg) (vp_updL (wt ((src (nf v4.toNatClampNeg).toNatClampNeg).toNatClampNeg)) (src (ns v4.toNatClampNeg).toNatClampNeg).toNatClampNeg (if (((clk (ns v4.toNatClampNeg).toNatClampNeg) - (clk (nf v4.toNatClampNeg).toNatClampNeg)) - 1) < ((wt ((src (nf v4.toNatClampNeg).toNatClampNeg).toNatClampNeg)) (src (ns v4.toNatClampNeg).toNatClampNeg).toNatClampNeg) then (((clk (ns v4.toNatClampNeg).toNatClampNeg) - (clk (nf v4.toNatClampNeg).toNatClampNeg)) - 1) else ((wt ((src (nf v4.toNatClampNeg).toNatClampNeg).toNatClampNeg)) (src (ns v4.toNatClampNeg).toNatClampNeg).toNatClampNeg))))))

def Limits_weigh_1_7_wp (src : (Nat → Int32)) (clk : (Nat → Int64)) (nf : (Nat → Int32)) (ns : (Nat → Int32)) (nc : Int32) (wt : (Nat → Nat → Int64)) (a1 : Int32) (Qr : (Nat → Nat → Int64) → Prop) : Prop := (∃ n_21 : Nat, Limits_weigh_1_7_L3 a1 (fun (wt_7 : (Nat → Nat → Int64)) => (∃ n_20 : Nat, Limits_weigh_1_7_L46 src clk nf ns nc (fun (wt_19 : (Nat → Nat → Int64)) => Qr wt_19) n_20 0 wt_7)) n_21 0 wt)
set_option maxHeartbeats 4000000 in
set_option maxRecDepth 100000 in
theorem Limits_weigh_1_7_L12_ok {p : Program} {l : Launch} {e : Env} {s : State} {m : MethodId} {args : Array Value} {below : List Frame} {meth : Method} {c : Code} {Q : State → Prop} {D : va_G} {A : Nat → Prop} {ad : Nat → Nat} {cI cL cO : ClassId} {sc : Int32} {sd : Int32} {src : (Nat → Int32)} {itm : (Nat → Int32)} {knd : (Nat → Int32)} {plc : (Nat → Int32)} {clk : (Nat → Int64)} {ec : Int32} {nf : (Nat → Int32)} {ns : (Nat → Int32)} {nc : Int32} {bd : (Nat → Nat → Int64)} {off : (Nat → Int64)} {row : (Nat → Int32)} {hw : (Nat → Nat → Int64)} {rl : Int32} {tm : (Nat → Int64)} {ord : (Nat → Int32)} {tc : Int32} {v1 : Int32} {v4 : Int32} {Qx : (Nat → Nat → Int64) → Prop} (hC : XC p s m args c D vwCl (tysX cI cL cO) A 11 bLi_weigh TBL RLi)  (hexit : ∀ (wt : (Nat → Nat → Int64)), Qx wt → XW p l e rm_Limits_weigh_1_7 s m args below meth c D vwCl A 11 Q 0 0 (wX ad cI cL cO sc sd src itm knd plc clk ec nf ns nc wt bd off row hw rl tm ord tc) 37 [(0, .ref (ad 10)), (1, .int v1), (2, .ref (ad 1)), (3, .ref (ad 7)), (4, .int v4)] []) : ∀ (n : Nat) (v5 : Int32) (wt : (Nat → Nat → Int64)), Limits_weigh_1_7_L12 v1 v4 Qx n v5 wt → XW p l e rm_Limits_weigh_1_7 s m args below meth c D vwCl A 11 Q 0 0 (wX ad cI cL cO sc sd src itm knd plc clk ec nf ns nc wt bd off row hw rl tm ord tc) 12 [(0, .ref (ad 10)), (1, .int v1), (2, .ref (ad 1)), (3, .ref (ad 7)), (4, .int v4), (5, .int v5)] [] := by
  intro n
  induction n with
  | zero => intro v5 wt h; exact False.elim h
  | succ n ih =>
    intro v5 wt h
    unfold Limits_weigh_1_7_L12 at h
    refine x_iload hC dLi_weigh_12 5 rfl ?_
    refine x_iload_n hC dLi_weigh_14 rfl 1 rfl ?_
    refine x_icmp_ge (tgt := 37) hC dLi_weigh_15 (by decide) (fun c_2 => ?_) (fun c_2 => ?_)
    · have h := h.1 c_2
      refine x_lv [0, 1, 2, 3, 4] rfl ?_
      exact hexit wt h
    · have h := h.2 c_2
      refine x_aload_n hC dLi_weigh_18 rfl 0 rfl ?_
      refine x_get hC iLi 10 wX_10 rfl 0 (by decide) k_x9 rfl rfl dLi_weigh_19 ?_
      refine x_iload hC dLi_weigh_22 4 rfl ?_
      obtain ⟨hb_3, h⟩ := h
      refine x_aald (y := ad (20 + v4.toNatClampNeg)) hC 11 2 wX_11 rfl rfl hb_3 rfl dLi_weigh_24 ?_
      refine x_iload hC dLi_weigh_25 5 rfl ?_
      refine x_ldc2 (v := 9223372036854775807) hC k_x10 dLi_weigh_27 ?_
      obtain ⟨hb_4, h⟩ := h
      refine x_last (ws' := (wX ad cI cL cO sc sd src itm knd plc clk ec nf ns nc (va_up wt v4.toNatClampNeg (vp_updL (wt v4.toNatClampNeg) v5.toNatClampNeg 9223372036854775807)) bd off row hw rl tm ord tc)) hC (20 + v4.toNatClampNeg) 1 (wX_wt (x_in_lt hb_3)) rfl hb_4 (wX_wt_set (x_in_lt hb_3)) dLi_weigh_30 ?_
      refine x_iinc (v := v5 + 1) (lv' := [(5, .int (v5 + 1)), (0, .ref (ad 10)), (1, .int v1), (2, .ref (ad 1)), (3, .ref (ad 7)), (4, .int v4)]) hC dLi_weigh_31 5 rfl rfl (by decide) rfl ?_
      refine x_goto (tgt := 12) hC dLi_weigh_34 (by decide) ?_
      refine x_lv [1, 2, 3, 4, 5, 0] rfl ?_
      exact ih (v5 + 1) (va_up wt v4.toNatClampNeg (vp_updL (wt v4.toNatClampNeg) v5.toNatClampNeg 9223372036854775807)) h

set_option maxHeartbeats 4000000 in
set_option maxRecDepth 100000 in
theorem Limits_weigh_1_7_L3_ok {p : Program} {l : Launch} {e : Env} {s : State} {m : MethodId} {args : Array Value} {below : List Frame} {meth : Method} {c : Code} {Q : State → Prop} {D : va_G} {A : Nat → Prop} {ad : Nat → Nat} {cI cL cO : ClassId} {sc : Int32} {sd : Int32} {src : (Nat → Int32)} {itm : (Nat → Int32)} {knd : (Nat → Int32)} {plc : (Nat → Int32)} {clk : (Nat → Int64)} {ec : Int32} {nf : (Nat → Int32)} {ns : (Nat → Int32)} {nc : Int32} {bd : (Nat → Nat → Int64)} {off : (Nat → Int64)} {row : (Nat → Int32)} {hw : (Nat → Nat → Int64)} {rl : Int32} {tm : (Nat → Int64)} {ord : (Nat → Int32)} {tc : Int32} {v1 : Int32} {Qx : (Nat → Nat → Int64) → Prop} (hC : XC p s m args c D vwCl (tysX cI cL cO) A 11 bLi_weigh TBL RLi)  (hexit : ∀ (wt : (Nat → Nat → Int64)), Qx wt → XW p l e rm_Limits_weigh_1_7 s m args below meth c D vwCl A 11 Q 0 0 (wX ad cI cL cO sc sd src itm knd plc clk ec nf ns nc wt bd off row hw rl tm ord tc) 43 [(0, .ref (ad 10)), (2, .ref (ad 1)), (3, .ref (ad 7))] []) : ∀ (n : Nat) (v4 : Int32) (wt : (Nat → Nat → Int64)), Limits_weigh_1_7_L3 v1 Qx n v4 wt → XW p l e rm_Limits_weigh_1_7 s m args below meth c D vwCl A 11 Q 0 0 (wX ad cI cL cO sc sd src itm knd plc clk ec nf ns nc wt bd off row hw rl tm ord tc) 3 [(0, .ref (ad 10)), (1, .int v1), (2, .ref (ad 1)), (3, .ref (ad 7)), (4, .int v4)] [] := by
  intro n
  induction n with
  | zero => intro v4 wt h; exact False.elim h
  | succ n ih =>
    intro v4 wt h
    unfold Limits_weigh_1_7_L3 at h
    refine x_iload hC dLi_weigh_3 4 rfl ?_
    refine x_iload_n hC dLi_weigh_5 rfl 1 rfl ?_
    refine x_icmp_ge (tgt := 43) hC dLi_weigh_6 (by decide) (fun c_1 => ?_) (fun c_1 => ?_)
    · have h := h.1 c_1
      refine x_lv [0, 2, 3] rfl ?_
      exact hexit wt h
    · have h := h.2 c_1
      refine x_iconst (v := 0) hC dLi_weigh_9 (by decide) ?_
      refine x_istore (lv' := [(5, .int 0), (0, .ref (ad 10)), (1, .int v1), (2, .ref (ad 1)), (3, .ref (ad 7)), (4, .int v4)]) hC dLi_weigh_10 (by decide) rfl ?_
      obtain ⟨n_6, h⟩ := h
      refine x_lv [1, 2, 3, 4, 5, 0] rfl ?_
      refine Limits_weigh_1_7_L12_ok hC (fun wt_5 h => ?_) n_6 0 wt h
      refine x_iinc (v := v4 + 1) (lv' := [(4, .int (v4 + 1)), (0, .ref (ad 10)), (1, .int v1), (2, .ref (ad 1)), (3, .ref (ad 7))]) hC dLi_weigh_37 4 rfl rfl (by decide) rfl ?_
      refine x_goto (tgt := 3) hC dLi_weigh_40 (by decide) ?_
      refine x_lv [1, 2, 3, 4, 0] rfl ?_
      exact ih (v4 + 1) wt_5 h

set_option maxHeartbeats 4000000 in
set_option maxRecDepth 100000 in
theorem Limits_weigh_1_7_L46_ok {p : Program} {l : Launch} {e : Env} {s : State} {m : MethodId} {args : Array Value} {below : List Frame} {meth : Method} {c : Code} {Q : State → Prop} {D : va_G} {A : Nat → Prop} {ad : Nat → Nat} {cI cL cO : ClassId} {sc : Int32} {sd : Int32} {src : (Nat → Int32)} {itm : (Nat → Int32)} {knd : (Nat → Int32)} {plc : (Nat → Int32)} {clk : (Nat → Int64)} {ec : Int32} {nf : (Nat → Int32)} {ns : (Nat → Int32)} {nc : Int32} {bd : (Nat → Nat → Int64)} {off : (Nat → Int64)} {row : (Nat → Int32)} {hw : (Nat → Nat → Int64)} {rl : Int32} {tm : (Nat → Int64)} {ord : (Nat → Int32)} {tc : Int32} {Qx : (Nat → Nat → Int64) → Prop} (hC : XC p s m args c D vwCl (tysX cI cL cO) A 11 bLi_weigh TBL RLi)  (hexit : ∀ (wt : (Nat → Nat → Int64)), Qx wt → XW p l e rm_Limits_weigh_1_7 s m args below meth c D vwCl A 11 Q 0 0 (wX ad cI cL cO sc sd src itm knd plc clk ec nf ns nc wt bd off row hw rl tm ord tc) 141 [] []) : ∀ (n : Nat) (v4 : Int32) (wt : (Nat → Nat → Int64)), Limits_weigh_1_7_L46 src clk nf ns nc Qx n v4 wt → XW p l e rm_Limits_weigh_1_7 s m args below meth c D vwCl A 11 Q 0 0 (wX ad cI cL cO sc sd src itm knd plc clk ec nf ns nc wt bd off row hw rl tm ord tc) 46 [(0, .ref (ad 10)), (2, .ref (ad 1)), (3, .ref (ad 7)), (4, .int v4)] [] := by
  intro n
  induction n with
  | zero => intro v4 wt h; exact False.elim h
  | succ n ih =>
    intro v4 wt h
    unfold Limits_weigh_1_7_L46 at h
    refine x_iload hC dLi_weigh_46 3 rfl ?_
    refine x_aload_n hC dLi_weigh_48 rfl 2 rfl ?_
    refine x_get hC iNd 7 wX_7 rfl 2 (by decide) k_x11 rfl rfl dLi_weigh_49 ?_
    refine x_icmp_ge (tgt := 141) hC dLi_weigh_52 (by decide) (fun c_8 => ?_) (fun c_8 => ?_)
    · have h := h.1 c_8
      refine x_lv [] rfl ?_
      exact hexit wt h
    · have h := h.2 c_8
      refine x_aload_n hC dLi_weigh_55 rfl 2 rfl ?_
      refine x_get hC iNd 7 wX_7 rfl 0 (by decide) k_x12 rfl rfl dLi_weigh_56 ?_
      refine x_iload hC dLi_weigh_59 3 rfl ?_
      obtain ⟨hb_9, h⟩ := h
      refine x_iald hC 8 0 wX_8 rfl hb_9 dLi_weigh_61 ?_
      refine x_istore (lv' := [(5, .int (nf v4.toNatClampNeg)), (0, .ref (ad 10)), (2, .ref (ad 1)), (3, .ref (ad 7)), (4, .int v4)]) hC dLi_weigh_62 (by decide) rfl ?_
      refine x_aload_n hC dLi_weigh_64 rfl 3 rfl ?_
      refine x_get hC iNd 7 wX_7 rfl 1 (by decide) k_x13 rfl rfl dLi_weigh_65 ?_
      refine x_iload hC dLi_weigh_68 4 rfl ?_
      obtain ⟨hb_10, h⟩ := h
      refine x_iald hC 9 0 wX_9 rfl hb_10 dLi_weigh_70 ?_
      refine x_istore (lv' := [(6, .int (ns v4.toNatClampNeg)), (5, .int (nf v4.toNatClampNeg)), (0, .ref (ad 10)), (2, .ref (ad 1)), (3, .ref (ad 7)), (4, .int v4)]) hC dLi_weigh_71 (by decide) rfl ?_
      refine x_aload_n hC dLi_weigh_73 rfl 3 rfl ?_
      refine x_get hC iEv 1 wX_1 rfl 0 (by decide) k_x14 rfl rfl dLi_weigh_74 ?_
      refine x_iload hC dLi_weigh_77 1 rfl ?_
      obtain ⟨hb_11, h⟩ := h
      refine x_iald hC 2 0 wX_2 rfl hb_11 dLi_weigh_79 ?_
      refine x_istore (lv' := [(7, .int (src (nf v4.toNatClampNeg).toNatClampNeg)), (6, .int (ns v4.toNatClampNeg)), (5, .int (nf v4.toNatClampNeg)), (0, .ref (ad 10)), (2, .ref (ad 1)), (3, .ref (ad 7)), (4, .int v4)]) hC dLi_weigh_80 (by decide) rfl ?_
      refine x_aload_n hC dLi_weigh_82 rfl 4 rfl ?_
      refine x_get hC iEv 1 wX_1 rfl 0 (by decide) k_x14 rfl rfl dLi_weigh_83 ?_
      refine x_iload hC dLi_weigh_86 1 rfl ?_
      obtain ⟨hb_12, h⟩ := h
      refine x_iald hC 2 0 wX_2 rfl hb_12 dLi_weigh_88 ?_
      refine x_istore (lv' := [(8, .int (src (ns v4.toNatClampNeg).toNatClampNeg)), (7, .int (src (nf v4.toNatClampNeg).toNatClampNeg)), (6, .int (ns v4.toNatClampNeg)), (5, .int (nf v4.toNatClampNeg)), (0, .ref (ad 10)), (2, .ref (ad 1)), (3, .ref (ad 7)), (4, .int v4)]) hC dLi_weigh_89 (by decide) rfl ?_
      refine x_aload_n hC dLi_weigh_91 rfl 5 rfl ?_
      refine x_get hC iEv 1 wX_1 rfl 4 (by decide) k_x15 rfl rfl dLi_weigh_92 ?_
      refine x_iload hC dLi_weigh_95 2 rfl ?_
      obtain ⟨hb_13, h⟩ := h
      refine x_lald hC 6 1 wX_6 rfl hb_13 dLi_weigh_97 ?_
      refine x_aload_n hC dLi_weigh_98 rfl 5 rfl ?_
      refine x_get hC iEv 1 wX_1 rfl 4 (by decide) k_x15 rfl rfl dLi_weigh_99 ?_
      refine x_iload hC dLi_weigh_102 3 rfl ?_
      obtain ⟨hb_14, h⟩ := h
      refine x_lald hC 6 1 wX_6 rfl hb_14 dLi_weigh_104 ?_
      refine x_lsub hC dLi_weigh_105 ?_
      refine x_lconst (v := 1) hC dLi_weigh_106 (by decide) ?_
      refine x_lsub hC dLi_weigh_107 ?_
      refine x_lstore (lv' := [(9, .long (((clk (ns v4.toNatClampNeg).toNatClampNeg) - (clk (nf v4.toNatClampNeg).toNatClampNeg)) - 1)), (8, .int (src (ns v4.toNatClampNeg).toNatClampNeg)), (7, .int (src (nf v4.toNatClampNeg).toNatClampNeg)), (6, .int (ns v4.toNatClampNeg)), (5, .int (nf v4.toNatClampNeg)), (0, .ref (ad 10)), (2, .ref (ad 1)), (3, .ref (ad 7)), (4, .int v4)]) hC dLi_weigh_108 (by decide) rfl ?_
      refine x_aload_n hC dLi_weigh_110 rfl 5 rfl ?_
      refine x_get hC iLi 10 wX_10 rfl 0 (by decide) k_x9 rfl rfl dLi_weigh_111 ?_
      refine x_iload hC dLi_weigh_114 2 rfl ?_
      obtain ⟨hb_15, h⟩ := h
      refine x_aald (y := ad (20 + (src (nf v4.toNatClampNeg).toNatClampNeg).toNatClampNeg)) hC 11 2 wX_11 rfl rfl hb_15 rfl dLi_weigh_116 ?_
      refine x_iload hC dLi_weigh_117 1 rfl ?_
      refine x_aload_n hC dLi_weigh_119 rfl 5 rfl ?_
      refine x_get hC iLi 10 wX_10 rfl 0 (by decide) k_x9 rfl rfl dLi_weigh_120 ?_
      refine x_iload hC dLi_weigh_123 2 rfl ?_
      obtain ⟨hb_16, h⟩ := h
      refine x_aald (y := ad (20 + (src (nf v4.toNatClampNeg).toNatClampNeg).toNatClampNeg)) hC 11 2 wX_11 rfl rfl hb_16 rfl dLi_weigh_125 ?_
      refine x_iload hC dLi_weigh_126 1 rfl ?_
      obtain ⟨hb_17, h⟩ := h
      refine x_lald hC (20 + ((src (nf v4.toNatClampNeg).toNatClampNeg).toNatClampNeg)) 1 (wX_wt (x_in_lt hb_16)) rfl hb_17 dLi_weigh_128 ?_
      refine x_lload hC dLi_weigh_129 0 rfl ?_
      refine x_mminl hC k_x16 k_x17 k_x18 k_x19 (by decide) (Nat.le_of_ble_eq_true rfl) (by decide) (by decide) dLi_weigh_131 ?_
      obtain ⟨hb_18, h⟩ := h
      refine x_last (ws' := (wX ad cI cL cO sc sd src itm knd plc clk ec nf ns nc (va_up wt ((src (nf v4.toNatClampNeg).toNatClampNeg).toNatClampNeg) (vp_updL (wt ((src (nf v4.toNatClampNeg).toNatClampNeg).toNatClampNeg)) (src (ns v4.toNatClampNeg).toNatClampNeg).toNatClampNeg (if (((clk (ns v4.toNatClampNeg).toNatClampNeg) - (clk (nf v4.toNatClampNeg).toNatClampNeg)) - 1) < ((wt ((src (nf v4.toNatClampNeg).toNatClampNeg).toNatClampNeg)) (src (ns v4.toNatClampNeg).toNatClampNeg).toNatClampNeg) then (((clk (ns v4.toNatClampNeg).toNatClampNeg) - (clk (nf v4.toNatClampNeg).toNatClampNeg)) - 1) else ((wt ((src (nf v4.toNatClampNeg).toNatClampNeg).toNatClampNeg)) (src (ns v4.toNatClampNeg).toNatClampNeg).toNatClampNeg)))) bd off row hw rl tm ord tc)) hC (20 + ((src (nf v4.toNatClampNeg).toNatClampNeg).toNatClampNeg)) 1 (wX_wt (x_in_lt hb_15)) rfl hb_18 (wX_wt_set (x_in_lt hb_15)) dLi_weigh_134 ?_
      refine x_iinc (v := v4 + 1) (lv' := [(4, .int (v4 + 1)), (9, .long (((clk (ns v4.toNatClampNeg).toNatClampNeg) - (clk (nf v4.toNatClampNeg).toNatClampNeg)) - 1)), (8, .int (src (ns v4.toNatClampNeg).toNatClampNeg)), (7, .int (src (nf v4.toNatClampNeg).toNatClampNeg)), (6, .int (ns v4.toNatClampNeg)), (5, .int (nf v4.toNatClampNeg)), (0, .ref (ad 10)), (2, .ref (ad 1)), (3, .ref (ad 7))]) hC dLi_weigh_135 8 rfl rfl (by decide) rfl ?_
      refine x_goto (tgt := 46) hC dLi_weigh_138 (by decide) ?_
      refine x_lv [6, 7, 8, 0] rfl ?_
      exact ih (v4 + 1) (va_up wt ((src (nf v4.toNatClampNeg).toNatClampNeg).toNatClampNeg) (vp_updL (wt ((src (nf v4.toNatClampNeg).toNatClampNeg).toNatClampNeg)) (src (ns v4.toNatClampNeg).toNatClampNeg).toNatClampNeg (if (((clk (ns v4.toNatClampNeg).toNatClampNeg) - (clk (nf v4.toNatClampNeg).toNatClampNeg)) - 1) < ((wt ((src (nf v4.toNatClampNeg).toNatClampNeg).toNatClampNeg)) (src (ns v4.toNatClampNeg).toNatClampNeg).toNatClampNeg) then (((clk (ns v4.toNatClampNeg).toNatClampNeg) - (clk (nf v4.toNatClampNeg).toNatClampNeg)) - 1) else ((wt ((src (nf v4.toNatClampNeg).toNatClampNeg).toNatClampNeg)) (src (ns v4.toNatClampNeg).toNatClampNeg).toNatClampNeg)))) h

set_option maxHeartbeats 4000000 in
set_option maxRecDepth 100000 in
theorem c_Limits_weigh_1_7 {l : Launch} {D : va_G} {ad : Nat → Nat} {cI cL cO : ClassId} {sc : Int32} {sd : Int32} {src : (Nat → Int32)} {itm : (Nat → Int32)} {knd : (Nat → Int32)} {plc : (Nat → Int32)} {clk : (Nat → Int64)} {ec : Int32} {nf : (Nat → Int32)} {ns : (Nat → Int32)} {nc : Int32} {wt : (Nat → Nat → Int64)} {bd : (Nat → Nat → Int64)} {off : (Nat → Int64)} {row : (Nat → Int32)} {hw : (Nat → Nat → Int64)} {rl : Int32} {tm : (Nat → Int64)} {ord : (Nat → Int32)} {tc : Int32} {a1 : Int32} {Qr : (Nat → Nat → Int64) → Prop} (h : Limits_weigh_1_7_wp src clk nf ns nc wt a1 Qr) (sz : Nat) : vx_Met l yLi_weigh (Cond.code yLi_weigh bLi_weigh 11 none :: TBL) rm_Limits_weigh_1_7 (va_Pc [.ref (ad 10), .int a1, .ref (ad 1), .ref (ad 7)] (XP D vwCl (tysX cI cL cO) (wX ad cI cL cO sc sd src itm knd plc clk ec nf ns nc wt bd off row hw rl tm ord tc) sz)) (va_Qv Qr (fun u t => XB D vwCl (tysX cI cL cO) (va_A (wX ad cI cL cO sc sd src itm knd plc clk ec nf ns nc wt bd off row hw rl tm ord tc) sz) (wX ad cI cL cO sc sd src itm knd plc clk ec nf ns nc u bd off row hw rl tm ord tc) t) (va_A (wX ad cI cL cO sc sd src itm knd plc clk ec nf ns nc wt bd off row hw rl tm ord tc) sz)) (XT D vwCl (tysX cI cL cO) (va_A (wX ad cI cL cO sc sd src itm knd plc clk ec nf ns nc wt bd off row hw rl tm ord tc) sz) (wX ad cI cL cO sc sd src itm knd plc clk ec nf ns nc wt bd off row hw rl tm ord tc) (fun _ => False)) rm_Limits_weigh_1_7.cells rm_Limits_weigh_1_7.slots (va_A (wX ad cI cL cO sc sd src itm knd plc clk ec nf ns nc wt bd off row hw rl tm ord tc) sz) := by
  refine x_met [.ref (ad 10), .int a1, .ref (ad 1), .ref (ad 7)] TBL_good (by decide) (Nat.le_of_ble_eq_true rfl) ?_
  intro p e s m args below meth c hC hr hlk hnm hnh
  have hret : ∀ (ce sl : Nat), ce ≤ rm_Limits_weigh_1_7.cells → sl ≤ rm_Limits_weigh_1_7.slots → ∀ (u : (Nat → Nat → Int64)), Qr u → ∀ (pc : Nat) (lv : List (Nat × Value)), decode bLi_weigh pc = .ok (.return_, 1) → XW p l e rm_Limits_weigh_1_7 s m args below meth c D vwCl (va_A (wX ad cI cL cO sc sd src itm knd plc clk ec nf ns nc wt bd off row hw rl tm ord tc) sz) 11 (vx_MQ below (va_Qv Qr (fun u t => XB D vwCl (tysX cI cL cO) (va_A (wX ad cI cL cO sc sd src itm knd plc clk ec nf ns nc wt bd off row hw rl tm ord tc) sz) (wX ad cI cL cO sc sd src itm knd plc clk ec nf ns nc u bd off row hw rl tm ord tc) t) (va_A (wX ad cI cL cO sc sd src itm knd plc clk ec nf ns nc wt bd off row hw rl tm ord tc) sz)) (XT D vwCl (tysX cI cL cO) (va_A (wX ad cI cL cO sc sd src itm knd plc clk ec nf ns nc wt bd off row hw rl tm ord tc) sz) (wX ad cI cL cO sc sd src itm knd plc clk ec nf ns nc wt bd off row hw rl tm ord tc) (fun _ => False)) args s rm_Limits_weigh_1_7.cells rm_Limits_weigh_1_7.slots (va_A (wX ad cI cL cO sc sd src itm knd plc clk ec nf ns nc wt bd off row hw rl tm ord tc) sz)) ce sl (wX ad cI cL cO sc sd src itm knd plc clk ec nf ns nc u bd off row hw rl tm ord tc) pc lv [] := fun ce sl h1 h2 u hq pc lv hd => x_vret (wf := fun u => (wX ad cI cL cO sc sd src itm knd plc clk ec nf ns nc u bd off row hw rl tm ord tc)) hC h1 h2 hr hlk hd hq rfl
  show XW p l e rm_Limits_weigh_1_7 s m args below meth c D vwCl (va_A (wX ad cI cL cO sc sd src itm knd plc clk ec nf ns nc wt bd off row hw rl tm ord tc) sz) 11 _ 0 0 (wX ad cI cL cO sc sd src itm knd plc clk ec nf ns nc wt bd off row hw rl tm ord tc) 0 [(0, .ref (ad 10)), (1, .int a1), (2, .ref (ad 1)), (3, .ref (ad 7))] []
  unfold Limits_weigh_1_7_wp at h
  refine x_iconst (v := 0) hC dLi_weigh_0 (by decide) ?_
  refine x_istore (lv' := [(4, .int 0), (0, .ref (ad 10)), (1, .int a1), (2, .ref (ad 1)), (3, .ref (ad 7))]) hC dLi_weigh_1 (by decide) rfl ?_
  obtain ⟨n_21, h⟩ := h
  refine x_lv [1, 2, 3, 4, 0] rfl ?_
  refine Limits_weigh_1_7_L3_ok hC (fun wt_7 h => ?_) n_21 0 wt h
  refine x_iconst (v := 0) hC dLi_weigh_43 (by decide) ?_
  refine x_istore (lv' := [(4, .int 0), (0, .ref (ad 10)), (2, .ref (ad 1)), (3, .ref (ad 7))]) hC dLi_weigh_44 (by decide) rfl ?_
  obtain ⟨n_20, h⟩ := h
  refine x_lv [1, 2, 3, 0] rfl ?_
  refine Limits_weigh_1_7_L46_ok hC (fun wt_19 h => ?_) n_20 0 wt_7 h
  exact hret _ _ (by decide) (by decide) wt_19 h _ _ dLi_weigh_141

/-! EventOrder$Limits.closesBelowZero(I)Z -/
abbrev rm_Limits_closesBelowZero : Room := { frames := 0, cells := 0, slots := 0, locals := 0 }
def Limits_closesBelowZero_L2 (v1 : Int32) (bd : (Nat → Nat → Int64)) (Qr : Int32 → Unit → Prop) (Qx : Prop) : Nat → Int32 → Prop
  | 0, _ => False
  | n + 1, v2 => ((v1 ≤ v2 → Qx) ∧ (¬ v1 ≤ v2 → vp_in v2 16 ∧ vp_in v2 16 ∧ ((0 ≤ ((bd v2.toNatClampNeg) v2.toNatClampNeg) → Limits_closesBelowZero_L2 v1 bd Qr Qx n (v2 + 1)) ∧ (¬ 0 ≤ ((bd v2.toNatClampNeg) v2.toNatClampNeg) → Qr 1 ()))))

def Limits_closesBelowZero_wp (bd : (Nat → Nat → Int64)) (a1 : Int32) (Qr : Int32 → Unit → Prop) : Prop := (∃ n_5 : Nat, Limits_closesBelowZero_L2 a1 bd Qr (Qr 0 ()) n_5 0)
set_option maxHeartbeats 4000000 in
set_option maxRecDepth 100000 in
theorem Limits_closesBelowZero_L2_ok {p : Program} {l : Launch} {e : Env} {s : State} {m : MethodId} {args : Array Value} {below : List Frame} {meth : Method} {c : Code} {Q : State → Prop} {D : va_G} {A : Nat → Prop} {ad : Nat → Nat} {cI cL cO : ClassId} {sc : Int32} {sd : Int32} {src : (Nat → Int32)} {itm : (Nat → Int32)} {knd : (Nat → Int32)} {plc : (Nat → Int32)} {clk : (Nat → Int64)} {ec : Int32} {nf : (Nat → Int32)} {ns : (Nat → Int32)} {nc : Int32} {wt : (Nat → Nat → Int64)} {bd : (Nat → Nat → Int64)} {off : (Nat → Int64)} {row : (Nat → Int32)} {hw : (Nat → Nat → Int64)} {rl : Int32} {tm : (Nat → Int64)} {ord : (Nat → Int32)} {tc : Int32} {v1 : Int32} {Qr : Int32 → Unit → Prop} {Qx : Prop} (hC : XC p s m args c D vwCl (tysX cI cL cO) A 3 bLi_closesBelowZero TBL RLi) (hret : ∀ (r : Int32) (u : Unit), x_bool r → Qr r u → ∀ (pc : Nat) (lv : List (Nat × Value)), decode bLi_closesBelowZero pc = .ok (.ireturn, 1) → XW p l e rm_Limits_closesBelowZero s m args below meth c D vwCl A 3 Q 0 0 (wX ad cI cL cO sc sd src itm knd plc clk ec nf ns nc wt bd off row hw rl tm ord tc) pc lv [.int r]) (hexit : Qx → XW p l e rm_Limits_closesBelowZero s m args below meth c D vwCl A 3 Q 0 0 (wX ad cI cL cO sc sd src itm knd plc clk ec nf ns nc wt bd off row hw rl tm ord tc) 28 [] []) : ∀ (n : Nat) (v2 : Int32), Limits_closesBelowZero_L2 v1 bd Qr Qx n v2 → XW p l e rm_Limits_closesBelowZero s m args below meth c D vwCl A 3 Q 0 0 (wX ad cI cL cO sc sd src itm knd plc clk ec nf ns nc wt bd off row hw rl tm ord tc) 2 [(0, .ref (ad 10)), (1, .int v1), (2, .int v2)] [] := by
  intro n
  induction n with
  | zero => intro v2 h; exact False.elim h
  | succ n ih =>
    intro v2 h
    unfold Limits_closesBelowZero_L2 at h
    refine x_iload_n hC dLi_closesBelowZero_2 rfl 2 rfl ?_
    refine x_iload_n hC dLi_closesBelowZero_3 rfl 1 rfl ?_
    refine x_icmp_ge (tgt := 28) hC dLi_closesBelowZero_4 (by decide) (fun c_1 => ?_) (fun c_1 => ?_)
    · have h := h.1 c_1
      refine x_lv [] rfl ?_
      exact hexit  h
    · have h := h.2 c_1
      refine x_aload_n hC dLi_closesBelowZero_7 rfl 0 rfl ?_
      refine x_get hC iLi 10 wX_10 rfl 1 (by decide) k_x20 rfl rfl dLi_closesBelowZero_8 ?_
      refine x_iload_n hC dLi_closesBelowZero_11 rfl 2 rfl ?_
      obtain ⟨hb_2, h⟩ := h
      refine x_aald (y := ad (36 + v2.toNatClampNeg)) hC 12 2 wX_12 rfl rfl hb_2 rfl dLi_closesBelowZero_12 ?_
      refine x_iload_n hC dLi_closesBelowZero_13 rfl 2 rfl ?_
      obtain ⟨hb_3, h⟩ := h
      refine x_lald hC (36 + v2.toNatClampNeg) 1 (wX_bd (x_in_lt hb_2)) rfl hb_3 dLi_closesBelowZero_14 ?_
      refine x_lconst (v := 0) hC dLi_closesBelowZero_15 (by decide) ?_
      refine x_lcmp_ge (tgt := 22) hC dLi_closesBelowZero_16 dLi_closesBelowZero_17 (by decide) (fun c_4 => ?_) (fun c_4 => ?_)
      · have h := h.1 c_4
        refine x_iinc (v := v2 + 1) (lv' := [(2, .int (v2 + 1)), (0, .ref (ad 10)), (1, .int v1)]) hC dLi_closesBelowZero_22 2 rfl rfl (by decide) rfl ?_
        refine x_goto (tgt := 2) hC dLi_closesBelowZero_25 (by decide) ?_
        refine x_lv [1, 2, 0] rfl ?_
        exact ih (v2 + 1) h
      · have h := h.2 c_4
        refine x_iconst (v := 1) hC dLi_closesBelowZero_20 (by decide) ?_
        exact hret 1 () (Or.inr rfl) h _ _ dLi_closesBelowZero_21

set_option maxHeartbeats 4000000 in
set_option maxRecDepth 100000 in
theorem c_Limits_closesBelowZero {l : Launch} {D : va_G} {ad : Nat → Nat} {cI cL cO : ClassId} {sc : Int32} {sd : Int32} {src : (Nat → Int32)} {itm : (Nat → Int32)} {knd : (Nat → Int32)} {plc : (Nat → Int32)} {clk : (Nat → Int64)} {ec : Int32} {nf : (Nat → Int32)} {ns : (Nat → Int32)} {nc : Int32} {wt : (Nat → Nat → Int64)} {bd : (Nat → Nat → Int64)} {off : (Nat → Int64)} {row : (Nat → Int32)} {hw : (Nat → Nat → Int64)} {rl : Int32} {tm : (Nat → Int64)} {ord : (Nat → Int32)} {tc : Int32} {a1 : Int32} {Qr : Int32 → Unit → Prop} (h : Limits_closesBelowZero_wp bd a1 Qr) (sz : Nat) : vx_Met l yLi_closesBelowZero (Cond.code yLi_closesBelowZero bLi_closesBelowZero 3 (some .boolean) :: TBL) rm_Limits_closesBelowZero (va_Pc [.ref (ad 10), .int a1] (XP D vwCl (tysX cI cL cO) (wX ad cI cL cO sc sd src itm knd plc clk ec nf ns nc wt bd off row hw rl tm ord tc) sz)) (va_Qi Qr (fun u t => XB D vwCl (tysX cI cL cO) (va_A (wX ad cI cL cO sc sd src itm knd plc clk ec nf ns nc wt bd off row hw rl tm ord tc) sz) (wX ad cI cL cO sc sd src itm knd plc clk ec nf ns nc wt bd off row hw rl tm ord tc) t) (va_A (wX ad cI cL cO sc sd src itm knd plc clk ec nf ns nc wt bd off row hw rl tm ord tc) sz)) (XT D vwCl (tysX cI cL cO) (va_A (wX ad cI cL cO sc sd src itm knd plc clk ec nf ns nc wt bd off row hw rl tm ord tc) sz) (wX ad cI cL cO sc sd src itm knd plc clk ec nf ns nc wt bd off row hw rl tm ord tc) (fun _ => False)) rm_Limits_closesBelowZero.cells rm_Limits_closesBelowZero.slots (va_A (wX ad cI cL cO sc sd src itm knd plc clk ec nf ns nc wt bd off row hw rl tm ord tc) sz) := by
  refine x_met [.ref (ad 10), .int a1] TBL_good (by decide) (Nat.le_of_ble_eq_true rfl) ?_
  intro p e s m args below meth c hC hr hlk hnm hnh
  have hret : ∀ (ce sl : Nat), ce ≤ rm_Limits_closesBelowZero.cells → sl ≤ rm_Limits_closesBelowZero.slots → ∀ (r : Int32) (u : Unit), x_bool r → Qr r u → ∀ (pc : Nat) (lv : List (Nat × Value)), decode bLi_closesBelowZero pc = .ok (.ireturn, 1) → XW p l e rm_Limits_closesBelowZero s m args below meth c D vwCl (va_A (wX ad cI cL cO sc sd src itm knd plc clk ec nf ns nc wt bd off row hw rl tm ord tc) sz) 3 (vx_MQ below (va_Qi Qr (fun u t => XB D vwCl (tysX cI cL cO) (va_A (wX ad cI cL cO sc sd src itm knd plc clk ec nf ns nc wt bd off row hw rl tm ord tc) sz) (wX ad cI cL cO sc sd src itm knd plc clk ec nf ns nc wt bd off row hw rl tm ord tc) t) (va_A (wX ad cI cL cO sc sd src itm knd plc clk ec nf ns nc wt bd off row hw rl tm ord tc) sz)) (XT D vwCl (tysX cI cL cO) (va_A (wX ad cI cL cO sc sd src itm knd plc clk ec nf ns nc wt bd off row hw rl tm ord tc) sz) (wX ad cI cL cO sc sd src itm knd plc clk ec nf ns nc wt bd off row hw rl tm ord tc) (fun _ => False)) args s rm_Limits_closesBelowZero.cells rm_Limits_closesBelowZero.slots (va_A (wX ad cI cL cO sc sd src itm knd plc clk ec nf ns nc wt bd off row hw rl tm ord tc) sz)) ce sl (wX ad cI cL cO sc sd src itm knd plc clk ec nf ns nc wt bd off row hw rl tm ord tc) pc lv [.int r] := fun ce sl h1 h2 r u hb9 hq pc lv hd => x_zret (wf := fun u => (wX ad cI cL cO sc sd src itm knd plc clk ec nf ns nc wt bd off row hw rl tm ord tc)) hC h1 h2 hr hlk hb9 hd hq rfl
  show XW p l e rm_Limits_closesBelowZero s m args below meth c D vwCl (va_A (wX ad cI cL cO sc sd src itm knd plc clk ec nf ns nc wt bd off row hw rl tm ord tc) sz) 3 _ 0 0 (wX ad cI cL cO sc sd src itm knd plc clk ec nf ns nc wt bd off row hw rl tm ord tc) 0 [(0, .ref (ad 10)), (1, .int a1)] []
  unfold Limits_closesBelowZero_wp at h
  refine x_iconst (v := 0) hC dLi_closesBelowZero_0 (by decide) ?_
  refine x_istore_n (lv' := [(2, .int 0), (0, .ref (ad 10)), (1, .int a1)]) hC dLi_closesBelowZero_1 rfl (by decide) rfl ?_
  obtain ⟨n_5, h⟩ := h
  refine x_lv [1, 2, 0] rfl ?_
  refine Limits_closesBelowZero_L2_ok hC (hret _ _ (by decide) (by decide)) (fun h => ?_) n_5 0 h
  refine x_iconst (v := 0) hC dLi_closesBelowZero_28 (by decide) ?_
  exact hret _ _ (by decide) (by decide) 0 () (Or.inl rfl) h _ _ dLi_closesBelowZero_29

/-! EventOrder$Limits.shortenThrough(II)V -/
abbrev rm_Limits_shortenThrough : Room := { frames := 1, cells := 0, slots := 0, locals := 40 }
def Limits_shortenThrough_L28 (v1 : Int32) (v2 : Int32) (v3 : Int32) (Qx : (Nat → Nat → Int64) → Prop) : Nat → Int32 → (Nat → Nat → Int64) → Prop
  | 0, _, _ => False
  | n + 1, v4, bd => ((v2 ≤ v4 → Qx bd) ∧ (¬ v2 ≤ v4 → vp_in v1 16 ∧ vp_in v4 16 ∧ ((((bd v1.toNatClampNeg) v4.toNatClampNeg) = 9223372036854775807 → Limits_shortenThrough_L28 v1 v2 v3 Qx n (v4 + 1) bd) ∧ (¬ ((bd v1.toNatClampNeg) v4.toNatClampNeg) = 9223372036854775807 → vp_in v3 16 ∧ vp_in v3 16 ∧ vp_in v4 16 ∧ vp_in v3 16 ∧ vp_in v1 16 ∧ vp_in v1 16 ∧ vp_in v4 16 ∧ vp_in v4 16 ∧ Limits_shortenThrough_L28 v1 v2 v3 Qx n (v4 + 1) (va_up bd v3.toNatClampNeg (vp_updL (bd v3.toNatClampNeg) v4.toNatClampNeg (if (((bd v3.toNatClampNeg) v1.toNatClampNeg) + ((bd v1.toNatClampNeg) v4.toNatClampNeg)) < ((bd v3.toNatClampNeg) v4.toNatClampNeg) then (((bd v3.toNatClampNeg) v1.toNatClampNeg) + ((bd v1.toNatClampNeg) v4.toNatClampNeg)) else ((bd v3.toNatClampNeg) v4.toNatClampNeg))))))))

def Limits_shortenThrough_L2 (v1 : Int32) (v2 : Int32) (Qx : (Nat → Nat → Int64) → Prop) : Nat → Int32 → (Nat → Nat → Int64) → Prop
  | 0, _, _ => False
  | n + 1, v3, bd => ((v2 ≤ v3 → Qx bd) ∧ (¬ v2 ≤ v3 → vp_in v3 16 ∧ vp_in v1 16 ∧ ((¬ ((bd v3.toNatClampNeg) v1.toNatClampNeg) = 9223372036854775807 → (∃ n_18 : Nat, Limits_shortenThrough_L28 v1 v2 v3 (fun (bd_17 : (Nat → Nat → Int64)) => Limits_shortenThrough_L2 v1 v2 Qx n (v3 + 1) bd_17) n_18 0 bd)) ∧ (((bd v3.toNatClampNeg) v1.toNatClampNeg) = 9223372036854775807 → Limits_shortenThrough_L2 v1 v2 Qx n (v3 + 1) bd))))

def Limits_shortenThrough_wp (bd : (Nat → Nat → Int64)) (a1 : Int32) (a2 : Int32) (Qr : (Nat → Nat → Int64) → Prop) : Prop := (∃ n_20 : Nat, Limits_shortenThrough_L2 a1 a2 (fun (bd_19 : (Nat → Nat → Int64)) => Qr bd_19) n_20 0 bd)
set_option maxHeartbeats 4000000 in
set_option maxRecDepth 100000 in
theorem Limits_shortenThrough_L28_ok {p : Program} {l : Launch} {e : Env} {s : State} {m : MethodId} {args : Array Value} {below : List Frame} {meth : Method} {c : Code} {Q : State → Prop} {D : va_G} {A : Nat → Prop} {ad : Nat → Nat} {cI cL cO : ClassId} {sc : Int32} {sd : Int32} {src : (Nat → Int32)} {itm : (Nat → Int32)} {knd : (Nat → Int32)} {plc : (Nat → Int32)} {clk : (Nat → Int64)} {ec : Int32} {nf : (Nat → Int32)} {ns : (Nat → Int32)} {nc : Int32} {wt : (Nat → Nat → Int64)} {off : (Nat → Int64)} {row : (Nat → Int32)} {hw : (Nat → Nat → Int64)} {rl : Int32} {tm : (Nat → Int64)} {ord : (Nat → Int32)} {tc : Int32} {v1 : Int32} {v2 : Int32} {v3 : Int32} {Qx : (Nat → Nat → Int64) → Prop} (hC : XC p s m args c D vwCl (tysX cI cL cO) A 5 bLi_shortenThrough TBL RLi)  (hexit : ∀ (bd : (Nat → Nat → Int64)), Qx bd → XW p l e rm_Limits_shortenThrough s m args below meth c D vwCl A 5 Q 0 0 (wX ad cI cL cO sc sd src itm knd plc clk ec nf ns nc wt bd off row hw rl tm ord tc) 95 [(0, .ref (ad 10)), (1, .int v1), (2, .int v2), (3, .int v3)] []) : ∀ (n : Nat) (v4 : Int32) (bd : (Nat → Nat → Int64)), Limits_shortenThrough_L28 v1 v2 v3 Qx n v4 bd → XW p l e rm_Limits_shortenThrough s m args below meth c D vwCl A 5 Q 0 0 (wX ad cI cL cO sc sd src itm knd plc clk ec nf ns nc wt bd off row hw rl tm ord tc) 28 [(0, .ref (ad 10)), (1, .int v1), (2, .int v2), (3, .int v3), (4, .int v4)] [] := by
  intro n
  induction n with
  | zero => intro v4 bd h; exact False.elim h
  | succ n ih =>
    intro v4 bd h
    unfold Limits_shortenThrough_L28 at h
    refine x_iload hC dLi_shortenThrough_28 4 rfl ?_
    refine x_iload_n hC dLi_shortenThrough_30 rfl 2 rfl ?_
    refine x_icmp_ge (tgt := 95) hC dLi_shortenThrough_31 (by decide) (fun c_5 => ?_) (fun c_5 => ?_)
    · have h := h.1 c_5
      refine x_lv [0, 1, 2, 3] rfl ?_
      exact hexit bd h
    · have h := h.2 c_5
      refine x_aload_n hC dLi_shortenThrough_34 rfl 0 rfl ?_
      refine x_get hC iLi 10 wX_10 rfl 1 (by decide) k_x20 rfl rfl dLi_shortenThrough_35 ?_
      refine x_iload_n hC dLi_shortenThrough_38 rfl 1 rfl ?_
      obtain ⟨hb_6, h⟩ := h
      refine x_aald (y := ad (36 + v1.toNatClampNeg)) hC 12 2 wX_12 rfl rfl hb_6 rfl dLi_shortenThrough_39 ?_
      refine x_iload hC dLi_shortenThrough_40 4 rfl ?_
      obtain ⟨hb_7, h⟩ := h
      refine x_lald hC (36 + v1.toNatClampNeg) 1 (wX_bd (x_in_lt hb_6)) rfl hb_7 dLi_shortenThrough_42 ?_
      refine x_ldc2 (v := 9223372036854775807) hC k_x10 dLi_shortenThrough_43 ?_
      refine x_lcmp_eq (tgt := 89) hC dLi_shortenThrough_46 dLi_shortenThrough_47 (by decide) (fun c_8 => ?_) (fun c_8 => ?_)
      · have h := h.1 c_8
        refine x_iinc (v := v4 + 1) (lv' := [(4, .int (v4 + 1)), (0, .ref (ad 10)), (1, .int v1), (2, .int v2), (3, .int v3)]) hC dLi_shortenThrough_89 4 rfl rfl (by decide) rfl ?_
        refine x_goto (tgt := 28) hC dLi_shortenThrough_92 (by decide) ?_
        refine x_lv [1, 2, 3, 4, 0] rfl ?_
        exact ih (v4 + 1) bd h
      · have h := h.2 c_8
        refine x_aload_n hC dLi_shortenThrough_50 rfl 0 rfl ?_
        refine x_get hC iLi 10 wX_10 rfl 1 (by decide) k_x20 rfl rfl dLi_shortenThrough_51 ?_
        refine x_iload_n hC dLi_shortenThrough_54 rfl 3 rfl ?_
        obtain ⟨hb_9, h⟩ := h
        refine x_aald (y := ad (36 + v3.toNatClampNeg)) hC 12 2 wX_12 rfl rfl hb_9 rfl dLi_shortenThrough_55 ?_
        refine x_iload hC dLi_shortenThrough_56 4 rfl ?_
        refine x_aload_n hC dLi_shortenThrough_58 rfl 0 rfl ?_
        refine x_get hC iLi 10 wX_10 rfl 1 (by decide) k_x20 rfl rfl dLi_shortenThrough_59 ?_
        refine x_iload_n hC dLi_shortenThrough_62 rfl 3 rfl ?_
        obtain ⟨hb_10, h⟩ := h
        refine x_aald (y := ad (36 + v3.toNatClampNeg)) hC 12 2 wX_12 rfl rfl hb_10 rfl dLi_shortenThrough_63 ?_
        refine x_iload hC dLi_shortenThrough_64 4 rfl ?_
        obtain ⟨hb_11, h⟩ := h
        refine x_lald hC (36 + v3.toNatClampNeg) 1 (wX_bd (x_in_lt hb_10)) rfl hb_11 dLi_shortenThrough_66 ?_
        refine x_aload_n hC dLi_shortenThrough_67 rfl 0 rfl ?_
        refine x_get hC iLi 10 wX_10 rfl 1 (by decide) k_x20 rfl rfl dLi_shortenThrough_68 ?_
        refine x_iload_n hC dLi_shortenThrough_71 rfl 3 rfl ?_
        obtain ⟨hb_12, h⟩ := h
        refine x_aald (y := ad (36 + v3.toNatClampNeg)) hC 12 2 wX_12 rfl rfl hb_12 rfl dLi_shortenThrough_72 ?_
        refine x_iload_n hC dLi_shortenThrough_73 rfl 1 rfl ?_
        obtain ⟨hb_13, h⟩ := h
        refine x_lald hC (36 + v3.toNatClampNeg) 1 (wX_bd (x_in_lt hb_12)) rfl hb_13 dLi_shortenThrough_74 ?_
        refine x_aload_n hC dLi_shortenThrough_75 rfl 0 rfl ?_
        refine x_get hC iLi 10 wX_10 rfl 1 (by decide) k_x20 rfl rfl dLi_shortenThrough_76 ?_
        refine x_iload_n hC dLi_shortenThrough_79 rfl 1 rfl ?_
        obtain ⟨hb_14, h⟩ := h
        refine x_aald (y := ad (36 + v1.toNatClampNeg)) hC 12 2 wX_12 rfl rfl hb_14 rfl dLi_shortenThrough_80 ?_
        refine x_iload hC dLi_shortenThrough_81 4 rfl ?_
        obtain ⟨hb_15, h⟩ := h
        refine x_lald hC (36 + v1.toNatClampNeg) 1 (wX_bd (x_in_lt hb_14)) rfl hb_15 dLi_shortenThrough_83 ?_
        refine x_ladd hC dLi_shortenThrough_84 ?_
        refine x_mminl hC k_x16 k_x17 k_x18 k_x19 (by decide) (Nat.le_of_ble_eq_true rfl) (by decide) (by decide) dLi_shortenThrough_85 ?_
        obtain ⟨hb_16, h⟩ := h
        refine x_last (ws' := (wX ad cI cL cO sc sd src itm knd plc clk ec nf ns nc wt (va_up bd v3.toNatClampNeg (vp_updL (bd v3.toNatClampNeg) v4.toNatClampNeg (if (((bd v3.toNatClampNeg) v1.toNatClampNeg) + ((bd v1.toNatClampNeg) v4.toNatClampNeg)) < ((bd v3.toNatClampNeg) v4.toNatClampNeg) then (((bd v3.toNatClampNeg) v1.toNatClampNeg) + ((bd v1.toNatClampNeg) v4.toNatClampNeg)) else ((bd v3.toNatClampNeg) v4.toNatClampNeg)))) off row hw rl tm ord tc)) hC (36 + v3.toNatClampNeg) 1 (wX_bd (x_in_lt hb_9)) rfl hb_16 (wX_bd_set (x_in_lt hb_9)) dLi_shortenThrough_88 ?_
        refine x_iinc (v := v4 + 1) (lv' := [(4, .int (v4 + 1)), (0, .ref (ad 10)), (1, .int v1), (2, .int v2), (3, .int v3)]) hC dLi_shortenThrough_89 4 rfl rfl (by decide) rfl ?_
        refine x_goto (tgt := 28) hC dLi_shortenThrough_92 (by decide) ?_
        refine x_lv [1, 2, 3, 4, 0] rfl ?_
        exact ih (v4 + 1) (va_up bd v3.toNatClampNeg (vp_updL (bd v3.toNatClampNeg) v4.toNatClampNeg (if (((bd v3.toNatClampNeg) v1.toNatClampNeg) + ((bd v1.toNatClampNeg) v4.toNatClampNeg)) < ((bd v3.toNatClampNeg) v4.toNatClampNeg) then (((bd v3.toNatClampNeg) v1.toNatClampNeg) + ((bd v1.toNatClampNeg) v4.toNatClampNeg)) else ((bd v3.toNatClampNeg) v4.toNatClampNeg)))) h

set_option maxHeartbeats 4000000 in
set_option maxRecDepth 100000 in
theorem Limits_shortenThrough_L2_ok {p : Program} {l : Launch} {e : Env} {s : State} {m : MethodId} {args : Array Value} {below : List Frame} {meth : Method} {c : Code} {Q : State → Prop} {D : va_G} {A : Nat → Prop} {ad : Nat → Nat} {cI cL cO : ClassId} {sc : Int32} {sd : Int32} {src : (Nat → Int32)} {itm : (Nat → Int32)} {knd : (Nat → Int32)} {plc : (Nat → Int32)} {clk : (Nat → Int64)} {ec : Int32} {nf : (Nat → Int32)} {ns : (Nat → Int32)} {nc : Int32} {wt : (Nat → Nat → Int64)} {off : (Nat → Int64)} {row : (Nat → Int32)} {hw : (Nat → Nat → Int64)} {rl : Int32} {tm : (Nat → Int64)} {ord : (Nat → Int32)} {tc : Int32} {v1 : Int32} {v2 : Int32} {Qx : (Nat → Nat → Int64) → Prop} (hC : XC p s m args c D vwCl (tysX cI cL cO) A 5 bLi_shortenThrough TBL RLi)  (hexit : ∀ (bd : (Nat → Nat → Int64)), Qx bd → XW p l e rm_Limits_shortenThrough s m args below meth c D vwCl A 5 Q 0 0 (wX ad cI cL cO sc sd src itm knd plc clk ec nf ns nc wt bd off row hw rl tm ord tc) 101 [] []) : ∀ (n : Nat) (v3 : Int32) (bd : (Nat → Nat → Int64)), Limits_shortenThrough_L2 v1 v2 Qx n v3 bd → XW p l e rm_Limits_shortenThrough s m args below meth c D vwCl A 5 Q 0 0 (wX ad cI cL cO sc sd src itm knd plc clk ec nf ns nc wt bd off row hw rl tm ord tc) 2 [(0, .ref (ad 10)), (1, .int v1), (2, .int v2), (3, .int v3)] [] := by
  intro n
  induction n with
  | zero => intro v3 bd h; exact False.elim h
  | succ n ih =>
    intro v3 bd h
    unfold Limits_shortenThrough_L2 at h
    refine x_iload_n hC dLi_shortenThrough_2 rfl 3 rfl ?_
    refine x_iload_n hC dLi_shortenThrough_3 rfl 2 rfl ?_
    refine x_icmp_ge (tgt := 101) hC dLi_shortenThrough_4 (by decide) (fun c_1 => ?_) (fun c_1 => ?_)
    · have h := h.1 c_1
      refine x_lv [] rfl ?_
      exact hexit bd h
    · have h := h.2 c_1
      refine x_aload_n hC dLi_shortenThrough_7 rfl 0 rfl ?_
      refine x_get hC iLi 10 wX_10 rfl 1 (by decide) k_x20 rfl rfl dLi_shortenThrough_8 ?_
      refine x_iload_n hC dLi_shortenThrough_11 rfl 3 rfl ?_
      obtain ⟨hb_2, h⟩ := h
      refine x_aald (y := ad (36 + v3.toNatClampNeg)) hC 12 2 wX_12 rfl rfl hb_2 rfl dLi_shortenThrough_12 ?_
      refine x_iload_n hC dLi_shortenThrough_13 rfl 1 rfl ?_
      obtain ⟨hb_3, h⟩ := h
      refine x_lald hC (36 + v3.toNatClampNeg) 1 (wX_bd (x_in_lt hb_2)) rfl hb_3 dLi_shortenThrough_14 ?_
      refine x_ldc2 (v := 9223372036854775807) hC k_x10 dLi_shortenThrough_15 ?_
      refine x_lcmp_ne (tgt := 25) hC dLi_shortenThrough_18 dLi_shortenThrough_19 (by decide) (fun c_4 => ?_) (fun c_4 => ?_)
      · have h := h.1 c_4
        refine x_iconst (v := 0) hC dLi_shortenThrough_25 (by decide) ?_
        refine x_istore (lv' := [(4, .int 0), (0, .ref (ad 10)), (1, .int v1), (2, .int v2), (3, .int v3)]) hC dLi_shortenThrough_26 (by decide) rfl ?_
        obtain ⟨n_18, h⟩ := h
        refine x_lv [1, 2, 3, 4, 0] rfl ?_
        refine Limits_shortenThrough_L28_ok hC (fun bd_17 h => ?_) n_18 0 bd h
        refine x_iinc (v := v3 + 1) (lv' := [(3, .int (v3 + 1)), (0, .ref (ad 10)), (1, .int v1), (2, .int v2)]) hC dLi_shortenThrough_95 3 rfl rfl (by decide) rfl ?_
        refine x_goto (tgt := 2) hC dLi_shortenThrough_98 (by decide) ?_
        refine x_lv [1, 2, 3, 0] rfl ?_
        exact ih (v3 + 1) bd_17 h
      · have h := h.2 c_4
        refine x_goto (tgt := 95) hC dLi_shortenThrough_22 (by decide) ?_
        refine x_iinc (v := v3 + 1) (lv' := [(3, .int (v3 + 1)), (0, .ref (ad 10)), (1, .int v1), (2, .int v2)]) hC dLi_shortenThrough_95 3 rfl rfl (by decide) rfl ?_
        refine x_goto (tgt := 2) hC dLi_shortenThrough_98 (by decide) ?_
        refine x_lv [1, 2, 3, 0] rfl ?_
        exact ih (v3 + 1) bd h

set_option maxHeartbeats 4000000 in
set_option maxRecDepth 100000 in
theorem c_Limits_shortenThrough {l : Launch} {D : va_G} {ad : Nat → Nat} {cI cL cO : ClassId} {sc : Int32} {sd : Int32} {src : (Nat → Int32)} {itm : (Nat → Int32)} {knd : (Nat → Int32)} {plc : (Nat → Int32)} {clk : (Nat → Int64)} {ec : Int32} {nf : (Nat → Int32)} {ns : (Nat → Int32)} {nc : Int32} {wt : (Nat → Nat → Int64)} {bd : (Nat → Nat → Int64)} {off : (Nat → Int64)} {row : (Nat → Int32)} {hw : (Nat → Nat → Int64)} {rl : Int32} {tm : (Nat → Int64)} {ord : (Nat → Int32)} {tc : Int32} {a1 : Int32} {a2 : Int32} {Qr : (Nat → Nat → Int64) → Prop} (h : Limits_shortenThrough_wp bd a1 a2 Qr) (sz : Nat) : vx_Met l yLi_shortenThrough (Cond.code yLi_shortenThrough bLi_shortenThrough 5 none :: TBL) rm_Limits_shortenThrough (va_Pc [.ref (ad 10), .int a1, .int a2] (XP D vwCl (tysX cI cL cO) (wX ad cI cL cO sc sd src itm knd plc clk ec nf ns nc wt bd off row hw rl tm ord tc) sz)) (va_Qv Qr (fun u t => XB D vwCl (tysX cI cL cO) (va_A (wX ad cI cL cO sc sd src itm knd plc clk ec nf ns nc wt bd off row hw rl tm ord tc) sz) (wX ad cI cL cO sc sd src itm knd plc clk ec nf ns nc wt u off row hw rl tm ord tc) t) (va_A (wX ad cI cL cO sc sd src itm knd plc clk ec nf ns nc wt bd off row hw rl tm ord tc) sz)) (XT D vwCl (tysX cI cL cO) (va_A (wX ad cI cL cO sc sd src itm knd plc clk ec nf ns nc wt bd off row hw rl tm ord tc) sz) (wX ad cI cL cO sc sd src itm knd plc clk ec nf ns nc wt bd off row hw rl tm ord tc) (fun _ => False)) rm_Limits_shortenThrough.cells rm_Limits_shortenThrough.slots (va_A (wX ad cI cL cO sc sd src itm knd plc clk ec nf ns nc wt bd off row hw rl tm ord tc) sz) := by
  refine x_met [.ref (ad 10), .int a1, .int a2] TBL_good (by decide) (Nat.le_of_ble_eq_true rfl) ?_
  intro p e s m args below meth c hC hr hlk hnm hnh
  have hret : ∀ (ce sl : Nat), ce ≤ rm_Limits_shortenThrough.cells → sl ≤ rm_Limits_shortenThrough.slots → ∀ (u : (Nat → Nat → Int64)), Qr u → ∀ (pc : Nat) (lv : List (Nat × Value)), decode bLi_shortenThrough pc = .ok (.return_, 1) → XW p l e rm_Limits_shortenThrough s m args below meth c D vwCl (va_A (wX ad cI cL cO sc sd src itm knd plc clk ec nf ns nc wt bd off row hw rl tm ord tc) sz) 5 (vx_MQ below (va_Qv Qr (fun u t => XB D vwCl (tysX cI cL cO) (va_A (wX ad cI cL cO sc sd src itm knd plc clk ec nf ns nc wt bd off row hw rl tm ord tc) sz) (wX ad cI cL cO sc sd src itm knd plc clk ec nf ns nc wt u off row hw rl tm ord tc) t) (va_A (wX ad cI cL cO sc sd src itm knd plc clk ec nf ns nc wt bd off row hw rl tm ord tc) sz)) (XT D vwCl (tysX cI cL cO) (va_A (wX ad cI cL cO sc sd src itm knd plc clk ec nf ns nc wt bd off row hw rl tm ord tc) sz) (wX ad cI cL cO sc sd src itm knd plc clk ec nf ns nc wt bd off row hw rl tm ord tc) (fun _ => False)) args s rm_Limits_shortenThrough.cells rm_Limits_shortenThrough.slots (va_A (wX ad cI cL cO sc sd src itm knd plc clk ec nf ns nc wt bd off row hw rl tm ord tc) sz)) ce sl (wX ad cI cL cO sc sd src itm knd plc clk ec nf ns nc wt u off row hw rl tm ord tc) pc lv [] := fun ce sl h1 h2 u hq pc lv hd => x_vret (wf := fun u => (wX ad cI cL cO sc sd src itm knd plc clk ec nf ns nc wt u off row hw rl tm ord tc)) hC h1 h2 hr hlk hd hq rfl
  show XW p l e rm_Limits_shortenThrough s m args below meth c D vwCl (va_A (wX ad cI cL cO sc sd src itm knd plc clk ec nf ns nc wt bd off row hw rl tm ord tc) sz) 5 _ 0 0 (wX ad cI cL cO sc sd src itm knd plc clk ec nf ns nc wt bd off row hw rl tm ord tc) 0 [(0, .ref (ad 10)), (1, .int a1), (2, .int a2)] []
  unfold Limits_shortenThrough_wp at h
  refine x_iconst (v := 0) hC dLi_shortenThrough_0 (by decide) ?_
  refine x_istore_n (lv' := [(3, .int 0), (0, .ref (ad 10)), (1, .int a1), (2, .int a2)]) hC dLi_shortenThrough_1 rfl (by decide) rfl ?_
  obtain ⟨n_20, h⟩ := h
  refine x_lv [1, 2, 3, 0] rfl ?_
  refine Limits_shortenThrough_L2_ok hC (fun bd_19 h => ?_) n_20 0 bd h
  exact hret _ _ (by decide) (by decide) bd_19 h _ _ dLi_shortenThrough_101

/-! EventOrder$Limits.findBounds(I)Z -/
abbrev rm_Limits_findBounds : Room := { frames := 2, cells := 0, slots := 0, locals := 64 }
def Limits_findBounds_L9 (v1 : Int32) (v2 : Int32) (wt : (Nat → Nat → Int64)) (Qx : (Nat → Nat → Int64) → Prop) : Nat → Int32 → (Nat → Nat → Int64) → Prop
  | 0, _, _ => False
  | n + 1, v3, bd => ((v1 ≤ v3 → Qx bd) ∧ (¬ v1 ≤ v3 → vp_in v2 16 ∧ vp_in v2 16 ∧ vp_in v3 16 ∧ vp_in v3 16 ∧ Limits_findBounds_L9 v1 v2 wt Qx n (v3 + 1) (va_up bd v2.toNatClampNeg (vp_updL (bd v2.toNatClampNeg) v3.toNatClampNeg ((wt v2.toNatClampNeg) v3.toNatClampNeg)))))

def Limits_findBounds_L2 (v1 : Int32) (wt : (Nat → Nat → Int64)) (Qx : (Nat → Nat → Int64) → Prop) : Nat → Int32 → (Nat → Nat → Int64) → Prop
  | 0, _, _ => False
  | n + 1, v2, bd => ((v1 ≤ v2 → Qx bd) ∧ (¬ v1 ≤ v2 → (∃ n_12 : Nat, Limits_findBounds_L9 v1 v2 wt (fun (bd_7 : (Nat → Nat → Int64)) => vp_in v2 16 ∧ vp_in v2 16 ∧ vp_in v2 16 ∧ vp_in v2 16 ∧ Limits_findBounds_L2 v1 wt Qx n (v2 + 1) (va_up bd_7 v2.toNatClampNeg (vp_updL (bd_7 v2.toNatClampNeg) v2.toNatClampNeg (if 0 < ((wt v2.toNatClampNeg) v2.toNatClampNeg) then 0 else ((wt v2.toNatClampNeg) v2.toNatClampNeg))))) n_12 0 bd)))

def Limits_findBounds_L78 (v1 : Int32) (Qx : Int32 → (Nat → Nat → Int64) → Prop) : Nat → Int32 → Int32 → (Nat → Nat → Int64) → Prop
  | 0, _, _, _ => False
  | n + 1, v2, v3, bd => ((v1 ≤ v3 → Qx v2 bd) ∧ (¬ v1 ≤ v3 → ((v2 = 0 → Qx v2 bd) ∧ (¬ v2 = 0 → Limits_shortenThrough_wp bd v3 v1 (fun (u_20 : (Nat → Nat → Int64)) => Limits_closesBelowZero_wp u_20 v1 (fun (r_21 : Int32) (u_22 : Unit) => ((¬ r_21 = 0 → Limits_findBounds_L78 v1 Qx n 0 (v3 + 1) u_20) ∧ (r_21 = 0 → Limits_findBounds_L78 v1 Qx n 1 (v3 + 1) u_20))))))))

def Limits_findBounds_wp (wt : (Nat → Nat → Int64)) (bd : (Nat → Nat → Int64)) (a1 : Int32) (Qr : Int32 → (Nat → Nat → Int64) → Prop) : Prop := (∃ n_32 : Nat, Limits_findBounds_L2 a1 wt (fun (bd_13 : (Nat → Nat → Int64)) => Limits_closesBelowZero_wp bd_13 a1 (fun (r_14 : Int32) (u_15 : Unit) => ((¬ r_14 = 0 → (∃ n_27 : Nat, Limits_findBounds_L78 a1 (fun (v2_24 : Int32) (bd_25 : (Nat → Nat → Int64)) => x_bool v2_24 ∧ Qr v2_24 bd_25) n_27 0 0 bd_13)) ∧ (r_14 = 0 → (∃ n_31 : Nat, Limits_findBounds_L78 a1 (fun (v2_28 : Int32) (bd_29 : (Nat → Nat → Int64)) => x_bool v2_28 ∧ Qr v2_28 bd_29) n_31 1 0 bd_13))))) n_32 0 bd)
set_option maxHeartbeats 4000000 in
set_option maxRecDepth 100000 in
theorem Limits_findBounds_L9_ok {p : Program} {l : Launch} {e : Env} {s : State} {m : MethodId} {args : Array Value} {below : List Frame} {meth : Method} {c : Code} {Q : State → Prop} {D : va_G} {A : Nat → Prop} {ad : Nat → Nat} {cI cL cO : ClassId} {sc : Int32} {sd : Int32} {src : (Nat → Int32)} {itm : (Nat → Int32)} {knd : (Nat → Int32)} {plc : (Nat → Int32)} {clk : (Nat → Int64)} {ec : Int32} {nf : (Nat → Int32)} {ns : (Nat → Int32)} {nc : Int32} {wt : (Nat → Nat → Int64)} {off : (Nat → Int64)} {row : (Nat → Int32)} {hw : (Nat → Nat → Int64)} {rl : Int32} {tm : (Nat → Int64)} {ord : (Nat → Int32)} {tc : Int32} {v1 : Int32} {v2 : Int32} {Qx : (Nat → Nat → Int64) → Prop} (hC : XC p s m args c D vwCl (tysX cI cL cO) A 4 bLi_findBounds TBL RLi)  (hexit : ∀ (bd : (Nat → Nat → Int64)), Qx bd → XW p l e rm_Limits_findBounds s m args below meth c D vwCl A 4 Q 0 0 (wX ad cI cL cO sc sd src itm knd plc clk ec nf ns nc wt bd off row hw rl tm ord tc) 36 [(0, .ref (ad 10)), (1, .int v1), (2, .int v2)] []) : ∀ (n : Nat) (v3 : Int32) (bd : (Nat → Nat → Int64)), Limits_findBounds_L9 v1 v2 wt Qx n v3 bd → XW p l e rm_Limits_findBounds s m args below meth c D vwCl A 4 Q 0 0 (wX ad cI cL cO sc sd src itm knd plc clk ec nf ns nc wt bd off row hw rl tm ord tc) 9 [(0, .ref (ad 10)), (1, .int v1), (2, .int v2), (3, .int v3)] [] := by
  intro n
  induction n with
  | zero => intro v3 bd h; exact False.elim h
  | succ n ih =>
    intro v3 bd h
    unfold Limits_findBounds_L9 at h
    refine x_iload_n hC dLi_findBounds_9 rfl 3 rfl ?_
    refine x_iload_n hC dLi_findBounds_10 rfl 1 rfl ?_
    refine x_icmp_ge (tgt := 36) hC dLi_findBounds_11 (by decide) (fun c_2 => ?_) (fun c_2 => ?_)
    · have h := h.1 c_2
      refine x_lv [0, 1, 2] rfl ?_
      exact hexit bd h
    · have h := h.2 c_2
      refine x_aload_n hC dLi_findBounds_14 rfl 0 rfl ?_
      refine x_get hC iLi 10 wX_10 rfl 1 (by decide) k_x20 rfl rfl dLi_findBounds_15 ?_
      refine x_iload_n hC dLi_findBounds_18 rfl 2 rfl ?_
      obtain ⟨hb_3, h⟩ := h
      refine x_aald (y := ad (36 + v2.toNatClampNeg)) hC 12 2 wX_12 rfl rfl hb_3 rfl dLi_findBounds_19 ?_
      refine x_iload_n hC dLi_findBounds_20 rfl 3 rfl ?_
      refine x_aload_n hC dLi_findBounds_21 rfl 0 rfl ?_
      refine x_get hC iLi 10 wX_10 rfl 0 (by decide) k_x9 rfl rfl dLi_findBounds_22 ?_
      refine x_iload_n hC dLi_findBounds_25 rfl 2 rfl ?_
      obtain ⟨hb_4, h⟩ := h
      refine x_aald (y := ad (20 + v2.toNatClampNeg)) hC 11 2 wX_11 rfl rfl hb_4 rfl dLi_findBounds_26 ?_
      refine x_iload_n hC dLi_findBounds_27 rfl 3 rfl ?_
      obtain ⟨hb_5, h⟩ := h
      refine x_lald hC (20 + v2.toNatClampNeg) 1 (wX_wt (x_in_lt hb_4)) rfl hb_5 dLi_findBounds_28 ?_
      obtain ⟨hb_6, h⟩ := h
      refine x_last (ws' := (wX ad cI cL cO sc sd src itm knd plc clk ec nf ns nc wt (va_up bd v2.toNatClampNeg (vp_updL (bd v2.toNatClampNeg) v3.toNatClampNeg ((wt v2.toNatClampNeg) v3.toNatClampNeg))) off row hw rl tm ord tc)) hC (36 + v2.toNatClampNeg) 1 (wX_bd (x_in_lt hb_3)) rfl hb_6 (wX_bd_set (x_in_lt hb_3)) dLi_findBounds_29 ?_
      refine x_iinc (v := v3 + 1) (lv' := [(3, .int (v3 + 1)), (0, .ref (ad 10)), (1, .int v1), (2, .int v2)]) hC dLi_findBounds_30 3 rfl rfl (by decide) rfl ?_
      refine x_goto (tgt := 9) hC dLi_findBounds_33 (by decide) ?_
      refine x_lv [1, 2, 3, 0] rfl ?_
      exact ih (v3 + 1) (va_up bd v2.toNatClampNeg (vp_updL (bd v2.toNatClampNeg) v3.toNatClampNeg ((wt v2.toNatClampNeg) v3.toNatClampNeg))) h

set_option maxHeartbeats 4000000 in
set_option maxRecDepth 100000 in
theorem Limits_findBounds_L2_ok {p : Program} {l : Launch} {e : Env} {s : State} {m : MethodId} {args : Array Value} {below : List Frame} {meth : Method} {c : Code} {Q : State → Prop} {D : va_G} {A : Nat → Prop} {ad : Nat → Nat} {cI cL cO : ClassId} {sc : Int32} {sd : Int32} {src : (Nat → Int32)} {itm : (Nat → Int32)} {knd : (Nat → Int32)} {plc : (Nat → Int32)} {clk : (Nat → Int64)} {ec : Int32} {nf : (Nat → Int32)} {ns : (Nat → Int32)} {nc : Int32} {wt : (Nat → Nat → Int64)} {off : (Nat → Int64)} {row : (Nat → Int32)} {hw : (Nat → Nat → Int64)} {rl : Int32} {tm : (Nat → Int64)} {ord : (Nat → Int32)} {tc : Int32} {v1 : Int32} {Qx : (Nat → Nat → Int64) → Prop} (hC : XC p s m args c D vwCl (tysX cI cL cO) A 4 bLi_findBounds TBL RLi)  (hexit : ∀ (bd : (Nat → Nat → Int64)), Qx bd → XW p l e rm_Limits_findBounds s m args below meth c D vwCl A 4 Q 0 0 (wX ad cI cL cO sc sd src itm knd plc clk ec nf ns nc wt bd off row hw rl tm ord tc) 62 [(0, .ref (ad 10)), (1, .int v1)] []) : ∀ (n : Nat) (v2 : Int32) (bd : (Nat → Nat → Int64)), Limits_findBounds_L2 v1 wt Qx n v2 bd → XW p l e rm_Limits_findBounds s m args below meth c D vwCl A 4 Q 0 0 (wX ad cI cL cO sc sd src itm knd plc clk ec nf ns nc wt bd off row hw rl tm ord tc) 2 [(0, .ref (ad 10)), (1, .int v1), (2, .int v2)] [] := by
  intro n
  induction n with
  | zero => intro v2 bd h; exact False.elim h
  | succ n ih =>
    intro v2 bd h
    unfold Limits_findBounds_L2 at h
    refine x_iload_n hC dLi_findBounds_2 rfl 2 rfl ?_
    refine x_iload_n hC dLi_findBounds_3 rfl 1 rfl ?_
    refine x_icmp_ge (tgt := 62) hC dLi_findBounds_4 (by decide) (fun c_1 => ?_) (fun c_1 => ?_)
    · have h := h.1 c_1
      refine x_lv [0, 1] rfl ?_
      exact hexit bd h
    · have h := h.2 c_1
      refine x_iconst (v := 0) hC dLi_findBounds_7 (by decide) ?_
      refine x_istore_n (lv' := [(3, .int 0), (0, .ref (ad 10)), (1, .int v1), (2, .int v2)]) hC dLi_findBounds_8 rfl (by decide) rfl ?_
      obtain ⟨n_12, h⟩ := h
      refine x_lv [1, 2, 3, 0] rfl ?_
      refine Limits_findBounds_L9_ok hC (fun bd_7 h => ?_) n_12 0 bd h
      refine x_aload_n hC dLi_findBounds_36 rfl 0 rfl ?_
      refine x_get hC iLi 10 wX_10 rfl 1 (by decide) k_x20 rfl rfl dLi_findBounds_37 ?_
      refine x_iload_n hC dLi_findBounds_40 rfl 2 rfl ?_
      obtain ⟨hb_8, h⟩ := h
      refine x_aald (y := ad (36 + v2.toNatClampNeg)) hC 12 2 wX_12 rfl rfl hb_8 rfl dLi_findBounds_41 ?_
      refine x_iload_n hC dLi_findBounds_42 rfl 2 rfl ?_
      refine x_aload_n hC dLi_findBounds_43 rfl 0 rfl ?_
      refine x_get hC iLi 10 wX_10 rfl 0 (by decide) k_x9 rfl rfl dLi_findBounds_44 ?_
      refine x_iload_n hC dLi_findBounds_47 rfl 2 rfl ?_
      obtain ⟨hb_9, h⟩ := h
      refine x_aald (y := ad (20 + v2.toNatClampNeg)) hC 11 2 wX_11 rfl rfl hb_9 rfl dLi_findBounds_48 ?_
      refine x_iload_n hC dLi_findBounds_49 rfl 2 rfl ?_
      obtain ⟨hb_10, h⟩ := h
      refine x_lald hC (20 + v2.toNatClampNeg) 1 (wX_wt (x_in_lt hb_9)) rfl hb_10 dLi_findBounds_50 ?_
      refine x_lconst (v := 0) hC dLi_findBounds_51 (by decide) ?_
      refine x_mminl hC k_x16 k_x17 k_x18 k_x19 (by decide) (Nat.le_of_ble_eq_true rfl) (by decide) (by decide) dLi_findBounds_52 ?_
      obtain ⟨hb_11, h⟩ := h
      refine x_last (ws' := (wX ad cI cL cO sc sd src itm knd plc clk ec nf ns nc wt (va_up bd_7 v2.toNatClampNeg (vp_updL (bd_7 v2.toNatClampNeg) v2.toNatClampNeg (if 0 < ((wt v2.toNatClampNeg) v2.toNatClampNeg) then 0 else ((wt v2.toNatClampNeg) v2.toNatClampNeg)))) off row hw rl tm ord tc)) hC (36 + v2.toNatClampNeg) 1 (wX_bd (x_in_lt hb_8)) rfl hb_11 (wX_bd_set (x_in_lt hb_8)) dLi_findBounds_55 ?_
      refine x_iinc (v := v2 + 1) (lv' := [(2, .int (v2 + 1)), (0, .ref (ad 10)), (1, .int v1)]) hC dLi_findBounds_56 2 rfl rfl (by decide) rfl ?_
      refine x_goto (tgt := 2) hC dLi_findBounds_59 (by decide) ?_
      refine x_lv [1, 2, 0] rfl ?_
      exact ih (v2 + 1) (va_up bd_7 v2.toNatClampNeg (vp_updL (bd_7 v2.toNatClampNeg) v2.toNatClampNeg (if 0 < ((wt v2.toNatClampNeg) v2.toNatClampNeg) then 0 else ((wt v2.toNatClampNeg) v2.toNatClampNeg)))) h

set_option maxHeartbeats 4000000 in
set_option maxRecDepth 100000 in
theorem Limits_findBounds_L78_ok {p : Program} {l : Launch} {e : Env} {s : State} {m : MethodId} {args : Array Value} {below : List Frame} {meth : Method} {c : Code} {Q : State → Prop} {D : va_G} {A : Nat → Prop} {ad : Nat → Nat} {cI cL cO : ClassId} {sc : Int32} {sd : Int32} {src : (Nat → Int32)} {itm : (Nat → Int32)} {knd : (Nat → Int32)} {plc : (Nat → Int32)} {clk : (Nat → Int64)} {ec : Int32} {nf : (Nat → Int32)} {ns : (Nat → Int32)} {nc : Int32} {wt : (Nat → Nat → Int64)} {off : (Nat → Int64)} {row : (Nat → Int32)} {hw : (Nat → Nat → Int64)} {rl : Int32} {tm : (Nat → Int64)} {ord : (Nat → Int32)} {tc : Int32} {v1 : Int32} {Qx : Int32 → (Nat → Nat → Int64) → Prop} (hC : XC p s m args c D vwCl (tysX cI cL cO) A 4 bLi_findBounds TBL RLi)  (hexit : ∀ (v2 : Int32) (bd : (Nat → Nat → Int64)), Qx v2 bd → XW p l e rm_Limits_findBounds s m args below meth c D vwCl A 4 Q 0 0 (wX ad cI cL cO sc sd src itm knd plc clk ec nf ns nc wt bd off row hw rl tm ord tc) 113 [(2, .int v2)] []) : ∀ (n : Nat) (v2 : Int32) (v3 : Int32) (bd : (Nat → Nat → Int64)), Limits_findBounds_L78 v1 Qx n v2 v3 bd → XW p l e rm_Limits_findBounds s m args below meth c D vwCl A 4 Q 0 0 (wX ad cI cL cO sc sd src itm knd plc clk ec nf ns nc wt bd off row hw rl tm ord tc) 78 [(0, .ref (ad 10)), (1, .int v1), (2, .int v2), (3, .int v3)] [] := by
  intro n
  induction n with
  | zero => intro v2 v3 bd h; exact False.elim h
  | succ n ih =>
    intro v2 v3 bd h
    unfold Limits_findBounds_L78 at h
    refine x_iload_n hC dLi_findBounds_78 rfl 3 rfl ?_
    refine x_iload_n hC dLi_findBounds_79 rfl 1 rfl ?_
    refine x_icmp_ge (tgt := 113) hC dLi_findBounds_80 (by decide) (fun c_17 => ?_) (fun c_17 => ?_)
    · have h := h.1 c_17
      refine x_lv [2] rfl ?_
      exact hexit v2 bd h
    · have h := h.2 c_17
      refine x_iload_n hC dLi_findBounds_83 rfl 2 rfl ?_
      refine x_if_eq (tgt := 113) hC dLi_findBounds_84 (by decide) (fun c_18 => ?_) (fun c_18 => ?_)
      · have h := h.1 c_18
        refine x_lv [2] rfl ?_
        exact hexit v2 bd h
      · have h := h.2 c_18
        refine x_aload_n hC dLi_findBounds_87 rfl 0 rfl ?_
        refine x_iload_n hC dLi_findBounds_88 rfl 3 rfl ?_
        refine x_iload_n hC dLi_findBounds_89 rfl 1 rfl ?_
        refine x_callVv (S := (Nat → Nat → Int64)) (wf := fun u => (wX ad cI cL cO sc sd src itm knd plc clk ec nf ns nc wt u off row hw rl tm ord tc)) hC [.int v3, .int v1] (fun sz => c_Limits_shortenThrough h sz) (by decide) (by decide) k_x26 k_x27 k_x28 (by decide) 2 rfl (by decide +kernel) ⟨by decide, by decide⟩ (Nat.le_of_ble_eq_true rfl) k_x29 k_x30 wX_10 rfl rfl dLi_findBounds_90 (fun _ h9 => h9) (fun u_20 h => ?_)
        refine x_aload_n hC dLi_findBounds_93 rfl 0 rfl ?_
        refine x_iload_n hC dLi_findBounds_94 rfl 1 rfl ?_
        refine x_callVi (S := Unit) (wf := fun u => (wX ad cI cL cO sc sd src itm knd plc clk ec nf ns nc wt u_20 off row hw rl tm ord tc)) hC [.int v1] (fun sz => c_Limits_closesBelowZero h sz) (by decide) (by decide) k_x21 k_x22 k_x23 (by decide) 1 rfl (by decide +kernel) ⟨by decide, by decide⟩ (Nat.le_of_ble_eq_true rfl) k_x24 k_x25 wX_10 rfl rfl dLi_findBounds_95 (fun _ h9 => h9) (fun r_21 u_22 h => ?_)
        refine x_if_ne (tgt := 105) hC dLi_findBounds_98 (by decide) (fun c_23 => ?_) (fun c_23 => ?_)
        · have h := h.1 c_23
          refine x_iconst (v := 0) hC dLi_findBounds_105 (by decide) ?_
          refine x_istore_n (lv' := [(2, .int 0), (0, .ref (ad 10)), (1, .int v1), (3, .int v3)]) hC dLi_findBounds_106 rfl (by decide) rfl ?_
          refine x_iinc (v := v3 + 1) (lv' := [(3, .int (v3 + 1)), (2, .int 0), (0, .ref (ad 10)), (1, .int v1)]) hC dLi_findBounds_107 3 rfl rfl (by decide) rfl ?_
          refine x_goto (tgt := 78) hC dLi_findBounds_110 (by decide) ?_
          refine x_lv [2, 3, 1, 0] rfl ?_
          exact ih 0 (v3 + 1) u_20 h
        · have h := h.2 c_23
          refine x_iconst (v := 1) hC dLi_findBounds_101 (by decide) ?_
          refine x_goto (tgt := 106) hC dLi_findBounds_102 (by decide) ?_
          refine x_istore_n (lv' := [(2, .int 1), (0, .ref (ad 10)), (1, .int v1), (3, .int v3)]) hC dLi_findBounds_106 rfl (by decide) rfl ?_
          refine x_iinc (v := v3 + 1) (lv' := [(3, .int (v3 + 1)), (2, .int 1), (0, .ref (ad 10)), (1, .int v1)]) hC dLi_findBounds_107 3 rfl rfl (by decide) rfl ?_
          refine x_goto (tgt := 78) hC dLi_findBounds_110 (by decide) ?_
          refine x_lv [2, 3, 1, 0] rfl ?_
          exact ih 1 (v3 + 1) u_20 h

set_option maxHeartbeats 4000000 in
set_option maxRecDepth 100000 in
theorem c_Limits_findBounds {l : Launch} {D : va_G} {ad : Nat → Nat} {cI cL cO : ClassId} {sc : Int32} {sd : Int32} {src : (Nat → Int32)} {itm : (Nat → Int32)} {knd : (Nat → Int32)} {plc : (Nat → Int32)} {clk : (Nat → Int64)} {ec : Int32} {nf : (Nat → Int32)} {ns : (Nat → Int32)} {nc : Int32} {wt : (Nat → Nat → Int64)} {bd : (Nat → Nat → Int64)} {off : (Nat → Int64)} {row : (Nat → Int32)} {hw : (Nat → Nat → Int64)} {rl : Int32} {tm : (Nat → Int64)} {ord : (Nat → Int32)} {tc : Int32} {a1 : Int32} {Qr : Int32 → (Nat → Nat → Int64) → Prop} (h : Limits_findBounds_wp wt bd a1 Qr) (sz : Nat) : vx_Met l yLi_findBounds (Cond.code yLi_findBounds bLi_findBounds 4 (some .boolean) :: TBL) rm_Limits_findBounds (va_Pc [.ref (ad 10), .int a1] (XP D vwCl (tysX cI cL cO) (wX ad cI cL cO sc sd src itm knd plc clk ec nf ns nc wt bd off row hw rl tm ord tc) sz)) (va_Qi Qr (fun u t => XB D vwCl (tysX cI cL cO) (va_A (wX ad cI cL cO sc sd src itm knd plc clk ec nf ns nc wt bd off row hw rl tm ord tc) sz) (wX ad cI cL cO sc sd src itm knd plc clk ec nf ns nc wt u off row hw rl tm ord tc) t) (va_A (wX ad cI cL cO sc sd src itm knd plc clk ec nf ns nc wt bd off row hw rl tm ord tc) sz)) (XT D vwCl (tysX cI cL cO) (va_A (wX ad cI cL cO sc sd src itm knd plc clk ec nf ns nc wt bd off row hw rl tm ord tc) sz) (wX ad cI cL cO sc sd src itm knd plc clk ec nf ns nc wt bd off row hw rl tm ord tc) (fun _ => False)) rm_Limits_findBounds.cells rm_Limits_findBounds.slots (va_A (wX ad cI cL cO sc sd src itm knd plc clk ec nf ns nc wt bd off row hw rl tm ord tc) sz) := by
  refine x_met [.ref (ad 10), .int a1] TBL_good (by decide) (Nat.le_of_ble_eq_true rfl) ?_
  intro p e s m args below meth c hC hr hlk hnm hnh
  have hret : ∀ (ce sl : Nat), ce ≤ rm_Limits_findBounds.cells → sl ≤ rm_Limits_findBounds.slots → ∀ (r : Int32) (u : (Nat → Nat → Int64)), x_bool r → Qr r u → ∀ (pc : Nat) (lv : List (Nat × Value)), decode bLi_findBounds pc = .ok (.ireturn, 1) → XW p l e rm_Limits_findBounds s m args below meth c D vwCl (va_A (wX ad cI cL cO sc sd src itm knd plc clk ec nf ns nc wt bd off row hw rl tm ord tc) sz) 4 (vx_MQ below (va_Qi Qr (fun u t => XB D vwCl (tysX cI cL cO) (va_A (wX ad cI cL cO sc sd src itm knd plc clk ec nf ns nc wt bd off row hw rl tm ord tc) sz) (wX ad cI cL cO sc sd src itm knd plc clk ec nf ns nc wt u off row hw rl tm ord tc) t) (va_A (wX ad cI cL cO sc sd src itm knd plc clk ec nf ns nc wt bd off row hw rl tm ord tc) sz)) (XT D vwCl (tysX cI cL cO) (va_A (wX ad cI cL cO sc sd src itm knd plc clk ec nf ns nc wt bd off row hw rl tm ord tc) sz) (wX ad cI cL cO sc sd src itm knd plc clk ec nf ns nc wt bd off row hw rl tm ord tc) (fun _ => False)) args s rm_Limits_findBounds.cells rm_Limits_findBounds.slots (va_A (wX ad cI cL cO sc sd src itm knd plc clk ec nf ns nc wt bd off row hw rl tm ord tc) sz)) ce sl (wX ad cI cL cO sc sd src itm knd plc clk ec nf ns nc wt u off row hw rl tm ord tc) pc lv [.int r] := fun ce sl h1 h2 r u hb9 hq pc lv hd => x_zret (wf := fun u => (wX ad cI cL cO sc sd src itm knd plc clk ec nf ns nc wt u off row hw rl tm ord tc)) hC h1 h2 hr hlk hb9 hd hq rfl
  show XW p l e rm_Limits_findBounds s m args below meth c D vwCl (va_A (wX ad cI cL cO sc sd src itm knd plc clk ec nf ns nc wt bd off row hw rl tm ord tc) sz) 4 _ 0 0 (wX ad cI cL cO sc sd src itm knd plc clk ec nf ns nc wt bd off row hw rl tm ord tc) 0 [(0, .ref (ad 10)), (1, .int a1)] []
  unfold Limits_findBounds_wp at h
  refine x_iconst (v := 0) hC dLi_findBounds_0 (by decide) ?_
  refine x_istore_n (lv' := [(2, .int 0), (0, .ref (ad 10)), (1, .int a1)]) hC dLi_findBounds_1 rfl (by decide) rfl ?_
  obtain ⟨n_32, h⟩ := h
  refine x_lv [1, 2, 0] rfl ?_
  refine Limits_findBounds_L2_ok hC (fun bd_13 h => ?_) n_32 0 bd h
  refine x_aload_n hC dLi_findBounds_62 rfl 0 rfl ?_
  refine x_iload_n hC dLi_findBounds_63 rfl 1 rfl ?_
  refine x_callVi (S := Unit) (wf := fun u => (wX ad cI cL cO sc sd src itm knd plc clk ec nf ns nc wt bd_13 off row hw rl tm ord tc)) hC [.int a1] (fun sz => c_Limits_closesBelowZero h sz) (by decide) (by decide) k_x21 k_x22 k_x23 (by decide) 1 rfl (by decide +kernel) ⟨by decide, by decide⟩ (Nat.le_of_ble_eq_true rfl) k_x24 k_x25 wX_10 rfl rfl dLi_findBounds_64 (fun _ h9 => h9) (fun r_14 u_15 h => ?_)
  refine x_if_ne (tgt := 74) hC dLi_findBounds_67 (by decide) (fun c_16 => ?_) (fun c_16 => ?_)
  · have h := h.1 c_16
    refine x_iconst (v := 0) hC dLi_findBounds_74 (by decide) ?_
    refine x_istore_n (lv' := [(2, .int 0), (0, .ref (ad 10)), (1, .int a1)]) hC dLi_findBounds_75 rfl (by decide) rfl ?_
    refine x_iconst (v := 0) hC dLi_findBounds_76 (by decide) ?_
    refine x_istore_n (lv' := [(3, .int 0), (2, .int 0), (0, .ref (ad 10)), (1, .int a1)]) hC dLi_findBounds_77 rfl (by decide) rfl ?_
    obtain ⟨n_27, h⟩ := h
    refine x_lv [2, 3, 1, 0] rfl ?_
    refine Limits_findBounds_L78_ok hC (fun v2_24 bd_25 h => ?_) n_27 0 0 bd_13 h
    refine x_iload_n hC dLi_findBounds_113 rfl 0 rfl ?_
    obtain ⟨hb_26, h⟩ := h
    exact hret _ _ (by decide) (by decide) v2_24 bd_25 hb_26 h _ _ dLi_findBounds_114
  · have h := h.2 c_16
    refine x_iconst (v := 1) hC dLi_findBounds_70 (by decide) ?_
    refine x_goto (tgt := 75) hC dLi_findBounds_71 (by decide) ?_
    refine x_istore_n (lv' := [(2, .int 1), (0, .ref (ad 10)), (1, .int a1)]) hC dLi_findBounds_75 rfl (by decide) rfl ?_
    refine x_iconst (v := 0) hC dLi_findBounds_76 (by decide) ?_
    refine x_istore_n (lv' := [(3, .int 0), (2, .int 1), (0, .ref (ad 10)), (1, .int a1)]) hC dLi_findBounds_77 rfl (by decide) rfl ?_
    obtain ⟨n_31, h⟩ := h
    refine x_lv [2, 3, 1, 0] rfl ?_
    refine Limits_findBounds_L78_ok hC (fun v2_28 bd_29 h => ?_) n_31 1 0 bd_13 h
    refine x_iload_n hC dLi_findBounds_113 rfl 0 rfl ?_
    obtain ⟨hb_30, h⟩ := h
    exact hret _ _ (by decide) (by decide) v2_28 bd_29 hb_30 h _ _ dLi_findBounds_114

/-! EventOrder$Limits.chooseOffsets(I)V -/
abbrev rm_Limits_chooseOffsets : Room := { frames := 1, cells := 0, slots := 0, locals := 40 }
def Limits_chooseOffsets_L19 (v1 : Int32) (v2 : Int32) (bd : (Nat → Nat → Int64)) (off : (Nat → Int64)) (Qx : Int64 → Int64 → Prop) : Nat → Int64 → Int64 → Int32 → Prop
  | 0, _, _, _ => False
  | n + 1, v3, v5, v7 => ((v2 ≤ v7 → Qx v3 v5) ∧ (¬ v2 ≤ v7 → vp_in v2 16 ∧ vp_in v7 16 ∧ ((((bd v2.toNatClampNeg) v7.toNatClampNeg) = 9223372036854775807 → vp_in v7 16 ∧ vp_in v2 16 ∧ ((((bd v7.toNatClampNeg) v2.toNatClampNeg) = 9223372036854775807 → Limits_chooseOffsets_L19 v1 v2 bd off Qx n v3 v5 (v7 + 1)) ∧ (¬ ((bd v7.toNatClampNeg) v2.toNatClampNeg) = 9223372036854775807 → vp_in v7 16 ∧ vp_in v7 16 ∧ vp_in v2 16 ∧ Limits_chooseOffsets_L19 v1 v2 bd off Qx n (if ((off v7.toNatClampNeg) - ((bd v7.toNatClampNeg) v2.toNatClampNeg)) < v3 then v3 else ((off v7.toNatClampNeg) - ((bd v7.toNatClampNeg) v2.toNatClampNeg))) v5 (v7 + 1)))) ∧ (¬ ((bd v2.toNatClampNeg) v7.toNatClampNeg) = 9223372036854775807 → vp_in v7 16 ∧ vp_in v2 16 ∧ vp_in v7 16 ∧ vp_in v7 16 ∧ vp_in v2 16 ∧ ((((bd v7.toNatClampNeg) v2.toNatClampNeg) = 9223372036854775807 → Limits_chooseOffsets_L19 v1 v2 bd off Qx n v3 (if ((off v7.toNatClampNeg) + ((bd v2.toNatClampNeg) v7.toNatClampNeg)) < v5 then ((off v7.toNatClampNeg) + ((bd v2.toNatClampNeg) v7.toNatClampNeg)) else v5) (v7 + 1)) ∧ (¬ ((bd v7.toNatClampNeg) v2.toNatClampNeg) = 9223372036854775807 → vp_in v7 16 ∧ vp_in v7 16 ∧ vp_in v2 16 ∧ Limits_chooseOffsets_L19 v1 v2 bd off Qx n (if ((off v7.toNatClampNeg) - ((bd v7.toNatClampNeg) v2.toNatClampNeg)) < v3 then v3 else ((off v7.toNatClampNeg) - ((bd v7.toNatClampNeg) v2.toNatClampNeg))) (if ((off v7.toNatClampNeg) + ((bd v2.toNatClampNeg) v7.toNatClampNeg)) < v5 then ((off v7.toNatClampNeg) + ((bd v2.toNatClampNeg) v7.toNatClampNeg)) else v5) (v7 + 1)))))))

def Limits_chooseOffsets_L2 (v1 : Int32) (bd : (Nat → Nat → Int64)) (Qx : (Nat → Int64) → Prop) : Nat → Int32 → (Nat → Int64) → Prop
  | 0, _, _ => False
  | n + 1, v2, off => ((v1 ≤ v2 → Qx off) ∧ (¬ v1 ≤ v2 → (∃ n_24 : Nat, Limits_chooseOffsets_L19 v1 v2 bd off (fun (v3_21 : Int64) (v5_22 : Int64) => vp_in v2 16 ∧ Limits_chooseOffsets_L2 v1 bd Qx n (v2 + 1) (vp_updL off v2.toNatClampNeg (if (if 0 < v5_22 then 0 else v5_22) < v3_21 then v3_21 else (if 0 < v5_22 then 0 else v5_22)))) n_24 (-9223372036854775807) 9223372036854775807 0)))

def Limits_chooseOffsets_wp (bd : (Nat → Nat → Int64)) (off : (Nat → Int64)) (a1 : Int32) (Qr : (Nat → Int64) → Prop) : Prop := (∃ n_26 : Nat, Limits_chooseOffsets_L2 a1 bd (fun (off_25 : (Nat → Int64)) => Qr off_25) n_26 0 off)
set_option maxHeartbeats 4000000 in
set_option maxRecDepth 100000 in
theorem Limits_chooseOffsets_L19_ok {p : Program} {l : Launch} {e : Env} {s : State} {m : MethodId} {args : Array Value} {below : List Frame} {meth : Method} {c : Code} {Q : State → Prop} {D : va_G} {A : Nat → Prop} {ad : Nat → Nat} {cI cL cO : ClassId} {sc : Int32} {sd : Int32} {src : (Nat → Int32)} {itm : (Nat → Int32)} {knd : (Nat → Int32)} {plc : (Nat → Int32)} {clk : (Nat → Int64)} {ec : Int32} {nf : (Nat → Int32)} {ns : (Nat → Int32)} {nc : Int32} {wt : (Nat → Nat → Int64)} {bd : (Nat → Nat → Int64)} {off : (Nat → Int64)} {row : (Nat → Int32)} {hw : (Nat → Nat → Int64)} {rl : Int32} {tm : (Nat → Int64)} {ord : (Nat → Int32)} {tc : Int32} {v1 : Int32} {v2 : Int32} {Qx : Int64 → Int64 → Prop} (hC : XC p s m args c D vwCl (tysX cI cL cO) A 8 bLi_chooseOffsets TBL RLi)  (hexit : ∀ (v3 : Int64) (v5 : Int64), Qx v3 v5 → XW p l e rm_Limits_chooseOffsets s m args below meth c D vwCl A 8 Q 0 0 (wX ad cI cL cO sc sd src itm knd plc clk ec nf ns nc wt bd off row hw rl tm ord tc) 109 [(0, .ref (ad 10)), (1, .int v1), (2, .int v2), (3, .long v3), (5, .long v5)] []) : ∀ (n : Nat) (v3 : Int64) (v5 : Int64) (v7 : Int32), Limits_chooseOffsets_L19 v1 v2 bd off Qx n v3 v5 v7 → XW p l e rm_Limits_chooseOffsets s m args below meth c D vwCl A 8 Q 0 0 (wX ad cI cL cO sc sd src itm knd plc clk ec nf ns nc wt bd off row hw rl tm ord tc) 19 [(0, .ref (ad 10)), (1, .int v1), (2, .int v2), (3, .long v3), (5, .long v5), (7, .int v7)] [] := by
  intro n
  induction n with
  | zero => intro v3 v5 v7 h; exact False.elim h
  | succ n ih =>
    intro v3 v5 v7 h
    unfold Limits_chooseOffsets_L19 at h
    refine x_iload hC dLi_chooseOffsets_19 5 rfl ?_
    refine x_iload_n hC dLi_chooseOffsets_21 rfl 2 rfl ?_
    refine x_icmp_ge (tgt := 109) hC dLi_chooseOffsets_22 (by decide) (fun c_2 => ?_) (fun c_2 => ?_)
    · have h := h.1 c_2
      refine x_lv [0, 1, 2, 3, 4] rfl ?_
      exact hexit v3 v5 h
    · have h := h.2 c_2
      refine x_aload_n hC dLi_chooseOffsets_25 rfl 0 rfl ?_
      refine x_get hC iLi 10 wX_10 rfl 1 (by decide) k_x20 rfl rfl dLi_chooseOffsets_26 ?_
      refine x_iload_n hC dLi_chooseOffsets_29 rfl 2 rfl ?_
      obtain ⟨hb_3, h⟩ := h
      refine x_aald (y := ad (36 + v2.toNatClampNeg)) hC 12 2 wX_12 rfl rfl hb_3 rfl dLi_chooseOffsets_30 ?_
      refine x_iload hC dLi_chooseOffsets_31 5 rfl ?_
      obtain ⟨hb_4, h⟩ := h
      refine x_lald hC (36 + v2.toNatClampNeg) 1 (wX_bd (x_in_lt hb_3)) rfl hb_4 dLi_chooseOffsets_33 ?_
      refine x_ldc2 (v := 9223372036854775807) hC k_x10 dLi_chooseOffsets_34 ?_
      refine x_lcmp_eq (tgt := 65) hC dLi_chooseOffsets_37 dLi_chooseOffsets_38 (by decide) (fun c_5 => ?_) (fun c_5 => ?_)
      · have h := h.1 c_5
        refine x_aload_n hC dLi_chooseOffsets_65 rfl 0 rfl ?_
        refine x_get hC iLi 10 wX_10 rfl 1 (by decide) k_x20 rfl rfl dLi_chooseOffsets_66 ?_
        refine x_iload hC dLi_chooseOffsets_69 5 rfl ?_
        obtain ⟨hb_6, h⟩ := h
        refine x_aald (y := ad (36 + v7.toNatClampNeg)) hC 12 2 wX_12 rfl rfl hb_6 rfl dLi_chooseOffsets_71 ?_
        refine x_iload_n hC dLi_chooseOffsets_72 rfl 2 rfl ?_
        obtain ⟨hb_7, h⟩ := h
        refine x_lald hC (36 + v7.toNatClampNeg) 1 (wX_bd (x_in_lt hb_6)) rfl hb_7 dLi_chooseOffsets_73 ?_
        refine x_ldc2 (v := 9223372036854775807) hC k_x10 dLi_chooseOffsets_74 ?_
        refine x_lcmp_eq (tgt := 103) hC dLi_chooseOffsets_77 dLi_chooseOffsets_78 (by decide) (fun c_8 => ?_) (fun c_8 => ?_)
        · have h := h.1 c_8
          refine x_iinc (v := v7 + 1) (lv' := [(7, .int (v7 + 1)), (0, .ref (ad 10)), (1, .int v1), (2, .int v2), (3, .long v3), (5, .long v5)]) hC dLi_chooseOffsets_103 5 rfl rfl (by decide) rfl ?_
          refine x_goto (tgt := 19) hC dLi_chooseOffsets_106 (by decide) ?_
          refine x_lv [1, 2, 3, 4, 5, 0] rfl ?_
          exact ih v3 v5 (v7 + 1) h
        · have h := h.2 c_8
          refine x_lload_n hC dLi_chooseOffsets_81 rfl 3 rfl ?_
          refine x_aload_n hC dLi_chooseOffsets_82 rfl 0 rfl ?_
          refine x_get hC iLi 10 wX_10 rfl 2 (by decide) k_x32 rfl rfl dLi_chooseOffsets_83 ?_
          refine x_iload hC dLi_chooseOffsets_86 5 rfl ?_
          obtain ⟨hb_9, h⟩ := h
          refine x_lald hC 13 1 wX_13 rfl hb_9 dLi_chooseOffsets_88 ?_
          refine x_aload_n hC dLi_chooseOffsets_89 rfl 0 rfl ?_
          refine x_get hC iLi 10 wX_10 rfl 1 (by decide) k_x20 rfl rfl dLi_chooseOffsets_90 ?_
          refine x_iload hC dLi_chooseOffsets_93 5 rfl ?_
          obtain ⟨hb_10, h⟩ := h
          refine x_aald (y := ad (36 + v7.toNatClampNeg)) hC 12 2 wX_12 rfl rfl hb_10 rfl dLi_chooseOffsets_95 ?_
          refine x_iload_n hC dLi_chooseOffsets_96 rfl 2 rfl ?_
          obtain ⟨hb_11, h⟩ := h
          refine x_lald hC (36 + v7.toNatClampNeg) 1 (wX_bd (x_in_lt hb_10)) rfl hb_11 dLi_chooseOffsets_97 ?_
          refine x_lsub hC dLi_chooseOffsets_98 ?_
          refine x_mmaxl hC k_x33 k_x34 k_x18 k_x35 (by decide) (Nat.le_of_ble_eq_true rfl) (by decide) (by decide) dLi_chooseOffsets_99 ?_
          refine x_lstore_n (lv' := [(3, .long (if ((off v7.toNatClampNeg) - ((bd v7.toNatClampNeg) v2.toNatClampNeg)) < v3 then v3 else ((off v7.toNatClampNeg) - ((bd v7.toNatClampNeg) v2.toNatClampNeg)))), (0, .ref (ad 10)), (1, .int v1), (2, .int v2), (5, .long v5), (7, .int v7)]) hC dLi_chooseOffsets_102 rfl (by decide) rfl ?_
          refine x_iinc (v := v7 + 1) (lv' := [(7, .int (v7 + 1)), (3, .long (if ((off v7.toNatClampNeg) - ((bd v7.toNatClampNeg) v2.toNatClampNeg)) < v3 then v3 else ((off v7.toNatClampNeg) - ((bd v7.toNatClampNeg) v2.toNatClampNeg)))), (0, .ref (ad 10)), (1, .int v1), (2, .int v2), (5, .long v5)]) hC dLi_chooseOffsets_103 5 rfl rfl (by decide) rfl ?_
          refine x_goto (tgt := 19) hC dLi_chooseOffsets_106 (by decide) ?_
          refine x_lv [2, 3, 4, 1, 5, 0] rfl ?_
          exact ih (if ((off v7.toNatClampNeg) - ((bd v7.toNatClampNeg) v2.toNatClampNeg)) < v3 then v3 else ((off v7.toNatClampNeg) - ((bd v7.toNatClampNeg) v2.toNatClampNeg))) v5 (v7 + 1) h
      · have h := h.2 c_5
        refine x_lload hC dLi_chooseOffsets_41 4 rfl ?_
        refine x_aload_n hC dLi_chooseOffsets_43 rfl 0 rfl ?_
        refine x_get hC iLi 10 wX_10 rfl 2 (by decide) k_x32 rfl rfl dLi_chooseOffsets_44 ?_
        refine x_iload hC dLi_chooseOffsets_47 5 rfl ?_
        obtain ⟨hb_12, h⟩ := h
        refine x_lald hC 13 1 wX_13 rfl hb_12 dLi_chooseOffsets_49 ?_
        refine x_aload_n hC dLi_chooseOffsets_50 rfl 0 rfl ?_
        refine x_get hC iLi 10 wX_10 rfl 1 (by decide) k_x20 rfl rfl dLi_chooseOffsets_51 ?_
        refine x_iload_n hC dLi_chooseOffsets_54 rfl 2 rfl ?_
        obtain ⟨hb_13, h⟩ := h
        refine x_aald (y := ad (36 + v2.toNatClampNeg)) hC 12 2 wX_12 rfl rfl hb_13 rfl dLi_chooseOffsets_55 ?_
        refine x_iload hC dLi_chooseOffsets_56 5 rfl ?_
        obtain ⟨hb_14, h⟩ := h
        refine x_lald hC (36 + v2.toNatClampNeg) 1 (wX_bd (x_in_lt hb_13)) rfl hb_14 dLi_chooseOffsets_58 ?_
        refine x_ladd hC dLi_chooseOffsets_59 ?_
        refine x_mminl hC k_x16 k_x17 k_x18 k_x19 (by decide) (Nat.le_of_ble_eq_true rfl) (by decide) (by decide) dLi_chooseOffsets_60 ?_
        refine x_lstore (lv' := [(5, .long (if ((off v7.toNatClampNeg) + ((bd v2.toNatClampNeg) v7.toNatClampNeg)) < v5 then ((off v7.toNatClampNeg) + ((bd v2.toNatClampNeg) v7.toNatClampNeg)) else v5)), (0, .ref (ad 10)), (1, .int v1), (2, .int v2), (3, .long v3), (7, .int v7)]) hC dLi_chooseOffsets_63 (by decide) rfl ?_
        refine x_aload_n hC dLi_chooseOffsets_65 rfl 1 rfl ?_
        refine x_get hC iLi 10 wX_10 rfl 1 (by decide) k_x20 rfl rfl dLi_chooseOffsets_66 ?_
        refine x_iload hC dLi_chooseOffsets_69 5 rfl ?_
        obtain ⟨hb_15, h⟩ := h
        refine x_aald (y := ad (36 + v7.toNatClampNeg)) hC 12 2 wX_12 rfl rfl hb_15 rfl dLi_chooseOffsets_71 ?_
        refine x_iload_n hC dLi_chooseOffsets_72 rfl 3 rfl ?_
        obtain ⟨hb_16, h⟩ := h
        refine x_lald hC (36 + v7.toNatClampNeg) 1 (wX_bd (x_in_lt hb_15)) rfl hb_16 dLi_chooseOffsets_73 ?_
        refine x_ldc2 (v := 9223372036854775807) hC k_x10 dLi_chooseOffsets_74 ?_
        refine x_lcmp_eq (tgt := 103) hC dLi_chooseOffsets_77 dLi_chooseOffsets_78 (by decide) (fun c_17 => ?_) (fun c_17 => ?_)
        · have h := h.1 c_17
          refine x_iinc (v := v7 + 1) (lv' := [(7, .int (v7 + 1)), (5, .long (if ((off v7.toNatClampNeg) + ((bd v2.toNatClampNeg) v7.toNatClampNeg)) < v5 then ((off v7.toNatClampNeg) + ((bd v2.toNatClampNeg) v7.toNatClampNeg)) else v5)), (0, .ref (ad 10)), (1, .int v1), (2, .int v2), (3, .long v3)]) hC dLi_chooseOffsets_103 5 rfl rfl (by decide) rfl ?_
          refine x_goto (tgt := 19) hC dLi_chooseOffsets_106 (by decide) ?_
          refine x_lv [2, 3, 4, 5, 1, 0] rfl ?_
          exact ih v3 (if ((off v7.toNatClampNeg) + ((bd v2.toNatClampNeg) v7.toNatClampNeg)) < v5 then ((off v7.toNatClampNeg) + ((bd v2.toNatClampNeg) v7.toNatClampNeg)) else v5) (v7 + 1) h
        · have h := h.2 c_17
          refine x_lload_n hC dLi_chooseOffsets_81 rfl 4 rfl ?_
          refine x_aload_n hC dLi_chooseOffsets_82 rfl 1 rfl ?_
          refine x_get hC iLi 10 wX_10 rfl 2 (by decide) k_x32 rfl rfl dLi_chooseOffsets_83 ?_
          refine x_iload hC dLi_chooseOffsets_86 5 rfl ?_
          obtain ⟨hb_18, h⟩ := h
          refine x_lald hC 13 1 wX_13 rfl hb_18 dLi_chooseOffsets_88 ?_
          refine x_aload_n hC dLi_chooseOffsets_89 rfl 1 rfl ?_
          refine x_get hC iLi 10 wX_10 rfl 1 (by decide) k_x20 rfl rfl dLi_chooseOffsets_90 ?_
          refine x_iload hC dLi_chooseOffsets_93 5 rfl ?_
          obtain ⟨hb_19, h⟩ := h
          refine x_aald (y := ad (36 + v7.toNatClampNeg)) hC 12 2 wX_12 rfl rfl hb_19 rfl dLi_chooseOffsets_95 ?_
          refine x_iload_n hC dLi_chooseOffsets_96 rfl 3 rfl ?_
          obtain ⟨hb_20, h⟩ := h
          refine x_lald hC (36 + v7.toNatClampNeg) 1 (wX_bd (x_in_lt hb_19)) rfl hb_20 dLi_chooseOffsets_97 ?_
          refine x_lsub hC dLi_chooseOffsets_98 ?_
          refine x_mmaxl hC k_x33 k_x34 k_x18 k_x35 (by decide) (Nat.le_of_ble_eq_true rfl) (by decide) (by decide) dLi_chooseOffsets_99 ?_
          refine x_lstore_n (lv' := [(3, .long (if ((off v7.toNatClampNeg) - ((bd v7.toNatClampNeg) v2.toNatClampNeg)) < v3 then v3 else ((off v7.toNatClampNeg) - ((bd v7.toNatClampNeg) v2.toNatClampNeg)))), (5, .long (if ((off v7.toNatClampNeg) + ((bd v2.toNatClampNeg) v7.toNatClampNeg)) < v5 then ((off v7.toNatClampNeg) + ((bd v2.toNatClampNeg) v7.toNatClampNeg)) else v5)), (0, .ref (ad 10)), (1, .int v1), (2, .int v2), (7, .int v7)]) hC dLi_chooseOffsets_102 rfl (by decide) rfl ?_
          refine x_iinc (v := v7 + 1) (lv' := [(7, .int (v7 + 1)), (3, .long (if ((off v7.toNatClampNeg) - ((bd v7.toNatClampNeg) v2.toNatClampNeg)) < v3 then v3 else ((off v7.toNatClampNeg) - ((bd v7.toNatClampNeg) v2.toNatClampNeg)))), (5, .long (if ((off v7.toNatClampNeg) + ((bd v2.toNatClampNeg) v7.toNatClampNeg)) < v5 then ((off v7.toNatClampNeg) + ((bd v2.toNatClampNeg) v7.toNatClampNeg)) else v5)), (0, .ref (ad 10)), (1, .int v1), (2, .int v2)]) hC dLi_chooseOffsets_103 5 rfl rfl (by decide) rfl ?_
          refine x_goto (tgt := 19) hC dLi_chooseOffsets_106 (by decide) ?_
          refine x_lv [3, 4, 5, 1, 2, 0] rfl ?_
          exact ih (if ((off v7.toNatClampNeg) - ((bd v7.toNatClampNeg) v2.toNatClampNeg)) < v3 then v3 else ((off v7.toNatClampNeg) - ((bd v7.toNatClampNeg) v2.toNatClampNeg))) (if ((off v7.toNatClampNeg) + ((bd v2.toNatClampNeg) v7.toNatClampNeg)) < v5 then ((off v7.toNatClampNeg) + ((bd v2.toNatClampNeg) v7.toNatClampNeg)) else v5) (v7 + 1) h

set_option maxHeartbeats 4000000 in
set_option maxRecDepth 100000 in
theorem Limits_chooseOffsets_L2_ok {p : Program} {l : Launch} {e : Env} {s : State} {m : MethodId} {args : Array Value} {below : List Frame} {meth : Method} {c : Code} {Q : State → Prop} {D : va_G} {A : Nat → Prop} {ad : Nat → Nat} {cI cL cO : ClassId} {sc : Int32} {sd : Int32} {src : (Nat → Int32)} {itm : (Nat → Int32)} {knd : (Nat → Int32)} {plc : (Nat → Int32)} {clk : (Nat → Int64)} {ec : Int32} {nf : (Nat → Int32)} {ns : (Nat → Int32)} {nc : Int32} {wt : (Nat → Nat → Int64)} {bd : (Nat → Nat → Int64)} {row : (Nat → Int32)} {hw : (Nat → Nat → Int64)} {rl : Int32} {tm : (Nat → Int64)} {ord : (Nat → Int32)} {tc : Int32} {v1 : Int32} {Qx : (Nat → Int64) → Prop} (hC : XC p s m args c D vwCl (tysX cI cL cO) A 8 bLi_chooseOffsets TBL RLi)  (hexit : ∀ (off : (Nat → Int64)), Qx off → XW p l e rm_Limits_chooseOffsets s m args below meth c D vwCl A 8 Q 0 0 (wX ad cI cL cO sc sd src itm knd plc clk ec nf ns nc wt bd off row hw rl tm ord tc) 131 [] []) : ∀ (n : Nat) (v2 : Int32) (off : (Nat → Int64)), Limits_chooseOffsets_L2 v1 bd Qx n v2 off → XW p l e rm_Limits_chooseOffsets s m args below meth c D vwCl A 8 Q 0 0 (wX ad cI cL cO sc sd src itm knd plc clk ec nf ns nc wt bd off row hw rl tm ord tc) 2 [(0, .ref (ad 10)), (1, .int v1), (2, .int v2)] [] := by
  intro n
  induction n with
  | zero => intro v2 off h; exact False.elim h
  | succ n ih =>
    intro v2 off h
    unfold Limits_chooseOffsets_L2 at h
    refine x_iload_n hC dLi_chooseOffsets_2 rfl 2 rfl ?_
    refine x_iload_n hC dLi_chooseOffsets_3 rfl 1 rfl ?_
    refine x_icmp_ge (tgt := 131) hC dLi_chooseOffsets_4 (by decide) (fun c_1 => ?_) (fun c_1 => ?_)
    · have h := h.1 c_1
      refine x_lv [] rfl ?_
      exact hexit off h
    · have h := h.2 c_1
      refine x_ldc2 (v := -9223372036854775807) hC k_x31 dLi_chooseOffsets_7 ?_
      refine x_lstore_n (lv' := [(3, .long (-9223372036854775807)), (0, .ref (ad 10)), (1, .int v1), (2, .int v2)]) hC dLi_chooseOffsets_10 rfl (by decide) rfl ?_
      refine x_ldc2 (v := 9223372036854775807) hC k_x10 dLi_chooseOffsets_11 ?_
      refine x_lstore (lv' := [(5, .long 9223372036854775807), (3, .long (-9223372036854775807)), (0, .ref (ad 10)), (1, .int v1), (2, .int v2)]) hC dLi_chooseOffsets_14 (by decide) rfl ?_
      refine x_iconst (v := 0) hC dLi_chooseOffsets_16 (by decide) ?_
      refine x_istore (lv' := [(7, .int 0), (5, .long 9223372036854775807), (3, .long (-9223372036854775807)), (0, .ref (ad 10)), (1, .int v1), (2, .int v2)]) hC dLi_chooseOffsets_17 (by decide) rfl ?_
      obtain ⟨n_24, h⟩ := h
      refine x_lv [3, 4, 5, 2, 1, 0] rfl ?_
      refine Limits_chooseOffsets_L19_ok hC (fun v3_21 v5_22 h => ?_) n_24 (-9223372036854775807) 9223372036854775807 0 h
      refine x_aload_n hC dLi_chooseOffsets_109 rfl 0 rfl ?_
      refine x_get hC iLi 10 wX_10 rfl 2 (by decide) k_x32 rfl rfl dLi_chooseOffsets_110 ?_
      refine x_iload_n hC dLi_chooseOffsets_113 rfl 2 rfl ?_
      refine x_lload_n hC dLi_chooseOffsets_114 rfl 3 rfl ?_
      refine x_lload hC dLi_chooseOffsets_115 4 rfl ?_
      refine x_lconst (v := 0) hC dLi_chooseOffsets_117 (by decide) ?_
      refine x_mminl hC k_x16 k_x17 k_x18 k_x19 (by decide) (Nat.le_of_ble_eq_true rfl) (by decide) (by decide) dLi_chooseOffsets_118 ?_
      refine x_mmaxl hC k_x33 k_x34 k_x18 k_x35 (by decide) (Nat.le_of_ble_eq_true rfl) (by decide) (by decide) dLi_chooseOffsets_121 ?_
      obtain ⟨hb_23, h⟩ := h
      refine x_last (ws' := (wX ad cI cL cO sc sd src itm knd plc clk ec nf ns nc wt bd (vp_updL off v2.toNatClampNeg (if (if 0 < v5_22 then 0 else v5_22) < v3_21 then v3_21 else (if 0 < v5_22 then 0 else v5_22))) row hw rl tm ord tc)) hC 13 1 wX_13 rfl hb_23 wX_13_set dLi_chooseOffsets_124 ?_
      refine x_iinc (v := v2 + 1) (lv' := [(2, .int (v2 + 1)), (0, .ref (ad 10)), (1, .int v1), (3, .long v3_21), (5, .long v5_22)]) hC dLi_chooseOffsets_125 2 rfl rfl (by decide) rfl ?_
      refine x_goto (tgt := 2) hC dLi_chooseOffsets_128 (by decide) ?_
      refine x_lv [1, 2, 0] rfl ?_
      exact ih (v2 + 1) (vp_updL off v2.toNatClampNeg (if (if 0 < v5_22 then 0 else v5_22) < v3_21 then v3_21 else (if 0 < v5_22 then 0 else v5_22))) h

set_option maxHeartbeats 4000000 in
set_option maxRecDepth 100000 in
theorem c_Limits_chooseOffsets {l : Launch} {D : va_G} {ad : Nat → Nat} {cI cL cO : ClassId} {sc : Int32} {sd : Int32} {src : (Nat → Int32)} {itm : (Nat → Int32)} {knd : (Nat → Int32)} {plc : (Nat → Int32)} {clk : (Nat → Int64)} {ec : Int32} {nf : (Nat → Int32)} {ns : (Nat → Int32)} {nc : Int32} {wt : (Nat → Nat → Int64)} {bd : (Nat → Nat → Int64)} {off : (Nat → Int64)} {row : (Nat → Int32)} {hw : (Nat → Nat → Int64)} {rl : Int32} {tm : (Nat → Int64)} {ord : (Nat → Int32)} {tc : Int32} {a1 : Int32} {Qr : (Nat → Int64) → Prop} (h : Limits_chooseOffsets_wp bd off a1 Qr) (sz : Nat) : vx_Met l yLi_chooseOffsets (Cond.code yLi_chooseOffsets bLi_chooseOffsets 8 none :: TBL) rm_Limits_chooseOffsets (va_Pc [.ref (ad 10), .int a1] (XP D vwCl (tysX cI cL cO) (wX ad cI cL cO sc sd src itm knd plc clk ec nf ns nc wt bd off row hw rl tm ord tc) sz)) (va_Qv Qr (fun u t => XB D vwCl (tysX cI cL cO) (va_A (wX ad cI cL cO sc sd src itm knd plc clk ec nf ns nc wt bd off row hw rl tm ord tc) sz) (wX ad cI cL cO sc sd src itm knd plc clk ec nf ns nc wt bd u row hw rl tm ord tc) t) (va_A (wX ad cI cL cO sc sd src itm knd plc clk ec nf ns nc wt bd off row hw rl tm ord tc) sz)) (XT D vwCl (tysX cI cL cO) (va_A (wX ad cI cL cO sc sd src itm knd plc clk ec nf ns nc wt bd off row hw rl tm ord tc) sz) (wX ad cI cL cO sc sd src itm knd plc clk ec nf ns nc wt bd off row hw rl tm ord tc) (fun _ => False)) rm_Limits_chooseOffsets.cells rm_Limits_chooseOffsets.slots (va_A (wX ad cI cL cO sc sd src itm knd plc clk ec nf ns nc wt bd off row hw rl tm ord tc) sz) := by
  refine x_met [.ref (ad 10), .int a1] TBL_good (by decide) (Nat.le_of_ble_eq_true rfl) ?_
  intro p e s m args below meth c hC hr hlk hnm hnh
  have hret : ∀ (ce sl : Nat), ce ≤ rm_Limits_chooseOffsets.cells → sl ≤ rm_Limits_chooseOffsets.slots → ∀ (u : (Nat → Int64)), Qr u → ∀ (pc : Nat) (lv : List (Nat × Value)), decode bLi_chooseOffsets pc = .ok (.return_, 1) → XW p l e rm_Limits_chooseOffsets s m args below meth c D vwCl (va_A (wX ad cI cL cO sc sd src itm knd plc clk ec nf ns nc wt bd off row hw rl tm ord tc) sz) 8 (vx_MQ below (va_Qv Qr (fun u t => XB D vwCl (tysX cI cL cO) (va_A (wX ad cI cL cO sc sd src itm knd plc clk ec nf ns nc wt bd off row hw rl tm ord tc) sz) (wX ad cI cL cO sc sd src itm knd plc clk ec nf ns nc wt bd u row hw rl tm ord tc) t) (va_A (wX ad cI cL cO sc sd src itm knd plc clk ec nf ns nc wt bd off row hw rl tm ord tc) sz)) (XT D vwCl (tysX cI cL cO) (va_A (wX ad cI cL cO sc sd src itm knd plc clk ec nf ns nc wt bd off row hw rl tm ord tc) sz) (wX ad cI cL cO sc sd src itm knd plc clk ec nf ns nc wt bd off row hw rl tm ord tc) (fun _ => False)) args s rm_Limits_chooseOffsets.cells rm_Limits_chooseOffsets.slots (va_A (wX ad cI cL cO sc sd src itm knd plc clk ec nf ns nc wt bd off row hw rl tm ord tc) sz)) ce sl (wX ad cI cL cO sc sd src itm knd plc clk ec nf ns nc wt bd u row hw rl tm ord tc) pc lv [] := fun ce sl h1 h2 u hq pc lv hd => x_vret (wf := fun u => (wX ad cI cL cO sc sd src itm knd plc clk ec nf ns nc wt bd u row hw rl tm ord tc)) hC h1 h2 hr hlk hd hq rfl
  show XW p l e rm_Limits_chooseOffsets s m args below meth c D vwCl (va_A (wX ad cI cL cO sc sd src itm knd plc clk ec nf ns nc wt bd off row hw rl tm ord tc) sz) 8 _ 0 0 (wX ad cI cL cO sc sd src itm knd plc clk ec nf ns nc wt bd off row hw rl tm ord tc) 0 [(0, .ref (ad 10)), (1, .int a1)] []
  unfold Limits_chooseOffsets_wp at h
  refine x_iconst (v := 0) hC dLi_chooseOffsets_0 (by decide) ?_
  refine x_istore_n (lv' := [(2, .int 0), (0, .ref (ad 10)), (1, .int a1)]) hC dLi_chooseOffsets_1 rfl (by decide) rfl ?_
  obtain ⟨n_26, h⟩ := h
  refine x_lv [1, 2, 0] rfl ?_
  refine Limits_chooseOffsets_L2_ok hC (fun off_25 h => ?_) n_26 0 off h
  exact hret _ _ (by decide) (by decide) off_25 h _ _ dLi_chooseOffsets_131
end
section
theorem dRg_find_0 : decode bRg_find 0 = .ok (.aload_n 0, 1) := by decide +kernel
theorem dRg_find_1 : decode bRg_find 1 = .ok (.iconst 0, 1) := by decide +kernel
theorem dRg_find_2 : decode bRg_find 2 = .ok (.putfield 20, 3) := by decide +kernel
theorem dRg_find_5 : decode bRg_find 5 = .ok (.iload_n 1, 1) := by decide +kernel
theorem dRg_find_6 : decode bRg_find 6 = .ok (.istore_n 3, 1) := by decide +kernel
theorem dRg_find_7 : decode bRg_find 7 = .ok (.iconst 0, 1) := by decide +kernel
theorem dRg_find_8 : decode bRg_find 8 = .ok (.istore 4, 2) := by decide +kernel
theorem dRg_find_10 : decode bRg_find 10 = .ok (.iload 4, 2) := by decide +kernel
theorem dRg_find_12 : decode bRg_find 12 = .ok (.iload_n 1, 1) := by decide +kernel
theorem dRg_find_13 : decode bRg_find 13 = .ok (.if_icmp .ge 44, 3) := by decide +kernel
theorem dRg_find_16 : decode bRg_find 16 = .ok (.aload_n 0, 1) := by decide +kernel
theorem dRg_find_17 : decode bRg_find 17 = .ok (.iload 4, 2) := by decide +kernel
theorem dRg_find_19 : decode bRg_find 19 = .ok (.iload_n 3, 1) := by decide +kernel
theorem dRg_find_20 : decode bRg_find 20 = .ok (.iload_n 1, 1) := by decide +kernel
theorem dRg_find_21 : decode bRg_find 21 = .ok (.aload_n 2, 1) := by decide +kernel
theorem dRg_find_22 : decode bRg_find 22 = .ok (.invokevirtual 24, 3) := by decide +kernel
theorem dRg_stepsBack_0 : decode bRg_stepsBack 0 = .ok (.iconst 0, 1) := by decide +kernel
theorem dRg_stepsBack_1 : decode bRg_stepsBack 1 = .ok (.istore 5, 2) := by decide +kernel
theorem dRg_stepsBack_3 : decode bRg_stepsBack 3 = .ok (.iload 5, 2) := by decide +kernel
theorem dRg_stepsBack_5 : decode bRg_stepsBack 5 = .ok (.iload_n 3, 1) := by decide +kernel
theorem dRg_stepsBack_6 : decode bRg_stepsBack 6 = .ok (.if_icmp .ge 21, 3) := by decide +kernel
theorem dRg_stepsBack_9 : decode bRg_stepsBack 9 = .ok (.aload_n 0, 1) := by decide +kernel
theorem dRg_stepsBack_10 : decode bRg_stepsBack 10 = .ok (.getfield 17, 3) := by decide +kernel
theorem dRg_stepsBack_13 : decode bRg_stepsBack 13 = .ok (.iconst 0, 1) := by decide +kernel
theorem dRg_stepsBack_14 : decode bRg_stepsBack 14 = .ok (.aaload, 1) := by decide +kernel
theorem dRg_stepsBack_15 : decode bRg_stepsBack 15 = .ok (.iload 5, 2) := by decide +kernel
theorem dRg_stepsBack_17 : decode bRg_stepsBack 17 = .ok (.ldc2_w 32, 3) := by decide +kernel
theorem dRg_stepsBack_20 : decode bRg_stepsBack 20 = .ok (.lastore, 1) := by decide +kernel
theorem dRg_stepsBack_21 : decode bRg_stepsBack 21 = .ok (.iinc 5 1, 3) := by decide +kernel
theorem dRg_stepsBack_24 : decode bRg_stepsBack 24 = .ok (.goto (-21), 3) := by decide +kernel
theorem dRg_stepsBack_27 : decode bRg_stepsBack 27 = .ok (.aload_n 0, 1) := by decide +kernel
theorem dRg_stepsBack_28 : decode bRg_stepsBack 28 = .ok (.getfield 17, 3) := by decide +kernel
theorem dRg_stepsBack_31 : decode bRg_stepsBack 31 = .ok (.iconst 0, 1) := by decide +kernel
theorem dRg_stepsBack_32 : decode bRg_stepsBack 32 = .ok (.aaload, 1) := by decide +kernel
theorem dRg_stepsBack_33 : decode bRg_stepsBack 33 = .ok (.iload_n 1, 1) := by decide +kernel
theorem dRg_stepsBack_34 : decode bRg_stepsBack 34 = .ok (.lconst 0, 1) := by decide +kernel
theorem dRg_stepsBack_35 : decode bRg_stepsBack 35 = .ok (.lastore, 1) := by decide +kernel
theorem dRg_stepsBack_36 : decode bRg_stepsBack 36 = .ok (.iconst 1, 1) := by decide +kernel
theorem dRg_stepsBack_37 : decode bRg_stepsBack 37 = .ok (.istore 5, 2) := by decide +kernel
theorem dRg_stepsBack_39 : decode bRg_stepsBack 39 = .ok (.iload 5, 2) := by decide +kernel
theorem dRg_stepsBack_41 : decode bRg_stepsBack 41 = .ok (.iload_n 2, 1) := by decide +kernel
theorem dRg_stepsBack_42 : decode bRg_stepsBack 42 = .ok (.if_icmp .gt 69, 3) := by decide +kernel
theorem dRg_stepsBack_45 : decode bRg_stepsBack 45 = .ok (.iconst 0, 1) := by decide +kernel
theorem dRg_stepsBack_46 : decode bRg_stepsBack 46 = .ok (.istore 6, 2) := by decide +kernel
theorem dRg_stepsBack_48 : decode bRg_stepsBack 48 = .ok (.iload 6, 2) := by decide +kernel
theorem dRg_stepsBack_50 : decode bRg_stepsBack 50 = .ok (.iload_n 3, 1) := by decide +kernel
theorem dRg_stepsBack_51 : decode bRg_stepsBack 51 = .ok (.if_icmp .ge 37, 3) := by decide +kernel
theorem dRg_stepsBack_54 : decode bRg_stepsBack 54 = .ok (.aload_n 0, 1) := by decide +kernel
theorem dRg_stepsBack_55 : decode bRg_stepsBack 55 = .ok (.getfield 17, 3) := by decide +kernel
theorem dRg_stepsBack_58 : decode bRg_stepsBack 58 = .ok (.iload 5, 2) := by decide +kernel
theorem dRg_stepsBack_60 : decode bRg_stepsBack 60 = .ok (.aaload, 1) := by decide +kernel
theorem dRg_stepsBack_61 : decode bRg_stepsBack 61 = .ok (.iload 6, 2) := by decide +kernel
theorem dRg_stepsBack_63 : decode bRg_stepsBack 63 = .ok (.aload 4, 2) := by decide +kernel
theorem dRg_stepsBack_65 : decode bRg_stepsBack 65 = .ok (.iload 6, 2) := by decide +kernel
theorem dRg_stepsBack_67 : decode bRg_stepsBack 67 = .ok (.aaload, 1) := by decide +kernel
theorem dRg_stepsBack_68 : decode bRg_stepsBack 68 = .ok (.aload_n 0, 1) := by decide +kernel
theorem dRg_stepsBack_69 : decode bRg_stepsBack 69 = .ok (.getfield 17, 3) := by decide +kernel
theorem dRg_stepsBack_72 : decode bRg_stepsBack 72 = .ok (.iload 5, 2) := by decide +kernel
theorem dRg_stepsBack_74 : decode bRg_stepsBack 74 = .ok (.iconst 1, 1) := by decide +kernel
theorem dRg_stepsBack_75 : decode bRg_stepsBack 75 = .ok (.isub, 1) := by decide +kernel
theorem dRg_stepsBack_76 : decode bRg_stepsBack 76 = .ok (.aaload, 1) := by decide +kernel
theorem dRg_stepsBack_77 : decode bRg_stepsBack 77 = .ok (.iload_n 3, 1) := by decide +kernel
theorem dRg_stepsBack_78 : decode bRg_stepsBack 78 = .ok (.invokestatic 34, 3) := by decide +kernel
theorem dRg_leastThroughNext_0 : decode bRg_leastThroughNext 0 = .ok (.ldc2_w 32, 3) := by decide +kernel
theorem dRg_leastThroughNext_3 : decode bRg_leastThroughNext 3 = .ok (.lstore_n 3, 1) := by decide +kernel
theorem dRg_leastThroughNext_4 : decode bRg_leastThroughNext 4 = .ok (.iconst 0, 1) := by decide +kernel
theorem dRg_leastThroughNext_5 : decode bRg_leastThroughNext 5 = .ok (.istore 5, 2) := by decide +kernel
theorem dRg_leastThroughNext_7 : decode bRg_leastThroughNext 7 = .ok (.iload 5, 2) := by decide +kernel
theorem dRg_leastThroughNext_9 : decode bRg_leastThroughNext 9 = .ok (.iload_n 2, 1) := by decide +kernel
theorem dRg_leastThroughNext_10 : decode bRg_leastThroughNext 10 = .ok (.if_icmp .ge 45, 3) := by decide +kernel
theorem dRg_leastThroughNext_13 : decode bRg_leastThroughNext 13 = .ok (.aload_n 0, 1) := by decide +kernel
theorem dRg_leastThroughNext_14 : decode bRg_leastThroughNext 14 = .ok (.iload 5, 2) := by decide +kernel
theorem dRg_leastThroughNext_16 : decode bRg_leastThroughNext 16 = .ok (.laload, 1) := by decide +kernel
theorem dRg_leastThroughNext_17 : decode bRg_leastThroughNext 17 = .ok (.ldc2_w 32, 3) := by decide +kernel
theorem dRg_leastThroughNext_20 : decode bRg_leastThroughNext 20 = .ok (.lcmp, 1) := by decide +kernel
theorem dRg_leastThroughNext_21 : decode bRg_leastThroughNext 21 = .ok (.ifCond .eq 28, 3) := by decide +kernel
theorem dRg_leastThroughNext_49 : decode bRg_leastThroughNext 49 = .ok (.iinc 5 1, 3) := by decide +kernel
theorem dRg_leastThroughNext_52 : decode bRg_leastThroughNext 52 = .ok (.goto (-45), 3) := by decide +kernel
theorem dRg_leastThroughNext_24 : decode bRg_leastThroughNext 24 = .ok (.aload_n 1, 1) := by decide +kernel
theorem dRg_leastThroughNext_25 : decode bRg_leastThroughNext 25 = .ok (.iload 5, 2) := by decide +kernel
theorem dRg_leastThroughNext_27 : decode bRg_leastThroughNext 27 = .ok (.laload, 1) := by decide +kernel
theorem dRg_leastThroughNext_28 : decode bRg_leastThroughNext 28 = .ok (.ldc2_w 32, 3) := by decide +kernel
theorem dRg_leastThroughNext_31 : decode bRg_leastThroughNext 31 = .ok (.lcmp, 1) := by decide +kernel
theorem dRg_leastThroughNext_32 : decode bRg_leastThroughNext 32 = .ok (.ifCond .eq 17, 3) := by decide +kernel
theorem dRg_leastThroughNext_35 : decode bRg_leastThroughNext 35 = .ok (.lload_n 3, 1) := by decide +kernel
theorem dRg_leastThroughNext_36 : decode bRg_leastThroughNext 36 = .ok (.aload_n 0, 1) := by decide +kernel
theorem dRg_leastThroughNext_37 : decode bRg_leastThroughNext 37 = .ok (.iload 5, 2) := by decide +kernel
theorem dRg_leastThroughNext_39 : decode bRg_leastThroughNext 39 = .ok (.laload, 1) := by decide +kernel
theorem dRg_leastThroughNext_40 : decode bRg_leastThroughNext 40 = .ok (.aload_n 1, 1) := by decide +kernel
theorem dRg_leastThroughNext_41 : decode bRg_leastThroughNext 41 = .ok (.iload 5, 2) := by decide +kernel
theorem dRg_leastThroughNext_43 : decode bRg_leastThroughNext 43 = .ok (.laload, 1) := by decide +kernel
theorem dRg_leastThroughNext_44 : decode bRg_leastThroughNext 44 = .ok (.ladd, 1) := by decide +kernel
theorem dRg_leastThroughNext_45 : decode bRg_leastThroughNext 45 = .ok (.invokestatic 38, 3) := by decide +kernel
theorem dRg_leastThroughNext_48 : decode bRg_leastThroughNext 48 = .ok (.lstore_n 3, 1) := by decide +kernel
theorem dRg_leastThroughNext_55 : decode bRg_leastThroughNext 55 = .ok (.lload_n 3, 1) := by decide +kernel
theorem dRg_leastThroughNext_56 : decode bRg_leastThroughNext 56 = .ok (.lreturn, 1) := by decide +kernel
theorem dRg_stepsBack_81 : decode bRg_stepsBack 81 = .ok (.lastore, 1) := by decide +kernel
theorem dRg_stepsBack_82 : decode bRg_stepsBack 82 = .ok (.iinc 6 1, 3) := by decide +kernel
theorem dRg_stepsBack_85 : decode bRg_stepsBack 85 = .ok (.goto (-37), 3) := by decide +kernel
theorem dRg_stepsBack_88 : decode bRg_stepsBack 88 = .ok (.aload_n 0, 1) := by decide +kernel
theorem dRg_stepsBack_89 : decode bRg_stepsBack 89 = .ok (.getfield 17, 3) := by decide +kernel
theorem dRg_stepsBack_92 : decode bRg_stepsBack 92 = .ok (.iload 5, 2) := by decide +kernel
theorem dRg_stepsBack_94 : decode bRg_stepsBack 94 = .ok (.aaload, 1) := by decide +kernel
theorem dRg_stepsBack_95 : decode bRg_stepsBack 95 = .ok (.iload_n 1, 1) := by decide +kernel
theorem dRg_stepsBack_96 : decode bRg_stepsBack 96 = .ok (.laload, 1) := by decide +kernel
theorem dRg_stepsBack_97 : decode bRg_stepsBack 97 = .ok (.lconst 0, 1) := by decide +kernel
theorem dRg_stepsBack_98 : decode bRg_stepsBack 98 = .ok (.lcmp, 1) := by decide +kernel
theorem dRg_stepsBack_99 : decode bRg_stepsBack 99 = .ok (.ifCond .ge 6, 3) := by decide +kernel
theorem dRg_stepsBack_105 : decode bRg_stepsBack 105 = .ok (.iinc 5 1, 3) := by decide +kernel
theorem dRg_stepsBack_108 : decode bRg_stepsBack 108 = .ok (.goto (-69), 3) := by decide +kernel
theorem dRg_stepsBack_102 : decode bRg_stepsBack 102 = .ok (.iload 5, 2) := by decide +kernel
theorem dRg_stepsBack_104 : decode bRg_stepsBack 104 = .ok (.ireturn, 1) := by decide +kernel
theorem dRg_stepsBack_111 : decode bRg_stepsBack 111 = .ok (.iconst 0, 1) := by decide +kernel
theorem dRg_stepsBack_112 : decode bRg_stepsBack 112 = .ok (.ireturn, 1) := by decide +kernel
theorem dRg_find_25 : decode bRg_find 25 = .ok (.istore 5, 2) := by decide +kernel
theorem dRg_find_27 : decode bRg_find 27 = .ok (.iload 5, 2) := by decide +kernel
theorem dRg_find_29 : decode bRg_find 29 = .ok (.ifCond .le 22, 3) := by decide +kernel
theorem dRg_find_51 : decode bRg_find 51 = .ok (.iinc 4 1, 3) := by decide +kernel
theorem dRg_find_54 : decode bRg_find 54 = .ok (.goto (-44), 3) := by decide +kernel
theorem dRg_find_32 : decode bRg_find 32 = .ok (.aload_n 0, 1) := by decide +kernel
theorem dRg_find_33 : decode bRg_find 33 = .ok (.iload 5, 2) := by decide +kernel
theorem dRg_find_35 : decode bRg_find 35 = .ok (.putfield 20, 3) := by decide +kernel
theorem dRg_find_38 : decode bRg_find 38 = .ok (.iload 5, 2) := by decide +kernel
theorem dRg_find_40 : decode bRg_find 40 = .ok (.iconst 1, 1) := by decide +kernel
theorem dRg_find_41 : decode bRg_find 41 = .ok (.isub, 1) := by decide +kernel
theorem dRg_find_42 : decode bRg_find 42 = .ok (.istore_n 3, 1) := by decide +kernel
theorem dRg_find_43 : decode bRg_find 43 = .ok (.aload_n 0, 1) := by decide +kernel
theorem dRg_find_44 : decode bRg_find 44 = .ok (.iload 4, 2) := by decide +kernel
theorem dRg_find_46 : decode bRg_find 46 = .ok (.iload_n 1, 1) := by decide +kernel
theorem dRg_find_47 : decode bRg_find 47 = .ok (.aload_n 2, 1) := by decide +kernel
theorem dRg_find_48 : decode bRg_find 48 = .ok (.invokevirtual 28, 3) := by decide +kernel
theorem dRg_trace_0 : decode bRg_trace 0 = .ok (.aload_n 0, 1) := by decide +kernel
theorem dRg_trace_1 : decode bRg_trace 1 = .ok (.getfield 9, 3) := by decide +kernel
theorem dRg_trace_4 : decode bRg_trace 4 = .ok (.iconst 0, 1) := by decide +kernel
theorem dRg_trace_5 : decode bRg_trace 5 = .ok (.iload_n 1, 1) := by decide +kernel
theorem dRg_trace_6 : decode bRg_trace 6 = .ok (.iastore, 1) := by decide +kernel
theorem dRg_trace_7 : decode bRg_trace 7 = .ok (.lconst 0, 1) := by decide +kernel
theorem dRg_trace_8 : decode bRg_trace 8 = .ok (.lstore 4, 2) := by decide +kernel
theorem dRg_trace_10 : decode bRg_trace 10 = .ok (.iconst 1, 1) := by decide +kernel
theorem dRg_trace_11 : decode bRg_trace 11 = .ok (.istore 6, 2) := by decide +kernel
theorem dRg_trace_13 : decode bRg_trace 13 = .ok (.iload 6, 2) := by decide +kernel
theorem dRg_trace_15 : decode bRg_trace 15 = .ok (.aload_n 0, 1) := by decide +kernel
theorem dRg_trace_16 : decode bRg_trace 16 = .ok (.getfield 20, 3) := by decide +kernel
theorem dRg_trace_19 : decode bRg_trace 19 = .ok (.if_icmp .ge 64, 3) := by decide +kernel
theorem dRg_trace_22 : decode bRg_trace 22 = .ok (.aload_n 3, 1) := by decide +kernel
theorem dRg_trace_23 : decode bRg_trace 23 = .ok (.aload_n 0, 1) := by decide +kernel
theorem dRg_trace_24 : decode bRg_trace 24 = .ok (.getfield 9, 3) := by decide +kernel
theorem dRg_trace_27 : decode bRg_trace 27 = .ok (.iload 6, 2) := by decide +kernel
theorem dRg_trace_29 : decode bRg_trace 29 = .ok (.iconst 1, 1) := by decide +kernel
theorem dRg_trace_30 : decode bRg_trace 30 = .ok (.isub, 1) := by decide +kernel
theorem dRg_trace_31 : decode bRg_trace 31 = .ok (.iaload, 1) := by decide +kernel
theorem dRg_trace_32 : decode bRg_trace 32 = .ok (.aaload, 1) := by decide +kernel
theorem dRg_trace_33 : decode bRg_trace 33 = .ok (.astore 7, 2) := by decide +kernel
theorem dRg_trace_35 : decode bRg_trace 35 = .ok (.aload_n 0, 1) := by decide +kernel
theorem dRg_trace_36 : decode bRg_trace 36 = .ok (.getfield 9, 3) := by decide +kernel
theorem dRg_trace_39 : decode bRg_trace 39 = .ok (.iload 6, 2) := by decide +kernel
theorem dRg_trace_41 : decode bRg_trace 41 = .ok (.lload 4, 2) := by decide +kernel
theorem dRg_trace_43 : decode bRg_trace 43 = .ok (.aload 7, 2) := by decide +kernel
theorem dRg_trace_45 : decode bRg_trace 45 = .ok (.aload_n 0, 1) := by decide +kernel
theorem dRg_trace_46 : decode bRg_trace 46 = .ok (.getfield 17, 3) := by decide +kernel
theorem dRg_trace_49 : decode bRg_trace 49 = .ok (.aload_n 0, 1) := by decide +kernel
theorem dRg_trace_50 : decode bRg_trace 50 = .ok (.getfield 20, 3) := by decide +kernel
theorem dRg_trace_53 : decode bRg_trace 53 = .ok (.iload 6, 2) := by decide +kernel
theorem dRg_trace_55 : decode bRg_trace 55 = .ok (.isub, 1) := by decide +kernel
theorem dRg_trace_56 : decode bRg_trace 56 = .ok (.aaload, 1) := by decide +kernel
theorem dRg_trace_57 : decode bRg_trace 57 = .ok (.iload_n 2, 1) := by decide +kernel
theorem dRg_trace_58 : decode bRg_trace 58 = .ok (.invokestatic 44, 3) := by decide +kernel
theorem dRg_leastNext_0 : decode bRg_leastNext 0 = .ok (.iconst 0, 1) := by decide +kernel
theorem dRg_leastNext_1 : decode bRg_leastNext 1 = .ok (.istore 5, 2) := by decide +kernel
theorem dRg_leastNext_3 : decode bRg_leastNext 3 = .ok (.iload 5, 2) := by decide +kernel
theorem dRg_leastNext_5 : decode bRg_leastNext 5 = .ok (.iload 4, 2) := by decide +kernel
theorem dRg_leastNext_7 : decode bRg_leastNext 7 = .ok (.if_icmp .ge 50, 3) := by decide +kernel
theorem dRg_leastNext_10 : decode bRg_leastNext 10 = .ok (.aload_n 2, 1) := by decide +kernel
theorem dRg_leastNext_11 : decode bRg_leastNext 11 = .ok (.iload 5, 2) := by decide +kernel
theorem dRg_leastNext_13 : decode bRg_leastNext 13 = .ok (.laload, 1) := by decide +kernel
theorem dRg_leastNext_14 : decode bRg_leastNext 14 = .ok (.ldc2_w 32, 3) := by decide +kernel
theorem dRg_leastNext_17 : decode bRg_leastNext 17 = .ok (.lcmp, 1) := by decide +kernel
theorem dRg_leastNext_18 : decode bRg_leastNext 18 = .ok (.ifCond .eq 33, 3) := by decide +kernel
theorem dRg_leastNext_51 : decode bRg_leastNext 51 = .ok (.iinc 5 1, 3) := by decide +kernel
theorem dRg_leastNext_54 : decode bRg_leastNext 54 = .ok (.goto (-51), 3) := by decide +kernel
theorem dRg_leastNext_21 : decode bRg_leastNext 21 = .ok (.aload_n 3, 1) := by decide +kernel
theorem dRg_leastNext_22 : decode bRg_leastNext 22 = .ok (.iload 5, 2) := by decide +kernel
theorem dRg_leastNext_24 : decode bRg_leastNext 24 = .ok (.laload, 1) := by decide +kernel
theorem dRg_leastNext_25 : decode bRg_leastNext 25 = .ok (.ldc2_w 32, 3) := by decide +kernel
theorem dRg_leastNext_28 : decode bRg_leastNext 28 = .ok (.lcmp, 1) := by decide +kernel
theorem dRg_leastNext_29 : decode bRg_leastNext 29 = .ok (.ifCond .eq 22, 3) := by decide +kernel
theorem dRg_leastNext_32 : decode bRg_leastNext 32 = .ok (.lload_n 0, 1) := by decide +kernel
theorem dRg_leastNext_33 : decode bRg_leastNext 33 = .ok (.aload_n 2, 1) := by decide +kernel
theorem dRg_leastNext_34 : decode bRg_leastNext 34 = .ok (.iload 5, 2) := by decide +kernel
theorem dRg_leastNext_36 : decode bRg_leastNext 36 = .ok (.laload, 1) := by decide +kernel
theorem dRg_leastNext_37 : decode bRg_leastNext 37 = .ok (.ladd, 1) := by decide +kernel
theorem dRg_leastNext_38 : decode bRg_leastNext 38 = .ok (.aload_n 3, 1) := by decide +kernel
theorem dRg_leastNext_39 : decode bRg_leastNext 39 = .ok (.iload 5, 2) := by decide +kernel
theorem dRg_leastNext_41 : decode bRg_leastNext 41 = .ok (.laload, 1) := by decide +kernel
theorem dRg_leastNext_42 : decode bRg_leastNext 42 = .ok (.ladd, 1) := by decide +kernel
theorem dRg_leastNext_43 : decode bRg_leastNext 43 = .ok (.lconst 0, 1) := by decide +kernel
theorem dRg_leastNext_44 : decode bRg_leastNext 44 = .ok (.lcmp, 1) := by decide +kernel
theorem dRg_leastNext_45 : decode bRg_leastNext 45 = .ok (.ifCond .ge 6, 3) := by decide +kernel
theorem dRg_leastNext_48 : decode bRg_leastNext 48 = .ok (.iload 5, 2) := by decide +kernel
theorem dRg_leastNext_50 : decode bRg_leastNext 50 = .ok (.ireturn, 1) := by decide +kernel
theorem dRg_leastNext_57 : decode bRg_leastNext 57 = .ok (.iconst 0, 1) := by decide +kernel
theorem dRg_leastNext_58 : decode bRg_leastNext 58 = .ok (.ireturn, 1) := by decide +kernel
theorem dRg_trace_61 : decode bRg_trace 61 = .ok (.iastore, 1) := by decide +kernel
theorem dRg_trace_62 : decode bRg_trace 62 = .ok (.lload 4, 2) := by decide +kernel
theorem dRg_trace_64 : decode bRg_trace 64 = .ok (.aload 7, 2) := by decide +kernel
theorem dRg_trace_66 : decode bRg_trace 66 = .ok (.aload_n 0, 1) := by decide +kernel
theorem dRg_trace_67 : decode bRg_trace 67 = .ok (.getfield 9, 3) := by decide +kernel
theorem dRg_trace_70 : decode bRg_trace 70 = .ok (.iload 6, 2) := by decide +kernel
theorem dRg_trace_72 : decode bRg_trace 72 = .ok (.iaload, 1) := by decide +kernel
theorem dRg_trace_73 : decode bRg_trace 73 = .ok (.laload, 1) := by decide +kernel
theorem dRg_trace_74 : decode bRg_trace 74 = .ok (.ladd, 1) := by decide +kernel
theorem dRg_trace_75 : decode bRg_trace 75 = .ok (.lstore 4, 2) := by decide +kernel
theorem dRg_trace_77 : decode bRg_trace 77 = .ok (.iinc 6 1, 3) := by decide +kernel
theorem dRg_trace_80 : decode bRg_trace 80 = .ok (.goto (-67), 3) := by decide +kernel
theorem dRg_trace_83 : decode bRg_trace 83 = .ok (.return_, 1) := by decide +kernel
theorem dRg_find_57 : decode bRg_find 57 = .ok (.return_, 1) := by decide +kernel
theorem k_x36 : (.fieldLink RRg 20 RRg "length" "I" : Cond) ∈ TBL := TBL_in (by decide +kernel) (by decide +kernel)
theorem k_x37 : (.fieldLink RRg 17 RRg "homeward" "[[J" : Cond) ∈ TBL := TBL_in (by decide +kernel) (by decide +kernel)
theorem k_x38 : (.constantLong RRg 32 9223372036854775807 : Cond) ∈ TBL := TBL_in (by decide +kernel) (by decide +kernel)
theorem k_x39 : (.methodLink RRg 38 Lib.MathLoose.min_long.x : Cond) ∈ TBL := TBL_in (by decide +kernel) (by decide +kernel)
theorem k_x40 : (.code yRg_leastThroughNext bRg_leastThroughNext 6 (some .long) : Cond) ∈ TBL := TBL_in (by decide +kernel) (by decide +kernel)
theorem k_x41 : (.initialized yRg_leastThroughNext.cls : Cond) ∈ TBL := TBL_in (by decide +kernel) (by decide +kernel)
theorem k_x42 : (.methodLink RRg 34 yRg_leastThroughNext : Cond) ∈ TBL := TBL_in (by decide +kernel) (by decide +kernel)
theorem k_x43 : (.static yRg_leastThroughNext : Cond) ∈ TBL := TBL_in (by decide +kernel) (by decide +kernel)
theorem k_x44 : (.fieldLink RRg 9 RRg "row" "[I" : Cond) ∈ TBL := TBL_in (by decide +kernel) (by decide +kernel)
theorem k_x45 : (.code yRg_leastNext bRg_leastNext 6 (some .int) : Cond) ∈ TBL := TBL_in (by decide +kernel) (by decide +kernel)
theorem k_x46 : (.initialized yRg_leastNext.cls : Cond) ∈ TBL := TBL_in (by decide +kernel) (by decide +kernel)
theorem k_x47 : (.methodLink RRg 44 yRg_leastNext : Cond) ∈ TBL := TBL_in (by decide +kernel) (by decide +kernel)
theorem k_x48 : (.static yRg_leastNext : Cond) ∈ TBL := TBL_in (by decide +kernel) (by decide +kernel)
theorem k_x49 : (.code yRg_trace bRg_trace 8 none : Cond) ∈ TBL := TBL_in (by decide +kernel) (by decide +kernel)
theorem k_x50 : (.initialized yRg_trace.cls : Cond) ∈ TBL := TBL_in (by decide +kernel) (by decide +kernel)
theorem k_x51 : (.methodLink RRg 28 yRg_trace : Cond) ∈ TBL := TBL_in (by decide +kernel) (by decide +kernel)
theorem k_x52 : (.instanceMethod yRg_trace : Cond) ∈ TBL := TBL_in (by decide +kernel) (by decide +kernel)
theorem k_x53 : (.selects RRg yRg_trace yRg_trace : Cond) ∈ TBL := TBL_in (by decide +kernel) (by decide +kernel)
theorem k_x54 : (.code yRg_stepsBack bRg_stepsBack 7 (some .int) : Cond) ∈ TBL := TBL_in (by decide +kernel) (by decide +kernel)
theorem k_x55 : (.initialized yRg_stepsBack.cls : Cond) ∈ TBL := TBL_in (by decide +kernel) (by decide +kernel)
theorem k_x56 : (.methodLink RRg 24 yRg_stepsBack : Cond) ∈ TBL := TBL_in (by decide +kernel) (by decide +kernel)
theorem k_x57 : (.instanceMethod yRg_stepsBack : Cond) ∈ TBL := TBL_in (by decide +kernel) (by decide +kernel)
theorem k_x58 : (.selects RRg yRg_stepsBack yRg_stepsBack : Cond) ∈ TBL := TBL_in (by decide +kernel) (by decide +kernel)
end
section
/-! EventOrder$Ring.leastThroughNext([J[JI)J -/
abbrev rm_Ring_leastThroughNext_wt_hw : Room := { frames := 1, cells := 0, slots := 0, locals := 40 }
def Ring_leastThroughNext_wt_hw_L7 (v2 : Int32) (g0 : Nat) (g1 : Nat) (wt : (Nat → Nat → Int64)) (hw : (Nat → Nat → Int64)) (Qx : Int64 → Prop) : Nat → Int64 → Int32 → Prop
  | 0, _, _ => False
  | n + 1, v3, v5 => ((v2 ≤ v5 → Qx v3) ∧ (¬ v2 ≤ v5 → vp_in v5 16 ∧ ((((wt g0) v5.toNatClampNeg) = 9223372036854775807 → Ring_leastThroughNext_wt_hw_L7 v2 g0 g1 wt hw Qx n v3 (v5 + 1)) ∧ (¬ ((wt g0) v5.toNatClampNeg) = 9223372036854775807 → vp_in v5 16 ∧ ((((hw g1) v5.toNatClampNeg) = 9223372036854775807 → Ring_leastThroughNext_wt_hw_L7 v2 g0 g1 wt hw Qx n v3 (v5 + 1)) ∧ (¬ ((hw g1) v5.toNatClampNeg) = 9223372036854775807 → vp_in v5 16 ∧ vp_in v5 16 ∧ Ring_leastThroughNext_wt_hw_L7 v2 g0 g1 wt hw Qx n (if (((wt g0) v5.toNatClampNeg) + ((hw g1) v5.toNatClampNeg)) < v3 then (((wt g0) v5.toNatClampNeg) + ((hw g1) v5.toNatClampNeg)) else v3) (v5 + 1)))))))

def Ring_leastThroughNext_wt_hw_wp (wt : (Nat → Nat → Int64)) (hw : (Nat → Nat → Int64)) (g0 : Nat) (g1 : Nat) (a2 : Int32) (Qr : Int64 → Unit → Prop) : Prop := (∃ n_9 : Nat, Ring_leastThroughNext_wt_hw_L7 a2 g0 g1 wt hw (fun (v3_8 : Int64) => Qr v3_8 ()) n_9 9223372036854775807 0)
set_option maxHeartbeats 4000000 in
set_option maxRecDepth 100000 in
theorem Ring_leastThroughNext_wt_hw_L7_ok {p : Program} {l : Launch} {e : Env} {s : State} {m : MethodId} {args : Array Value} {below : List Frame} {meth : Method} {c : Code} {Q : State → Prop} {D : va_G} {A : Nat → Prop} {ad : Nat → Nat} {cI cL cO : ClassId} {sc : Int32} {sd : Int32} {src : (Nat → Int32)} {itm : (Nat → Int32)} {knd : (Nat → Int32)} {plc : (Nat → Int32)} {clk : (Nat → Int64)} {ec : Int32} {nf : (Nat → Int32)} {ns : (Nat → Int32)} {nc : Int32} {wt : (Nat → Nat → Int64)} {bd : (Nat → Nat → Int64)} {off : (Nat → Int64)} {row : (Nat → Int32)} {hw : (Nat → Nat → Int64)} {rl : Int32} {tm : (Nat → Int64)} {ord : (Nat → Int32)} {tc : Int32} {v2 : Int32} {g0 : Nat} {g1 : Nat} {Qx : Int64 → Prop} (hg0 : g0 < 16) (hg1 : g1 < 17) (hC : XC p s m args c D vwCl (tysX cI cL cO) A 6 bRg_leastThroughNext TBL RRg)  (hexit : ∀ (v3 : Int64), Qx v3 → XW p l e rm_Ring_leastThroughNext_wt_hw s m args below meth c D vwCl A 6 Q 0 0 (wX ad cI cL cO sc sd src itm knd plc clk ec nf ns nc wt bd off row hw rl tm ord tc) 55 [(3, .long v3)] []) : ∀ (n : Nat) (v3 : Int64) (v5 : Int32), Ring_leastThroughNext_wt_hw_L7 v2 g0 g1 wt hw Qx n v3 v5 → XW p l e rm_Ring_leastThroughNext_wt_hw s m args below meth c D vwCl A 6 Q 0 0 (wX ad cI cL cO sc sd src itm knd plc clk ec nf ns nc wt bd off row hw rl tm ord tc) 7 [(0, .ref (ad (20 + g0))), (1, .ref (ad (52 + g1))), (2, .int v2), (3, .long v3), (5, .int v5)] [] := by
  intro n
  induction n with
  | zero => intro v3 v5 h; exact False.elim h
  | succ n ih =>
    intro v3 v5 h
    unfold Ring_leastThroughNext_wt_hw_L7 at h
    refine x_iload hC dRg_leastThroughNext_7 4 rfl ?_
    refine x_iload_n hC dRg_leastThroughNext_9 rfl 2 rfl ?_
    refine x_icmp_ge (tgt := 55) hC dRg_leastThroughNext_10 (by decide) (fun c_1 => ?_) (fun c_1 => ?_)
    · have h := h.1 c_1
      refine x_lv [3] rfl ?_
      exact hexit v3 h
    · have h := h.2 c_1
      refine x_aload_n hC dRg_leastThroughNext_13 rfl 0 rfl ?_
      refine x_iload hC dRg_leastThroughNext_14 4 rfl ?_
      obtain ⟨hb_2, h⟩ := h
      refine x_lald hC (20 + g0) 1 (wX_wt hg0) rfl hb_2 dRg_leastThroughNext_16 ?_
      refine x_ldc2 (v := 9223372036854775807) hC k_x38 dRg_leastThroughNext_17 ?_
      refine x_lcmp_eq (tgt := 49) hC dRg_leastThroughNext_20 dRg_leastThroughNext_21 (by decide) (fun c_3 => ?_) (fun c_3 => ?_)
      · have h := h.1 c_3
        refine x_iinc (v := v5 + 1) (lv' := [(5, .int (v5 + 1)), (0, .ref (ad (20 + g0))), (1, .ref (ad (52 + g1))), (2, .int v2), (3, .long v3)]) hC dRg_leastThroughNext_49 4 rfl rfl (by decide) rfl ?_
        refine x_goto (tgt := 7) hC dRg_leastThroughNext_52 (by decide) ?_
        refine x_lv [1, 2, 3, 4, 0] rfl ?_
        exact ih v3 (v5 + 1) h
      · have h := h.2 c_3
        refine x_aload_n hC dRg_leastThroughNext_24 rfl 1 rfl ?_
        refine x_iload hC dRg_leastThroughNext_25 4 rfl ?_
        obtain ⟨hb_4, h⟩ := h
        refine x_lald hC (52 + g1) 1 (wX_hw hg1) rfl hb_4 dRg_leastThroughNext_27 ?_
        refine x_ldc2 (v := 9223372036854775807) hC k_x38 dRg_leastThroughNext_28 ?_
        refine x_lcmp_eq (tgt := 49) hC dRg_leastThroughNext_31 dRg_leastThroughNext_32 (by decide) (fun c_5 => ?_) (fun c_5 => ?_)
        · have h := h.1 c_5
          refine x_iinc (v := v5 + 1) (lv' := [(5, .int (v5 + 1)), (0, .ref (ad (20 + g0))), (1, .ref (ad (52 + g1))), (2, .int v2), (3, .long v3)]) hC dRg_leastThroughNext_49 4 rfl rfl (by decide) rfl ?_
          refine x_goto (tgt := 7) hC dRg_leastThroughNext_52 (by decide) ?_
          refine x_lv [1, 2, 3, 4, 0] rfl ?_
          exact ih v3 (v5 + 1) h
        · have h := h.2 c_5
          refine x_lload_n hC dRg_leastThroughNext_35 rfl 3 rfl ?_
          refine x_aload_n hC dRg_leastThroughNext_36 rfl 0 rfl ?_
          refine x_iload hC dRg_leastThroughNext_37 4 rfl ?_
          obtain ⟨hb_6, h⟩ := h
          refine x_lald hC (20 + g0) 1 (wX_wt hg0) rfl hb_6 dRg_leastThroughNext_39 ?_
          refine x_aload_n hC dRg_leastThroughNext_40 rfl 1 rfl ?_
          refine x_iload hC dRg_leastThroughNext_41 4 rfl ?_
          obtain ⟨hb_7, h⟩ := h
          refine x_lald hC (52 + g1) 1 (wX_hw hg1) rfl hb_7 dRg_leastThroughNext_43 ?_
          refine x_ladd hC dRg_leastThroughNext_44 ?_
          refine x_mminl hC k_x39 k_x17 k_x18 k_x19 (by decide) (Nat.le_of_ble_eq_true rfl) (by decide) (by decide) dRg_leastThroughNext_45 ?_
          refine x_lstore_n (lv' := [(3, .long (if (((wt g0) v5.toNatClampNeg) + ((hw g1) v5.toNatClampNeg)) < v3 then (((wt g0) v5.toNatClampNeg) + ((hw g1) v5.toNatClampNeg)) else v3)), (0, .ref (ad (20 + g0))), (1, .ref (ad (52 + g1))), (2, .int v2), (5, .int v5)]) hC dRg_leastThroughNext_48 rfl (by decide) rfl ?_
          refine x_iinc (v := v5 + 1) (lv' := [(5, .int (v5 + 1)), (3, .long (if (((wt g0) v5.toNatClampNeg) + ((hw g1) v5.toNatClampNeg)) < v3 then (((wt g0) v5.toNatClampNeg) + ((hw g1) v5.toNatClampNeg)) else v3)), (0, .ref (ad (20 + g0))), (1, .ref (ad (52 + g1))), (2, .int v2)]) hC dRg_leastThroughNext_49 4 rfl rfl (by decide) rfl ?_
          refine x_goto (tgt := 7) hC dRg_leastThroughNext_52 (by decide) ?_
          refine x_lv [2, 3, 4, 1, 0] rfl ?_
          exact ih (if (((wt g0) v5.toNatClampNeg) + ((hw g1) v5.toNatClampNeg)) < v3 then (((wt g0) v5.toNatClampNeg) + ((hw g1) v5.toNatClampNeg)) else v3) (v5 + 1) h

set_option maxHeartbeats 4000000 in
set_option maxRecDepth 100000 in
theorem c_Ring_leastThroughNext_wt_hw {l : Launch} {D : va_G} {ad : Nat → Nat} {cI cL cO : ClassId} {sc : Int32} {sd : Int32} {src : (Nat → Int32)} {itm : (Nat → Int32)} {knd : (Nat → Int32)} {plc : (Nat → Int32)} {clk : (Nat → Int64)} {ec : Int32} {nf : (Nat → Int32)} {ns : (Nat → Int32)} {nc : Int32} {wt : (Nat → Nat → Int64)} {bd : (Nat → Nat → Int64)} {off : (Nat → Int64)} {row : (Nat → Int32)} {hw : (Nat → Nat → Int64)} {rl : Int32} {tm : (Nat → Int64)} {ord : (Nat → Int32)} {tc : Int32} {g0 : Nat} {g1 : Nat} {a2 : Int32} {Qr : Int64 → Unit → Prop} (hg0 : g0 < 16) (hg1 : g1 < 17) (h : Ring_leastThroughNext_wt_hw_wp wt hw g0 g1 a2 Qr) (sz : Nat) : vx_Met l yRg_leastThroughNext (Cond.code yRg_leastThroughNext bRg_leastThroughNext 6 (some .long) :: TBL) rm_Ring_leastThroughNext_wt_hw (va_Pc [.ref (ad (20 + g0)), .ref (ad (52 + g1)), .int a2] (XP D vwCl (tysX cI cL cO) (wX ad cI cL cO sc sd src itm knd plc clk ec nf ns nc wt bd off row hw rl tm ord tc) sz)) (va_Ql Qr (fun u t => XB D vwCl (tysX cI cL cO) (va_A (wX ad cI cL cO sc sd src itm knd plc clk ec nf ns nc wt bd off row hw rl tm ord tc) sz) (wX ad cI cL cO sc sd src itm knd plc clk ec nf ns nc wt bd off row hw rl tm ord tc) t) (va_A (wX ad cI cL cO sc sd src itm knd plc clk ec nf ns nc wt bd off row hw rl tm ord tc) sz)) (XT D vwCl (tysX cI cL cO) (va_A (wX ad cI cL cO sc sd src itm knd plc clk ec nf ns nc wt bd off row hw rl tm ord tc) sz) (wX ad cI cL cO sc sd src itm knd plc clk ec nf ns nc wt bd off row hw rl tm ord tc) (fun _ => False)) rm_Ring_leastThroughNext_wt_hw.cells rm_Ring_leastThroughNext_wt_hw.slots (va_A (wX ad cI cL cO sc sd src itm knd plc clk ec nf ns nc wt bd off row hw rl tm ord tc) sz) := by
  refine x_met [.ref (ad (20 + g0)), .ref (ad (52 + g1)), .int a2] TBL_good (by decide) (Nat.le_of_ble_eq_true rfl) ?_
  intro p e s m args below meth c hC hr hlk hnm hnh
  have hret : ∀ (ce sl : Nat), ce ≤ rm_Ring_leastThroughNext_wt_hw.cells → sl ≤ rm_Ring_leastThroughNext_wt_hw.slots → ∀ (r : Int64) (u : Unit), Qr r u → ∀ (pc : Nat) (lv : List (Nat × Value)), decode bRg_leastThroughNext pc = .ok (.lreturn, 1) → XW p l e rm_Ring_leastThroughNext_wt_hw s m args below meth c D vwCl (va_A (wX ad cI cL cO sc sd src itm knd plc clk ec nf ns nc wt bd off row hw rl tm ord tc) sz) 6 (vx_MQ below (va_Ql Qr (fun u t => XB D vwCl (tysX cI cL cO) (va_A (wX ad cI cL cO sc sd src itm knd plc clk ec nf ns nc wt bd off row hw rl tm ord tc) sz) (wX ad cI cL cO sc sd src itm knd plc clk ec nf ns nc wt bd off row hw rl tm ord tc) t) (va_A (wX ad cI cL cO sc sd src itm knd plc clk ec nf ns nc wt bd off row hw rl tm ord tc) sz)) (XT D vwCl (tysX cI cL cO) (va_A (wX ad cI cL cO sc sd src itm knd plc clk ec nf ns nc wt bd off row hw rl tm ord tc) sz) (wX ad cI cL cO sc sd src itm knd plc clk ec nf ns nc wt bd off row hw rl tm ord tc) (fun _ => False)) args s rm_Ring_leastThroughNext_wt_hw.cells rm_Ring_leastThroughNext_wt_hw.slots (va_A (wX ad cI cL cO sc sd src itm knd plc clk ec nf ns nc wt bd off row hw rl tm ord tc) sz)) ce sl (wX ad cI cL cO sc sd src itm knd plc clk ec nf ns nc wt bd off row hw rl tm ord tc) pc lv [.long r] := fun ce sl h1 h2 r u hq pc lv hd => x_lret (wf := fun u => (wX ad cI cL cO sc sd src itm knd plc clk ec nf ns nc wt bd off row hw rl tm ord tc)) hC h1 h2 hr hlk hd hq rfl
  show XW p l e rm_Ring_leastThroughNext_wt_hw s m args below meth c D vwCl (va_A (wX ad cI cL cO sc sd src itm knd plc clk ec nf ns nc wt bd off row hw rl tm ord tc) sz) 6 _ 0 0 (wX ad cI cL cO sc sd src itm knd plc clk ec nf ns nc wt bd off row hw rl tm ord tc) 0 [(0, .ref (ad (20 + g0))), (1, .ref (ad (52 + g1))), (2, .int a2)] []
  unfold Ring_leastThroughNext_wt_hw_wp at h
  refine x_ldc2 (v := 9223372036854775807) hC k_x38 dRg_leastThroughNext_0 ?_
  refine x_lstore_n (lv' := [(3, .long 9223372036854775807), (0, .ref (ad (20 + g0))), (1, .ref (ad (52 + g1))), (2, .int a2)]) hC dRg_leastThroughNext_3 rfl (by decide) rfl ?_
  refine x_iconst (v := 0) hC dRg_leastThroughNext_4 (by decide) ?_
  refine x_istore (lv' := [(5, .int 0), (3, .long 9223372036854775807), (0, .ref (ad (20 + g0))), (1, .ref (ad (52 + g1))), (2, .int a2)]) hC dRg_leastThroughNext_5 (by decide) rfl ?_
  obtain ⟨n_9, h⟩ := h
  refine x_lv [2, 3, 4, 1, 0] rfl ?_
  refine Ring_leastThroughNext_wt_hw_L7_ok hg0 hg1 hC (fun v3_8 h => ?_) n_9 9223372036854775807 0 h
  refine x_lload_n hC dRg_leastThroughNext_55 rfl 0 rfl ?_
  exact hret _ _ (by decide) (by decide) v3_8 () h _ _ dRg_leastThroughNext_56

/-! EventOrder$Ring.stepsBack(III[[J)I -/
abbrev rm_Ring_stepsBack_11 : Room := { frames := 2, cells := 0, slots := 0, locals := 65 }
def Ring_stepsBack_11_L3 (v1 : Int32) (v2 : Int32) (v3 : Int32) (Qx : (Nat → Nat → Int64) → Prop) : Nat → Int32 → (Nat → Nat → Int64) → Prop
  | 0, _, _ => False
  | n + 1, v5, hw => ((v3 ≤ v5 → Qx hw) ∧ (¬ v3 ≤ v5 → vp_in 0 17 ∧ vp_in v5 16 ∧ Ring_stepsBack_11_L3 v1 v2 v3 Qx n (v5 + 1) (va_up hw ((0 : Int32).toNatClampNeg) (vp_updL (hw ((0 : Int32).toNatClampNeg)) v5.toNatClampNeg 9223372036854775807))))

def Ring_stepsBack_11_L48 (v1 : Int32) (v2 : Int32) (v3 : Int32) (v5 : Int32) (wt : (Nat → Nat → Int64)) (Qx : (Nat → Nat → Int64) → Prop) : Nat → Int32 → (Nat → Nat → Int64) → Prop
  | 0, _, _ => False
  | n + 1, v6, hw => ((v3 ≤ v6 → Qx hw) ∧ (¬ v3 ≤ v6 → vp_in v5 17 ∧ vp_in v6 16 ∧ vp_in (v5 - 1) 17 ∧ Ring_leastThroughNext_wt_hw_wp wt hw v6.toNatClampNeg ((v5 - 1).toNatClampNeg) v3 (fun (r_12 : Int64) (u_13 : Unit) => vp_in v6 16 ∧ Ring_stepsBack_11_L48 v1 v2 v3 v5 wt Qx n (v6 + 1) (va_up hw v5.toNatClampNeg (vp_updL (hw v5.toNatClampNeg) v6.toNatClampNeg r_12)))))

def Ring_stepsBack_11_L39 (v1 : Int32) (v2 : Int32) (v3 : Int32) (wt : (Nat → Nat → Int64)) (Qr : Int32 → (Nat → Nat → Int64) → Prop) (Qx : (Nat → Nat → Int64) → Prop) : Nat → Int32 → (Nat → Nat → Int64) → Prop
  | 0, _, _ => False
  | n + 1, v5, hw => ((v2 < v5 → Qx hw) ∧ (¬ v2 < v5 → (∃ n_19 : Nat, Ring_stepsBack_11_L48 v1 v2 v3 v5 wt (fun (hw_15 : (Nat → Nat → Int64)) => vp_in v5 17 ∧ vp_in v1 16 ∧ ((0 ≤ ((hw_15 v5.toNatClampNeg) v1.toNatClampNeg) → Ring_stepsBack_11_L39 v1 v2 v3 wt Qr Qx n (v5 + 1) hw_15) ∧ (¬ 0 ≤ ((hw_15 v5.toNatClampNeg) v1.toNatClampNeg) → Qr v5 hw_15))) n_19 0 hw)))

def Ring_stepsBack_11_wp (wt : (Nat → Nat → Int64)) (hw : (Nat → Nat → Int64)) (a1 : Int32) (a2 : Int32) (a3 : Int32) (Qr : Int32 → (Nat → Nat → Int64) → Prop) : Prop := (∃ n_22 : Nat, Ring_stepsBack_11_L3 a1 a2 a3 (fun (hw_4 : (Nat → Nat → Int64)) => vp_in 0 17 ∧ vp_in a1 16 ∧ (∃ n_21 : Nat, Ring_stepsBack_11_L39 a1 a2 a3 wt Qr (fun (hw_20 : (Nat → Nat → Int64)) => Qr 0 hw_20) n_21 1 (va_up hw_4 ((0 : Int32).toNatClampNeg) (vp_updL (hw_4 ((0 : Int32).toNatClampNeg)) a1.toNatClampNeg 0)))) n_22 0 hw)
set_option maxHeartbeats 4000000 in
set_option maxRecDepth 100000 in
theorem Ring_stepsBack_11_L3_ok {p : Program} {l : Launch} {e : Env} {s : State} {m : MethodId} {args : Array Value} {below : List Frame} {meth : Method} {c : Code} {Q : State → Prop} {D : va_G} {A : Nat → Prop} {ad : Nat → Nat} {cI cL cO : ClassId} {sc : Int32} {sd : Int32} {src : (Nat → Int32)} {itm : (Nat → Int32)} {knd : (Nat → Int32)} {plc : (Nat → Int32)} {clk : (Nat → Int64)} {ec : Int32} {nf : (Nat → Int32)} {ns : (Nat → Int32)} {nc : Int32} {wt : (Nat → Nat → Int64)} {bd : (Nat → Nat → Int64)} {off : (Nat → Int64)} {row : (Nat → Int32)} {rl : Int32} {tm : (Nat → Int64)} {ord : (Nat → Int32)} {tc : Int32} {v1 : Int32} {v2 : Int32} {v3 : Int32} {Qx : (Nat → Nat → Int64) → Prop} (hC : XC p s m args c D vwCl (tysX cI cL cO) A 7 bRg_stepsBack TBL RRg)  (hexit : ∀ (hw : (Nat → Nat → Int64)), Qx hw → XW p l e rm_Ring_stepsBack_11 s m args below meth c D vwCl A 7 Q 0 0 (wX ad cI cL cO sc sd src itm knd plc clk ec nf ns nc wt bd off row hw rl tm ord tc) 27 [(0, .ref (ad 14)), (1, .int v1), (2, .int v2), (3, .int v3), (4, .ref (ad 11))] []) : ∀ (n : Nat) (v5 : Int32) (hw : (Nat → Nat → Int64)), Ring_stepsBack_11_L3 v1 v2 v3 Qx n v5 hw → XW p l e rm_Ring_stepsBack_11 s m args below meth c D vwCl A 7 Q 0 0 (wX ad cI cL cO sc sd src itm knd plc clk ec nf ns nc wt bd off row hw rl tm ord tc) 3 [(0, .ref (ad 14)), (1, .int v1), (2, .int v2), (3, .int v3), (4, .ref (ad 11)), (5, .int v5)] [] := by
  intro n
  induction n with
  | zero => intro v5 hw h; exact False.elim h
  | succ n ih =>
    intro v5 hw h
    unfold Ring_stepsBack_11_L3 at h
    refine x_iload hC dRg_stepsBack_3 5 rfl ?_
    refine x_iload_n hC dRg_stepsBack_5 rfl 3 rfl ?_
    refine x_icmp_ge (tgt := 27) hC dRg_stepsBack_6 (by decide) (fun c_1 => ?_) (fun c_1 => ?_)
    · have h := h.1 c_1
      refine x_lv [0, 1, 2, 3, 4] rfl ?_
      exact hexit hw h
    · have h := h.2 c_1
      refine x_aload_n hC dRg_stepsBack_9 rfl 0 rfl ?_
      refine x_get hC iRg 14 wX_14 rfl 1 (by decide) k_x37 rfl rfl dRg_stepsBack_10 ?_
      refine x_iconst (v := 0) hC dRg_stepsBack_13 (by decide) ?_
      obtain ⟨hb_2, h⟩ := h
      refine x_aald (y := ad (52 + (0 : Int32).toNatClampNeg)) hC 16 2 wX_16 rfl rfl hb_2 rfl dRg_stepsBack_14 ?_
      refine x_iload hC dRg_stepsBack_15 5 rfl ?_
      refine x_ldc2 (v := 9223372036854775807) hC k_x38 dRg_stepsBack_17 ?_
      obtain ⟨hb_3, h⟩ := h
      refine x_last (ws' := (wX ad cI cL cO sc sd src itm knd plc clk ec nf ns nc wt bd off row (va_up hw ((0 : Int32).toNatClampNeg) (vp_updL (hw ((0 : Int32).toNatClampNeg)) v5.toNatClampNeg 9223372036854775807)) rl tm ord tc)) hC (52 + ((0 : Int32).toNatClampNeg)) 1 (wX_hw (x_in_lt hb_2)) rfl hb_3 (wX_hw_set (x_in_lt hb_2)) dRg_stepsBack_20 ?_
      refine x_iinc (v := v5 + 1) (lv' := [(5, .int (v5 + 1)), (0, .ref (ad 14)), (1, .int v1), (2, .int v2), (3, .int v3), (4, .ref (ad 11))]) hC dRg_stepsBack_21 5 rfl rfl (by decide) rfl ?_
      refine x_goto (tgt := 3) hC dRg_stepsBack_24 (by decide) ?_
      refine x_lv [1, 2, 3, 4, 5, 0] rfl ?_
      exact ih (v5 + 1) (va_up hw ((0 : Int32).toNatClampNeg) (vp_updL (hw ((0 : Int32).toNatClampNeg)) v5.toNatClampNeg 9223372036854775807)) h

set_option maxHeartbeats 4000000 in
set_option maxRecDepth 100000 in
theorem Ring_stepsBack_11_L48_ok {p : Program} {l : Launch} {e : Env} {s : State} {m : MethodId} {args : Array Value} {below : List Frame} {meth : Method} {c : Code} {Q : State → Prop} {D : va_G} {A : Nat → Prop} {ad : Nat → Nat} {cI cL cO : ClassId} {sc : Int32} {sd : Int32} {src : (Nat → Int32)} {itm : (Nat → Int32)} {knd : (Nat → Int32)} {plc : (Nat → Int32)} {clk : (Nat → Int64)} {ec : Int32} {nf : (Nat → Int32)} {ns : (Nat → Int32)} {nc : Int32} {wt : (Nat → Nat → Int64)} {bd : (Nat → Nat → Int64)} {off : (Nat → Int64)} {row : (Nat → Int32)} {rl : Int32} {tm : (Nat → Int64)} {ord : (Nat → Int32)} {tc : Int32} {v1 : Int32} {v2 : Int32} {v3 : Int32} {v5 : Int32} {Qx : (Nat → Nat → Int64) → Prop} (hC : XC p s m args c D vwCl (tysX cI cL cO) A 7 bRg_stepsBack TBL RRg)  (hexit : ∀ (hw : (Nat → Nat → Int64)), Qx hw → XW p l e rm_Ring_stepsBack_11 s m args below meth c D vwCl A 7 Q 0 0 (wX ad cI cL cO sc sd src itm knd plc clk ec nf ns nc wt bd off row hw rl tm ord tc) 88 [(0, .ref (ad 14)), (1, .int v1), (2, .int v2), (3, .int v3), (4, .ref (ad 11)), (5, .int v5)] []) : ∀ (n : Nat) (v6 : Int32) (hw : (Nat → Nat → Int64)), Ring_stepsBack_11_L48 v1 v2 v3 v5 wt Qx n v6 hw → XW p l e rm_Ring_stepsBack_11 s m args below meth c D vwCl A 7 Q 0 0 (wX ad cI cL cO sc sd src itm knd plc clk ec nf ns nc wt bd off row hw rl tm ord tc) 48 [(0, .ref (ad 14)), (1, .int v1), (2, .int v2), (3, .int v3), (4, .ref (ad 11)), (5, .int v5), (6, .int v6)] [] := by
  intro n
  induction n with
  | zero => intro v6 hw h; exact False.elim h
  | succ n ih =>
    intro v6 hw h
    unfold Ring_stepsBack_11_L48 at h
    refine x_iload hC dRg_stepsBack_48 6 rfl ?_
    refine x_iload_n hC dRg_stepsBack_50 rfl 3 rfl ?_
    refine x_icmp_ge (tgt := 88) hC dRg_stepsBack_51 (by decide) (fun c_8 => ?_) (fun c_8 => ?_)
    · have h := h.1 c_8
      refine x_lv [0, 1, 2, 3, 4, 5] rfl ?_
      exact hexit hw h
    · have h := h.2 c_8
      refine x_aload_n hC dRg_stepsBack_54 rfl 0 rfl ?_
      refine x_get hC iRg 14 wX_14 rfl 1 (by decide) k_x37 rfl rfl dRg_stepsBack_55 ?_
      refine x_iload hC dRg_stepsBack_58 5 rfl ?_
      obtain ⟨hb_9, h⟩ := h
      refine x_aald (y := ad (52 + v5.toNatClampNeg)) hC 16 2 wX_16 rfl rfl hb_9 rfl dRg_stepsBack_60 ?_
      refine x_iload hC dRg_stepsBack_61 6 rfl ?_
      refine x_aload hC dRg_stepsBack_63 4 rfl ?_
      refine x_iload hC dRg_stepsBack_65 6 rfl ?_
      obtain ⟨hb_10, h⟩ := h
      refine x_aald (y := ad (20 + v6.toNatClampNeg)) hC 11 2 wX_11 rfl rfl hb_10 rfl dRg_stepsBack_67 ?_
      refine x_aload_n hC dRg_stepsBack_68 rfl 0 rfl ?_
      refine x_get hC iRg 14 wX_14 rfl 1 (by decide) k_x37 rfl rfl dRg_stepsBack_69 ?_
      refine x_iload hC dRg_stepsBack_72 5 rfl ?_
      refine x_iconst (v := 1) hC dRg_stepsBack_74 (by decide) ?_
      refine x_isub hC dRg_stepsBack_75 ?_
      obtain ⟨hb_11, h⟩ := h
      refine x_aald (y := ad (52 + (v5 - 1).toNatClampNeg)) hC 16 2 wX_16 rfl rfl hb_11 rfl dRg_stepsBack_76 ?_
      refine x_iload_n hC dRg_stepsBack_77 rfl 3 rfl ?_
      refine x_callSl (S := Unit) (wf := fun u => (wX ad cI cL cO sc sd src itm knd plc clk ec nf ns nc wt bd off row hw rl tm ord tc)) hC [.ref (ad (20 + v6.toNatClampNeg)), .ref (ad (52 + ((v5 - 1).toNatClampNeg))), .int v3] (fun sz => c_Ring_leastThroughNext_wt_hw (x_in_lt hb_10) (x_in_lt hb_11) h sz) (by decide) (by decide) k_x40 k_x41 k_x42 (by decide) 3 rfl (by decide +kernel) ⟨by decide, by decide⟩ (Nat.le_of_ble_eq_true rfl) k_x43 rfl dRg_stepsBack_78 (fun _ h9 => h9) (fun r_12 u_13 h => ?_)
      obtain ⟨hb_14, h⟩ := h
      refine x_last (ws' := (wX ad cI cL cO sc sd src itm knd plc clk ec nf ns nc wt bd off row (va_up hw v5.toNatClampNeg (vp_updL (hw v5.toNatClampNeg) v6.toNatClampNeg r_12)) rl tm ord tc)) hC (52 + v5.toNatClampNeg) 1 (wX_hw (x_in_lt hb_9)) rfl hb_14 (wX_hw_set (x_in_lt hb_9)) dRg_stepsBack_81 ?_
      refine x_iinc (v := v6 + 1) (lv' := [(6, .int (v6 + 1)), (0, .ref (ad 14)), (1, .int v1), (2, .int v2), (3, .int v3), (4, .ref (ad 11)), (5, .int v5)]) hC dRg_stepsBack_82 6 rfl rfl (by decide) rfl ?_
      refine x_goto (tgt := 48) hC dRg_stepsBack_85 (by decide) ?_
      refine x_lv [1, 2, 3, 4, 5, 6, 0] rfl ?_
      exact ih (v6 + 1) (va_up hw v5.toNatClampNeg (vp_updL (hw v5.toNatClampNeg) v6.toNatClampNeg r_12)) h

set_option maxHeartbeats 4000000 in
set_option maxRecDepth 100000 in
theorem Ring_stepsBack_11_L39_ok {p : Program} {l : Launch} {e : Env} {s : State} {m : MethodId} {args : Array Value} {below : List Frame} {meth : Method} {c : Code} {Q : State → Prop} {D : va_G} {A : Nat → Prop} {ad : Nat → Nat} {cI cL cO : ClassId} {sc : Int32} {sd : Int32} {src : (Nat → Int32)} {itm : (Nat → Int32)} {knd : (Nat → Int32)} {plc : (Nat → Int32)} {clk : (Nat → Int64)} {ec : Int32} {nf : (Nat → Int32)} {ns : (Nat → Int32)} {nc : Int32} {wt : (Nat → Nat → Int64)} {bd : (Nat → Nat → Int64)} {off : (Nat → Int64)} {row : (Nat → Int32)} {rl : Int32} {tm : (Nat → Int64)} {ord : (Nat → Int32)} {tc : Int32} {v1 : Int32} {v2 : Int32} {v3 : Int32} {Qr : Int32 → (Nat → Nat → Int64) → Prop} {Qx : (Nat → Nat → Int64) → Prop} (hC : XC p s m args c D vwCl (tysX cI cL cO) A 7 bRg_stepsBack TBL RRg) (hret : ∀ (r : Int32) (u : (Nat → Nat → Int64)), Qr r u → ∀ (pc : Nat) (lv : List (Nat × Value)), decode bRg_stepsBack pc = .ok (.ireturn, 1) → XW p l e rm_Ring_stepsBack_11 s m args below meth c D vwCl A 7 Q 0 0 (wX ad cI cL cO sc sd src itm knd plc clk ec nf ns nc wt bd off row u rl tm ord tc) pc lv [.int r]) (hexit : ∀ (hw : (Nat → Nat → Int64)), Qx hw → XW p l e rm_Ring_stepsBack_11 s m args below meth c D vwCl A 7 Q 0 0 (wX ad cI cL cO sc sd src itm knd plc clk ec nf ns nc wt bd off row hw rl tm ord tc) 111 [] []) : ∀ (n : Nat) (v5 : Int32) (hw : (Nat → Nat → Int64)), Ring_stepsBack_11_L39 v1 v2 v3 wt Qr Qx n v5 hw → XW p l e rm_Ring_stepsBack_11 s m args below meth c D vwCl A 7 Q 0 0 (wX ad cI cL cO sc sd src itm knd plc clk ec nf ns nc wt bd off row hw rl tm ord tc) 39 [(0, .ref (ad 14)), (1, .int v1), (2, .int v2), (3, .int v3), (4, .ref (ad 11)), (5, .int v5)] [] := by
  intro n
  induction n with
  | zero => intro v5 hw h; exact False.elim h
  | succ n ih =>
    intro v5 hw h
    unfold Ring_stepsBack_11_L39 at h
    refine x_iload hC dRg_stepsBack_39 5 rfl ?_
    refine x_iload_n hC dRg_stepsBack_41 rfl 2 rfl ?_
    refine x_icmp_gt (tgt := 111) hC dRg_stepsBack_42 (by decide) (fun c_7 => ?_) (fun c_7 => ?_)
    · have h := h.1 c_7
      refine x_lv [] rfl ?_
      exact hexit hw h
    · have h := h.2 c_7
      refine x_iconst (v := 0) hC dRg_stepsBack_45 (by decide) ?_
      refine x_istore (lv' := [(6, .int 0), (0, .ref (ad 14)), (1, .int v1), (2, .int v2), (3, .int v3), (4, .ref (ad 11)), (5, .int v5)]) hC dRg_stepsBack_46 (by decide) rfl ?_
      obtain ⟨n_19, h⟩ := h
      refine x_lv [1, 2, 3, 4, 5, 6, 0] rfl ?_
      refine Ring_stepsBack_11_L48_ok hC (fun hw_15 h => ?_) n_19 0 hw h
      refine x_aload_n hC dRg_stepsBack_88 rfl 0 rfl ?_
      refine x_get hC iRg 14 wX_14 rfl 1 (by decide) k_x37 rfl rfl dRg_stepsBack_89 ?_
      refine x_iload hC dRg_stepsBack_92 5 rfl ?_
      obtain ⟨hb_16, h⟩ := h
      refine x_aald (y := ad (52 + v5.toNatClampNeg)) hC 16 2 wX_16 rfl rfl hb_16 rfl dRg_stepsBack_94 ?_
      refine x_iload_n hC dRg_stepsBack_95 rfl 1 rfl ?_
      obtain ⟨hb_17, h⟩ := h
      refine x_lald hC (52 + v5.toNatClampNeg) 1 (wX_hw (x_in_lt hb_16)) rfl hb_17 dRg_stepsBack_96 ?_
      refine x_lconst (v := 0) hC dRg_stepsBack_97 (by decide) ?_
      refine x_lcmp_ge (tgt := 105) hC dRg_stepsBack_98 dRg_stepsBack_99 (by decide) (fun c_18 => ?_) (fun c_18 => ?_)
      · have h := h.1 c_18
        refine x_iinc (v := v5 + 1) (lv' := [(5, .int (v5 + 1)), (0, .ref (ad 14)), (1, .int v1), (2, .int v2), (3, .int v3), (4, .ref (ad 11))]) hC dRg_stepsBack_105 5 rfl rfl (by decide) rfl ?_
        refine x_goto (tgt := 39) hC dRg_stepsBack_108 (by decide) ?_
        refine x_lv [1, 2, 3, 4, 5, 0] rfl ?_
        exact ih (v5 + 1) hw_15 h
      · have h := h.2 c_18
        refine x_iload hC dRg_stepsBack_102 5 rfl ?_
        exact hret v5 hw_15 h _ _ dRg_stepsBack_104

set_option maxHeartbeats 4000000 in
set_option maxRecDepth 100000 in
theorem c_Ring_stepsBack_11 {l : Launch} {D : va_G} {ad : Nat → Nat} {cI cL cO : ClassId} {sc : Int32} {sd : Int32} {src : (Nat → Int32)} {itm : (Nat → Int32)} {knd : (Nat → Int32)} {plc : (Nat → Int32)} {clk : (Nat → Int64)} {ec : Int32} {nf : (Nat → Int32)} {ns : (Nat → Int32)} {nc : Int32} {wt : (Nat → Nat → Int64)} {bd : (Nat → Nat → Int64)} {off : (Nat → Int64)} {row : (Nat → Int32)} {hw : (Nat → Nat → Int64)} {rl : Int32} {tm : (Nat → Int64)} {ord : (Nat → Int32)} {tc : Int32} {a1 : Int32} {a2 : Int32} {a3 : Int32} {Qr : Int32 → (Nat → Nat → Int64) → Prop} (h : Ring_stepsBack_11_wp wt hw a1 a2 a3 Qr) (sz : Nat) : vx_Met l yRg_stepsBack (Cond.code yRg_stepsBack bRg_stepsBack 7 (some .int) :: TBL) rm_Ring_stepsBack_11 (va_Pc [.ref (ad 14), .int a1, .int a2, .int a3, .ref (ad 11)] (XP D vwCl (tysX cI cL cO) (wX ad cI cL cO sc sd src itm knd plc clk ec nf ns nc wt bd off row hw rl tm ord tc) sz)) (va_Qi Qr (fun u t => XB D vwCl (tysX cI cL cO) (va_A (wX ad cI cL cO sc sd src itm knd plc clk ec nf ns nc wt bd off row hw rl tm ord tc) sz) (wX ad cI cL cO sc sd src itm knd plc clk ec nf ns nc wt bd off row u rl tm ord tc) t) (va_A (wX ad cI cL cO sc sd src itm knd plc clk ec nf ns nc wt bd off row hw rl tm ord tc) sz)) (XT D vwCl (tysX cI cL cO) (va_A (wX ad cI cL cO sc sd src itm knd plc clk ec nf ns nc wt bd off row hw rl tm ord tc) sz) (wX ad cI cL cO sc sd src itm knd plc clk ec nf ns nc wt bd off row hw rl tm ord tc) (fun _ => False)) rm_Ring_stepsBack_11.cells rm_Ring_stepsBack_11.slots (va_A (wX ad cI cL cO sc sd src itm knd plc clk ec nf ns nc wt bd off row hw rl tm ord tc) sz) := by
  refine x_met [.ref (ad 14), .int a1, .int a2, .int a3, .ref (ad 11)] TBL_good (by decide) (Nat.le_of_ble_eq_true rfl) ?_
  intro p e s m args below meth c hC hr hlk hnm hnh
  have hret : ∀ (ce sl : Nat), ce ≤ rm_Ring_stepsBack_11.cells → sl ≤ rm_Ring_stepsBack_11.slots → ∀ (r : Int32) (u : (Nat → Nat → Int64)), Qr r u → ∀ (pc : Nat) (lv : List (Nat × Value)), decode bRg_stepsBack pc = .ok (.ireturn, 1) → XW p l e rm_Ring_stepsBack_11 s m args below meth c D vwCl (va_A (wX ad cI cL cO sc sd src itm knd plc clk ec nf ns nc wt bd off row hw rl tm ord tc) sz) 7 (vx_MQ below (va_Qi Qr (fun u t => XB D vwCl (tysX cI cL cO) (va_A (wX ad cI cL cO sc sd src itm knd plc clk ec nf ns nc wt bd off row hw rl tm ord tc) sz) (wX ad cI cL cO sc sd src itm knd plc clk ec nf ns nc wt bd off row u rl tm ord tc) t) (va_A (wX ad cI cL cO sc sd src itm knd plc clk ec nf ns nc wt bd off row hw rl tm ord tc) sz)) (XT D vwCl (tysX cI cL cO) (va_A (wX ad cI cL cO sc sd src itm knd plc clk ec nf ns nc wt bd off row hw rl tm ord tc) sz) (wX ad cI cL cO sc sd src itm knd plc clk ec nf ns nc wt bd off row hw rl tm ord tc) (fun _ => False)) args s rm_Ring_stepsBack_11.cells rm_Ring_stepsBack_11.slots (va_A (wX ad cI cL cO sc sd src itm knd plc clk ec nf ns nc wt bd off row hw rl tm ord tc) sz)) ce sl (wX ad cI cL cO sc sd src itm knd plc clk ec nf ns nc wt bd off row u rl tm ord tc) pc lv [.int r] := fun ce sl h1 h2 r u hq pc lv hd => x_iret (wf := fun u => (wX ad cI cL cO sc sd src itm knd plc clk ec nf ns nc wt bd off row u rl tm ord tc)) hC h1 h2 hr hlk hd hq rfl
  show XW p l e rm_Ring_stepsBack_11 s m args below meth c D vwCl (va_A (wX ad cI cL cO sc sd src itm knd plc clk ec nf ns nc wt bd off row hw rl tm ord tc) sz) 7 _ 0 0 (wX ad cI cL cO sc sd src itm knd plc clk ec nf ns nc wt bd off row hw rl tm ord tc) 0 [(0, .ref (ad 14)), (1, .int a1), (2, .int a2), (3, .int a3), (4, .ref (ad 11))] []
  unfold Ring_stepsBack_11_wp at h
  refine x_iconst (v := 0) hC dRg_stepsBack_0 (by decide) ?_
  refine x_istore (lv' := [(5, .int 0), (0, .ref (ad 14)), (1, .int a1), (2, .int a2), (3, .int a3), (4, .ref (ad 11))]) hC dRg_stepsBack_1 (by decide) rfl ?_
  obtain ⟨n_22, h⟩ := h
  refine x_lv [1, 2, 3, 4, 5, 0] rfl ?_
  refine Ring_stepsBack_11_L3_ok hC (fun hw_4 h => ?_) n_22 0 hw h
  refine x_aload_n hC dRg_stepsBack_27 rfl 0 rfl ?_
  refine x_get hC iRg 14 wX_14 rfl 1 (by decide) k_x37 rfl rfl dRg_stepsBack_28 ?_
  refine x_iconst (v := 0) hC dRg_stepsBack_31 (by decide) ?_
  obtain ⟨hb_5, h⟩ := h
  refine x_aald (y := ad (52 + (0 : Int32).toNatClampNeg)) hC 16 2 wX_16 rfl rfl hb_5 rfl dRg_stepsBack_32 ?_
  refine x_iload_n hC dRg_stepsBack_33 rfl 1 rfl ?_
  refine x_lconst (v := 0) hC dRg_stepsBack_34 (by decide) ?_
  obtain ⟨hb_6, h⟩ := h
  refine x_last (ws' := (wX ad cI cL cO sc sd src itm knd plc clk ec nf ns nc wt bd off row (va_up hw_4 ((0 : Int32).toNatClampNeg) (vp_updL (hw_4 ((0 : Int32).toNatClampNeg)) a1.toNatClampNeg 0)) rl tm ord tc)) hC (52 + ((0 : Int32).toNatClampNeg)) 1 (wX_hw (x_in_lt hb_5)) rfl hb_6 (wX_hw_set (x_in_lt hb_5)) dRg_stepsBack_35 ?_
  refine x_iconst (v := 1) hC dRg_stepsBack_36 (by decide) ?_
  refine x_istore (lv' := [(5, .int 1), (0, .ref (ad 14)), (1, .int a1), (2, .int a2), (3, .int a3), (4, .ref (ad 11))]) hC dRg_stepsBack_37 (by decide) rfl ?_
  obtain ⟨n_21, h⟩ := h
  refine x_lv [1, 2, 3, 4, 5, 0] rfl ?_
  refine Ring_stepsBack_11_L39_ok hC (hret _ _ (by decide) (by decide)) (fun hw_20 h => ?_) n_21 1 (va_up hw_4 ((0 : Int32).toNatClampNeg) (vp_updL (hw_4 ((0 : Int32).toNatClampNeg)) a1.toNatClampNeg 0)) h
  refine x_iconst (v := 0) hC dRg_stepsBack_111 (by decide) ?_
  exact hret _ _ (by decide) (by decide) 0 hw_20 h _ _ dRg_stepsBack_112

/-! EventOrder$Ring.leastNext(J[J[JI)I -/
abbrev rm_Ring_leastNext_wt_hw : Room := { frames := 0, cells := 0, slots := 0, locals := 0 }
def Ring_leastNext_wt_hw_L3 (v0 : Int64) (v4 : Int32) (g2 : Nat) (g3 : Nat) (wt : (Nat → Nat → Int64)) (hw : (Nat → Nat → Int64)) (Qr : Int32 → Unit → Prop) (Qx : Prop) : Nat → Int32 → Prop
  | 0, _ => False
  | n + 1, v5 => ((v4 ≤ v5 → Qx) ∧ (¬ v4 ≤ v5 → vp_in v5 16 ∧ ((((wt g2) v5.toNatClampNeg) = 9223372036854775807 → Ring_leastNext_wt_hw_L3 v0 v4 g2 g3 wt hw Qr Qx n (v5 + 1)) ∧ (¬ ((wt g2) v5.toNatClampNeg) = 9223372036854775807 → vp_in v5 16 ∧ ((((hw g3) v5.toNatClampNeg) = 9223372036854775807 → Ring_leastNext_wt_hw_L3 v0 v4 g2 g3 wt hw Qr Qx n (v5 + 1)) ∧ (¬ ((hw g3) v5.toNatClampNeg) = 9223372036854775807 → vp_in v5 16 ∧ vp_in v5 16 ∧ ((0 ≤ ((v0 + ((wt g2) v5.toNatClampNeg)) + ((hw g3) v5.toNatClampNeg)) → Ring_leastNext_wt_hw_L3 v0 v4 g2 g3 wt hw Qr Qx n (v5 + 1)) ∧ (¬ 0 ≤ ((v0 + ((wt g2) v5.toNatClampNeg)) + ((hw g3) v5.toNatClampNeg)) → Qr v5 ()))))))))

def Ring_leastNext_wt_hw_wp (wt : (Nat → Nat → Int64)) (hw : (Nat → Nat → Int64)) (a0 : Int64) (g2 : Nat) (g3 : Nat) (a4 : Int32) (Qr : Int32 → Unit → Prop) : Prop := (∃ n_9 : Nat, Ring_leastNext_wt_hw_L3 a0 a4 g2 g3 wt hw Qr (Qr 0 ()) n_9 0)
set_option maxHeartbeats 4000000 in
set_option maxRecDepth 100000 in
theorem Ring_leastNext_wt_hw_L3_ok {p : Program} {l : Launch} {e : Env} {s : State} {m : MethodId} {args : Array Value} {below : List Frame} {meth : Method} {c : Code} {Q : State → Prop} {D : va_G} {A : Nat → Prop} {ad : Nat → Nat} {cI cL cO : ClassId} {sc : Int32} {sd : Int32} {src : (Nat → Int32)} {itm : (Nat → Int32)} {knd : (Nat → Int32)} {plc : (Nat → Int32)} {clk : (Nat → Int64)} {ec : Int32} {nf : (Nat → Int32)} {ns : (Nat → Int32)} {nc : Int32} {wt : (Nat → Nat → Int64)} {bd : (Nat → Nat → Int64)} {off : (Nat → Int64)} {row : (Nat → Int32)} {hw : (Nat → Nat → Int64)} {rl : Int32} {tm : (Nat → Int64)} {ord : (Nat → Int32)} {tc : Int32} {v0 : Int64} {v4 : Int32} {g2 : Nat} {g3 : Nat} {Qr : Int32 → Unit → Prop} {Qx : Prop} (hg2 : g2 < 16) (hg3 : g3 < 17) (hC : XC p s m args c D vwCl (tysX cI cL cO) A 6 bRg_leastNext TBL RRg) (hret : ∀ (r : Int32) (u : Unit), Qr r u → ∀ (pc : Nat) (lv : List (Nat × Value)), decode bRg_leastNext pc = .ok (.ireturn, 1) → XW p l e rm_Ring_leastNext_wt_hw s m args below meth c D vwCl A 6 Q 0 0 (wX ad cI cL cO sc sd src itm knd plc clk ec nf ns nc wt bd off row hw rl tm ord tc) pc lv [.int r]) (hexit : Qx → XW p l e rm_Ring_leastNext_wt_hw s m args below meth c D vwCl A 6 Q 0 0 (wX ad cI cL cO sc sd src itm knd plc clk ec nf ns nc wt bd off row hw rl tm ord tc) 57 [] []) : ∀ (n : Nat) (v5 : Int32), Ring_leastNext_wt_hw_L3 v0 v4 g2 g3 wt hw Qr Qx n v5 → XW p l e rm_Ring_leastNext_wt_hw s m args below meth c D vwCl A 6 Q 0 0 (wX ad cI cL cO sc sd src itm knd plc clk ec nf ns nc wt bd off row hw rl tm ord tc) 3 [(0, .long v0), (2, .ref (ad (20 + g2))), (3, .ref (ad (52 + g3))), (4, .int v4), (5, .int v5)] [] := by
  intro n
  induction n with
  | zero => intro v5 h; exact False.elim h
  | succ n ih =>
    intro v5 h
    unfold Ring_leastNext_wt_hw_L3 at h
    refine x_iload hC dRg_leastNext_3 4 rfl ?_
    refine x_iload hC dRg_leastNext_5 3 rfl ?_
    refine x_icmp_ge (tgt := 57) hC dRg_leastNext_7 (by decide) (fun c_1 => ?_) (fun c_1 => ?_)
    · have h := h.1 c_1
      refine x_lv [] rfl ?_
      exact hexit  h
    · have h := h.2 c_1
      refine x_aload_n hC dRg_leastNext_10 rfl 1 rfl ?_
      refine x_iload hC dRg_leastNext_11 4 rfl ?_
      obtain ⟨hb_2, h⟩ := h
      refine x_lald hC (20 + g2) 1 (wX_wt hg2) rfl hb_2 dRg_leastNext_13 ?_
      refine x_ldc2 (v := 9223372036854775807) hC k_x38 dRg_leastNext_14 ?_
      refine x_lcmp_eq (tgt := 51) hC dRg_leastNext_17 dRg_leastNext_18 (by decide) (fun c_3 => ?_) (fun c_3 => ?_)
      · have h := h.1 c_3
        refine x_iinc (v := v5 + 1) (lv' := [(5, .int (v5 + 1)), (0, .long v0), (2, .ref (ad (20 + g2))), (3, .ref (ad (52 + g3))), (4, .int v4)]) hC dRg_leastNext_51 4 rfl rfl (by decide) rfl ?_
        refine x_goto (tgt := 3) hC dRg_leastNext_54 (by decide) ?_
        refine x_lv [1, 2, 3, 4, 0] rfl ?_
        exact ih (v5 + 1) h
      · have h := h.2 c_3
        refine x_aload_n hC dRg_leastNext_21 rfl 2 rfl ?_
        refine x_iload hC dRg_leastNext_22 4 rfl ?_
        obtain ⟨hb_4, h⟩ := h
        refine x_lald hC (52 + g3) 1 (wX_hw hg3) rfl hb_4 dRg_leastNext_24 ?_
        refine x_ldc2 (v := 9223372036854775807) hC k_x38 dRg_leastNext_25 ?_
        refine x_lcmp_eq (tgt := 51) hC dRg_leastNext_28 dRg_leastNext_29 (by decide) (fun c_5 => ?_) (fun c_5 => ?_)
        · have h := h.1 c_5
          refine x_iinc (v := v5 + 1) (lv' := [(5, .int (v5 + 1)), (0, .long v0), (2, .ref (ad (20 + g2))), (3, .ref (ad (52 + g3))), (4, .int v4)]) hC dRg_leastNext_51 4 rfl rfl (by decide) rfl ?_
          refine x_goto (tgt := 3) hC dRg_leastNext_54 (by decide) ?_
          refine x_lv [1, 2, 3, 4, 0] rfl ?_
          exact ih (v5 + 1) h
        · have h := h.2 c_5
          refine x_lload_n hC dRg_leastNext_32 rfl 0 rfl ?_
          refine x_aload_n hC dRg_leastNext_33 rfl 1 rfl ?_
          refine x_iload hC dRg_leastNext_34 4 rfl ?_
          obtain ⟨hb_6, h⟩ := h
          refine x_lald hC (20 + g2) 1 (wX_wt hg2) rfl hb_6 dRg_leastNext_36 ?_
          refine x_ladd hC dRg_leastNext_37 ?_
          refine x_aload_n hC dRg_leastNext_38 rfl 2 rfl ?_
          refine x_iload hC dRg_leastNext_39 4 rfl ?_
          obtain ⟨hb_7, h⟩ := h
          refine x_lald hC (52 + g3) 1 (wX_hw hg3) rfl hb_7 dRg_leastNext_41 ?_
          refine x_ladd hC dRg_leastNext_42 ?_
          refine x_lconst (v := 0) hC dRg_leastNext_43 (by decide) ?_
          refine x_lcmp_ge (tgt := 51) hC dRg_leastNext_44 dRg_leastNext_45 (by decide) (fun c_8 => ?_) (fun c_8 => ?_)
          · have h := h.1 c_8
            refine x_iinc (v := v5 + 1) (lv' := [(5, .int (v5 + 1)), (0, .long v0), (2, .ref (ad (20 + g2))), (3, .ref (ad (52 + g3))), (4, .int v4)]) hC dRg_leastNext_51 4 rfl rfl (by decide) rfl ?_
            refine x_goto (tgt := 3) hC dRg_leastNext_54 (by decide) ?_
            refine x_lv [1, 2, 3, 4, 0] rfl ?_
            exact ih (v5 + 1) h
          · have h := h.2 c_8
            refine x_iload hC dRg_leastNext_48 4 rfl ?_
            exact hret v5 () h _ _ dRg_leastNext_50

set_option maxHeartbeats 4000000 in
set_option maxRecDepth 100000 in
theorem c_Ring_leastNext_wt_hw {l : Launch} {D : va_G} {ad : Nat → Nat} {cI cL cO : ClassId} {sc : Int32} {sd : Int32} {src : (Nat → Int32)} {itm : (Nat → Int32)} {knd : (Nat → Int32)} {plc : (Nat → Int32)} {clk : (Nat → Int64)} {ec : Int32} {nf : (Nat → Int32)} {ns : (Nat → Int32)} {nc : Int32} {wt : (Nat → Nat → Int64)} {bd : (Nat → Nat → Int64)} {off : (Nat → Int64)} {row : (Nat → Int32)} {hw : (Nat → Nat → Int64)} {rl : Int32} {tm : (Nat → Int64)} {ord : (Nat → Int32)} {tc : Int32} {a0 : Int64} {g2 : Nat} {g3 : Nat} {a4 : Int32} {Qr : Int32 → Unit → Prop} (hg2 : g2 < 16) (hg3 : g3 < 17) (h : Ring_leastNext_wt_hw_wp wt hw a0 g2 g3 a4 Qr) (sz : Nat) : vx_Met l yRg_leastNext (Cond.code yRg_leastNext bRg_leastNext 6 (some .int) :: TBL) rm_Ring_leastNext_wt_hw (va_Pc [.long a0, .ref (ad (20 + g2)), .ref (ad (52 + g3)), .int a4] (XP D vwCl (tysX cI cL cO) (wX ad cI cL cO sc sd src itm knd plc clk ec nf ns nc wt bd off row hw rl tm ord tc) sz)) (va_Qi Qr (fun u t => XB D vwCl (tysX cI cL cO) (va_A (wX ad cI cL cO sc sd src itm knd plc clk ec nf ns nc wt bd off row hw rl tm ord tc) sz) (wX ad cI cL cO sc sd src itm knd plc clk ec nf ns nc wt bd off row hw rl tm ord tc) t) (va_A (wX ad cI cL cO sc sd src itm knd plc clk ec nf ns nc wt bd off row hw rl tm ord tc) sz)) (XT D vwCl (tysX cI cL cO) (va_A (wX ad cI cL cO sc sd src itm knd plc clk ec nf ns nc wt bd off row hw rl tm ord tc) sz) (wX ad cI cL cO sc sd src itm knd plc clk ec nf ns nc wt bd off row hw rl tm ord tc) (fun _ => False)) rm_Ring_leastNext_wt_hw.cells rm_Ring_leastNext_wt_hw.slots (va_A (wX ad cI cL cO sc sd src itm knd plc clk ec nf ns nc wt bd off row hw rl tm ord tc) sz) := by
  refine x_met [.long a0, .ref (ad (20 + g2)), .ref (ad (52 + g3)), .int a4] TBL_good (by decide) (Nat.le_of_ble_eq_true rfl) ?_
  intro p e s m args below meth c hC hr hlk hnm hnh
  have hret : ∀ (ce sl : Nat), ce ≤ rm_Ring_leastNext_wt_hw.cells → sl ≤ rm_Ring_leastNext_wt_hw.slots → ∀ (r : Int32) (u : Unit), Qr r u → ∀ (pc : Nat) (lv : List (Nat × Value)), decode bRg_leastNext pc = .ok (.ireturn, 1) → XW p l e rm_Ring_leastNext_wt_hw s m args below meth c D vwCl (va_A (wX ad cI cL cO sc sd src itm knd plc clk ec nf ns nc wt bd off row hw rl tm ord tc) sz) 6 (vx_MQ below (va_Qi Qr (fun u t => XB D vwCl (tysX cI cL cO) (va_A (wX ad cI cL cO sc sd src itm knd plc clk ec nf ns nc wt bd off row hw rl tm ord tc) sz) (wX ad cI cL cO sc sd src itm knd plc clk ec nf ns nc wt bd off row hw rl tm ord tc) t) (va_A (wX ad cI cL cO sc sd src itm knd plc clk ec nf ns nc wt bd off row hw rl tm ord tc) sz)) (XT D vwCl (tysX cI cL cO) (va_A (wX ad cI cL cO sc sd src itm knd plc clk ec nf ns nc wt bd off row hw rl tm ord tc) sz) (wX ad cI cL cO sc sd src itm knd plc clk ec nf ns nc wt bd off row hw rl tm ord tc) (fun _ => False)) args s rm_Ring_leastNext_wt_hw.cells rm_Ring_leastNext_wt_hw.slots (va_A (wX ad cI cL cO sc sd src itm knd plc clk ec nf ns nc wt bd off row hw rl tm ord tc) sz)) ce sl (wX ad cI cL cO sc sd src itm knd plc clk ec nf ns nc wt bd off row hw rl tm ord tc) pc lv [.int r] := fun ce sl h1 h2 r u hq pc lv hd => x_iret (wf := fun u => (wX ad cI cL cO sc sd src itm knd plc clk ec nf ns nc wt bd off row hw rl tm ord tc)) hC h1 h2 hr hlk hd hq rfl
  show XW p l e rm_Ring_leastNext_wt_hw s m args below meth c D vwCl (va_A (wX ad cI cL cO sc sd src itm knd plc clk ec nf ns nc wt bd off row hw rl tm ord tc) sz) 6 _ 0 0 (wX ad cI cL cO sc sd src itm knd plc clk ec nf ns nc wt bd off row hw rl tm ord tc) 0 [(0, .long a0), (2, .ref (ad (20 + g2))), (3, .ref (ad (52 + g3))), (4, .int a4)] []
  unfold Ring_leastNext_wt_hw_wp at h
  refine x_iconst (v := 0) hC dRg_leastNext_0 (by decide) ?_
  refine x_istore (lv' := [(5, .int 0), (0, .long a0), (2, .ref (ad (20 + g2))), (3, .ref (ad (52 + g3))), (4, .int a4)]) hC dRg_leastNext_1 (by decide) rfl ?_
  obtain ⟨n_9, h⟩ := h
  refine x_lv [1, 2, 3, 4, 0] rfl ?_
  refine Ring_leastNext_wt_hw_L3_ok hg2 hg3 hC (hret _ _ (by decide) (by decide)) (fun h => ?_) n_9 0 h
  refine x_iconst (v := 0) hC dRg_leastNext_57 (by decide) ?_
  exact hret _ _ (by decide) (by decide) 0 () h _ _ dRg_leastNext_58

/-! EventOrder$Ring.trace(II[[J)V -/
abbrev rm_Ring_trace_11 : Room := { frames := 1, cells := 0, slots := 0, locals := 25 }
def Ring_trace_11_L13 (v2 : Int32) (wt : (Nat → Nat → Int64)) (hw : (Nat → Nat → Int64)) (rl : Int32) (Qx : (Nat → Int32) → Prop) : Nat → Int64 → Int32 → (Nat → Int32) → Prop
  | 0, _, _, _ => False
  | n + 1, v4, v6, row => ((rl ≤ v6 → Qx row) ∧ (¬ rl ≤ v6 → vp_in (v6 - 1) 16 ∧ vp_in (row (v6 - 1).toNatClampNeg) 16 ∧ vp_in (rl - v6) 17 ∧ Ring_leastNext_wt_hw_wp wt hw v4 ((row (v6 - 1).toNatClampNeg).toNatClampNeg) ((rl - v6).toNatClampNeg) v2 (fun (r_6 : Int32) (u_7 : Unit) => vp_in v6 16 ∧ vp_in v6 16 ∧ vp_in ((upd row v6.toNatClampNeg r_6) v6.toNatClampNeg) 16 ∧ Ring_trace_11_L13 v2 wt hw rl Qx n (v4 + ((wt ((row (v6 - 1).toNatClampNeg).toNatClampNeg)) ((upd row v6.toNatClampNeg r_6) v6.toNatClampNeg).toNatClampNeg)) (v6 + 1) (upd row v6.toNatClampNeg r_6))))

def Ring_trace_11_wp (wt : (Nat → Nat → Int64)) (row : (Nat → Int32)) (hw : (Nat → Nat → Int64)) (rl : Int32) (a1 : Int32) (a2 : Int32) (Qr : (Nat → Int32) → Prop) : Prop := vp_in 0 16 ∧ (∃ n_12 : Nat, Ring_trace_11_L13 a2 wt hw rl (fun (row_11 : (Nat → Int32)) => Qr row_11) n_12 0 1 (upd row (0 : Int32).toNatClampNeg a1))
set_option maxHeartbeats 4000000 in
set_option maxRecDepth 100000 in
theorem Ring_trace_11_L13_ok {p : Program} {l : Launch} {e : Env} {s : State} {m : MethodId} {args : Array Value} {below : List Frame} {meth : Method} {c : Code} {Q : State → Prop} {D : va_G} {A : Nat → Prop} {ad : Nat → Nat} {cI cL cO : ClassId} {sc : Int32} {sd : Int32} {src : (Nat → Int32)} {itm : (Nat → Int32)} {knd : (Nat → Int32)} {plc : (Nat → Int32)} {clk : (Nat → Int64)} {ec : Int32} {nf : (Nat → Int32)} {ns : (Nat → Int32)} {nc : Int32} {wt : (Nat → Nat → Int64)} {bd : (Nat → Nat → Int64)} {off : (Nat → Int64)} {hw : (Nat → Nat → Int64)} {rl : Int32} {tm : (Nat → Int64)} {ord : (Nat → Int32)} {tc : Int32} {v2 : Int32} {Qx : (Nat → Int32) → Prop} (hC : XC p s m args c D vwCl (tysX cI cL cO) A 8 bRg_trace TBL RRg)  (hexit : ∀ (row : (Nat → Int32)), Qx row → XW p l e rm_Ring_trace_11 s m args below meth c D vwCl A 8 Q 0 0 (wX ad cI cL cO sc sd src itm knd plc clk ec nf ns nc wt bd off row hw rl tm ord tc) 83 [] []) : ∀ (n : Nat) (v4 : Int64) (v6 : Int32) (row : (Nat → Int32)), Ring_trace_11_L13 v2 wt hw rl Qx n v4 v6 row → XW p l e rm_Ring_trace_11 s m args below meth c D vwCl A 8 Q 0 0 (wX ad cI cL cO sc sd src itm knd plc clk ec nf ns nc wt bd off row hw rl tm ord tc) 13 [(0, .ref (ad 14)), (2, .int v2), (3, .ref (ad 11)), (4, .long v4), (6, .int v6)] [] := by
  intro n
  induction n with
  | zero => intro v4 v6 row h; exact False.elim h
  | succ n ih =>
    intro v4 v6 row h
    unfold Ring_trace_11_L13 at h
    refine x_iload hC dRg_trace_13 4 rfl ?_
    refine x_aload_n hC dRg_trace_15 rfl 0 rfl ?_
    refine x_get hC iRg 14 wX_14 rfl 2 (by decide) k_x36 rfl rfl dRg_trace_16 ?_
    refine x_icmp_ge (tgt := 83) hC dRg_trace_19 (by decide) (fun c_2 => ?_) (fun c_2 => ?_)
    · have h := h.1 c_2
      refine x_lv [] rfl ?_
      exact hexit row h
    · have h := h.2 c_2
      refine x_aload_n hC dRg_trace_22 rfl 2 rfl ?_
      refine x_aload_n hC dRg_trace_23 rfl 0 rfl ?_
      refine x_get hC iRg 14 wX_14 rfl 0 (by decide) k_x44 rfl rfl dRg_trace_24 ?_
      refine x_iload hC dRg_trace_27 4 rfl ?_
      refine x_iconst (v := 1) hC dRg_trace_29 (by decide) ?_
      refine x_isub hC dRg_trace_30 ?_
      obtain ⟨hb_3, h⟩ := h
      refine x_iald hC 15 0 wX_15 rfl hb_3 dRg_trace_31 ?_
      obtain ⟨hb_4, h⟩ := h
      refine x_aald (y := ad (20 + (row (v6 - 1).toNatClampNeg).toNatClampNeg)) hC 11 2 wX_11 rfl rfl hb_4 rfl dRg_trace_32 ?_
      refine x_astore (lv' := [(7, .ref (ad (20 + ((row (v6 - 1).toNatClampNeg).toNatClampNeg)))), (0, .ref (ad 14)), (2, .int v2), (3, .ref (ad 11)), (4, .long v4), (6, .int v6)]) hC dRg_trace_33 (by decide) rfl ?_
      refine x_aload_n hC dRg_trace_35 rfl 1 rfl ?_
      refine x_get hC iRg 14 wX_14 rfl 0 (by decide) k_x44 rfl rfl dRg_trace_36 ?_
      refine x_iload hC dRg_trace_39 5 rfl ?_
      refine x_lload hC dRg_trace_41 4 rfl ?_
      refine x_aload hC dRg_trace_43 0 rfl ?_
      refine x_aload_n hC dRg_trace_45 rfl 1 rfl ?_
      refine x_get hC iRg 14 wX_14 rfl 1 (by decide) k_x37 rfl rfl dRg_trace_46 ?_
      refine x_aload_n hC dRg_trace_49 rfl 1 rfl ?_
      refine x_get hC iRg 14 wX_14 rfl 2 (by decide) k_x36 rfl rfl dRg_trace_50 ?_
      refine x_iload hC dRg_trace_53 5 rfl ?_
      refine x_isub hC dRg_trace_55 ?_
      obtain ⟨hb_5, h⟩ := h
      refine x_aald (y := ad (52 + (rl - v6).toNatClampNeg)) hC 16 2 wX_16 rfl rfl hb_5 rfl dRg_trace_56 ?_
      refine x_iload_n hC dRg_trace_57 rfl 2 rfl ?_
      refine x_callSi (S := Unit) (wf := fun u => (wX ad cI cL cO sc sd src itm knd plc clk ec nf ns nc wt bd off row hw rl tm ord tc)) hC [.long v4, .ref (ad (20 + ((row (v6 - 1).toNatClampNeg).toNatClampNeg))), .ref (ad (52 + ((rl - v6).toNatClampNeg))), .int v2] (fun sz => c_Ring_leastNext_wt_hw (x_in_lt hb_4) (x_in_lt hb_5) h sz) (by decide) (by decide) k_x45 k_x46 k_x47 (by decide) 4 rfl (by decide +kernel) ⟨by decide, by decide⟩ (Nat.le_of_ble_eq_true rfl) k_x48 rfl dRg_trace_58 (fun _ h9 => h9) (fun r_6 u_7 h => ?_)
      obtain ⟨hb_8, h⟩ := h
      refine x_iast (ws' := (wX ad cI cL cO sc sd src itm knd plc clk ec nf ns nc wt bd off (upd row v6.toNatClampNeg r_6) hw rl tm ord tc)) hC 15 0 wX_15 rfl hb_8 wX_15_set dRg_trace_61 ?_
      refine x_lload hC dRg_trace_62 4 rfl ?_
      refine x_aload hC dRg_trace_64 0 rfl ?_
      refine x_aload_n hC dRg_trace_66 rfl 1 rfl ?_
      refine x_get hC iRg 14 wX_14 rfl 0 (by decide) k_x44 rfl rfl dRg_trace_67 ?_
      refine x_iload hC dRg_trace_70 5 rfl ?_
      obtain ⟨hb_9, h⟩ := h
      refine x_iald hC 15 0 wX_15 rfl hb_9 dRg_trace_72 ?_
      obtain ⟨hb_10, h⟩ := h
      refine x_lald hC (20 + ((row (v6 - 1).toNatClampNeg).toNatClampNeg)) 1 (wX_wt (x_in_lt hb_4)) rfl hb_10 dRg_trace_73 ?_
      refine x_ladd hC dRg_trace_74 ?_
      refine x_lstore (lv' := [(4, .long (v4 + ((wt ((row (v6 - 1).toNatClampNeg).toNatClampNeg)) ((upd row v6.toNatClampNeg r_6) v6.toNatClampNeg).toNatClampNeg))), (7, .ref (ad (20 + ((row (v6 - 1).toNatClampNeg).toNatClampNeg)))), (0, .ref (ad 14)), (2, .int v2), (3, .ref (ad 11)), (6, .int v6)]) hC dRg_trace_75 (by decide) rfl ?_
      refine x_iinc (v := v6 + 1) (lv' := [(6, .int (v6 + 1)), (4, .long (v4 + ((wt ((row (v6 - 1).toNatClampNeg).toNatClampNeg)) ((upd row v6.toNatClampNeg r_6) v6.toNatClampNeg).toNatClampNeg))), (7, .ref (ad (20 + ((row (v6 - 1).toNatClampNeg).toNatClampNeg)))), (0, .ref (ad 14)), (2, .int v2), (3, .ref (ad 11))]) hC dRg_trace_77 5 rfl rfl (by decide) rfl ?_
      refine x_goto (tgt := 13) hC dRg_trace_80 (by decide) ?_
      refine x_lv [3, 4, 5, 1, 0] rfl ?_
      exact ih (v4 + ((wt ((row (v6 - 1).toNatClampNeg).toNatClampNeg)) ((upd row v6.toNatClampNeg r_6) v6.toNatClampNeg).toNatClampNeg)) (v6 + 1) (upd row v6.toNatClampNeg r_6) h

set_option maxHeartbeats 4000000 in
set_option maxRecDepth 100000 in
theorem c_Ring_trace_11 {l : Launch} {D : va_G} {ad : Nat → Nat} {cI cL cO : ClassId} {sc : Int32} {sd : Int32} {src : (Nat → Int32)} {itm : (Nat → Int32)} {knd : (Nat → Int32)} {plc : (Nat → Int32)} {clk : (Nat → Int64)} {ec : Int32} {nf : (Nat → Int32)} {ns : (Nat → Int32)} {nc : Int32} {wt : (Nat → Nat → Int64)} {bd : (Nat → Nat → Int64)} {off : (Nat → Int64)} {row : (Nat → Int32)} {hw : (Nat → Nat → Int64)} {rl : Int32} {tm : (Nat → Int64)} {ord : (Nat → Int32)} {tc : Int32} {a1 : Int32} {a2 : Int32} {Qr : (Nat → Int32) → Prop} (h : Ring_trace_11_wp wt row hw rl a1 a2 Qr) (sz : Nat) : vx_Met l yRg_trace (Cond.code yRg_trace bRg_trace 8 none :: TBL) rm_Ring_trace_11 (va_Pc [.ref (ad 14), .int a1, .int a2, .ref (ad 11)] (XP D vwCl (tysX cI cL cO) (wX ad cI cL cO sc sd src itm knd plc clk ec nf ns nc wt bd off row hw rl tm ord tc) sz)) (va_Qv Qr (fun u t => XB D vwCl (tysX cI cL cO) (va_A (wX ad cI cL cO sc sd src itm knd plc clk ec nf ns nc wt bd off row hw rl tm ord tc) sz) (wX ad cI cL cO sc sd src itm knd plc clk ec nf ns nc wt bd off u hw rl tm ord tc) t) (va_A (wX ad cI cL cO sc sd src itm knd plc clk ec nf ns nc wt bd off row hw rl tm ord tc) sz)) (XT D vwCl (tysX cI cL cO) (va_A (wX ad cI cL cO sc sd src itm knd plc clk ec nf ns nc wt bd off row hw rl tm ord tc) sz) (wX ad cI cL cO sc sd src itm knd plc clk ec nf ns nc wt bd off row hw rl tm ord tc) (fun _ => False)) rm_Ring_trace_11.cells rm_Ring_trace_11.slots (va_A (wX ad cI cL cO sc sd src itm knd plc clk ec nf ns nc wt bd off row hw rl tm ord tc) sz) := by
  refine x_met [.ref (ad 14), .int a1, .int a2, .ref (ad 11)] TBL_good (by decide) (Nat.le_of_ble_eq_true rfl) ?_
  intro p e s m args below meth c hC hr hlk hnm hnh
  have hret : ∀ (ce sl : Nat), ce ≤ rm_Ring_trace_11.cells → sl ≤ rm_Ring_trace_11.slots → ∀ (u : (Nat → Int32)), Qr u → ∀ (pc : Nat) (lv : List (Nat × Value)), decode bRg_trace pc = .ok (.return_, 1) → XW p l e rm_Ring_trace_11 s m args below meth c D vwCl (va_A (wX ad cI cL cO sc sd src itm knd plc clk ec nf ns nc wt bd off row hw rl tm ord tc) sz) 8 (vx_MQ below (va_Qv Qr (fun u t => XB D vwCl (tysX cI cL cO) (va_A (wX ad cI cL cO sc sd src itm knd plc clk ec nf ns nc wt bd off row hw rl tm ord tc) sz) (wX ad cI cL cO sc sd src itm knd plc clk ec nf ns nc wt bd off u hw rl tm ord tc) t) (va_A (wX ad cI cL cO sc sd src itm knd plc clk ec nf ns nc wt bd off row hw rl tm ord tc) sz)) (XT D vwCl (tysX cI cL cO) (va_A (wX ad cI cL cO sc sd src itm knd plc clk ec nf ns nc wt bd off row hw rl tm ord tc) sz) (wX ad cI cL cO sc sd src itm knd plc clk ec nf ns nc wt bd off row hw rl tm ord tc) (fun _ => False)) args s rm_Ring_trace_11.cells rm_Ring_trace_11.slots (va_A (wX ad cI cL cO sc sd src itm knd plc clk ec nf ns nc wt bd off row hw rl tm ord tc) sz)) ce sl (wX ad cI cL cO sc sd src itm knd plc clk ec nf ns nc wt bd off u hw rl tm ord tc) pc lv [] := fun ce sl h1 h2 u hq pc lv hd => x_vret (wf := fun u => (wX ad cI cL cO sc sd src itm knd plc clk ec nf ns nc wt bd off u hw rl tm ord tc)) hC h1 h2 hr hlk hd hq rfl
  show XW p l e rm_Ring_trace_11 s m args below meth c D vwCl (va_A (wX ad cI cL cO sc sd src itm knd plc clk ec nf ns nc wt bd off row hw rl tm ord tc) sz) 8 _ 0 0 (wX ad cI cL cO sc sd src itm knd plc clk ec nf ns nc wt bd off row hw rl tm ord tc) 0 [(0, .ref (ad 14)), (1, .int a1), (2, .int a2), (3, .ref (ad 11))] []
  unfold Ring_trace_11_wp at h
  refine x_aload_n hC dRg_trace_0 rfl 0 rfl ?_
  refine x_get hC iRg 14 wX_14 rfl 0 (by decide) k_x44 rfl rfl dRg_trace_1 ?_
  refine x_iconst (v := 0) hC dRg_trace_4 (by decide) ?_
  refine x_iload_n hC dRg_trace_5 rfl 1 rfl ?_
  obtain ⟨hb_1, h⟩ := h
  refine x_iast (ws' := (wX ad cI cL cO sc sd src itm knd plc clk ec nf ns nc wt bd off (upd row (0 : Int32).toNatClampNeg a1) hw rl tm ord tc)) hC 15 0 wX_15 rfl hb_1 wX_15_set dRg_trace_6 ?_
  refine x_lconst (v := 0) hC dRg_trace_7 (by decide) ?_
  refine x_lstore (lv' := [(4, .long 0), (0, .ref (ad 14)), (1, .int a1), (2, .int a2), (3, .ref (ad 11))]) hC dRg_trace_8 (by decide) rfl ?_
  refine x_iconst (v := 1) hC dRg_trace_10 (by decide) ?_
  refine x_istore (lv' := [(6, .int 1), (4, .long 0), (0, .ref (ad 14)), (1, .int a1), (2, .int a2), (3, .ref (ad 11))]) hC dRg_trace_11 (by decide) rfl ?_
  obtain ⟨n_12, h⟩ := h
  refine x_lv [2, 4, 5, 1, 0] rfl ?_
  refine Ring_trace_11_L13_ok hC (fun row_11 h => ?_) n_12 0 1 (upd row (0 : Int32).toNatClampNeg a1) h
  exact hret _ _ (by decide) (by decide) row_11 h _ _ dRg_trace_83

/-! EventOrder$Ring.find(I[[J)V -/
abbrev rm_Ring_find_11 : Room := { frames := 3, cells := 0, slots := 0, locals := 91 }
def Ring_find_11_L10 (v1 : Int32) (wt : (Nat → Nat → Int64)) (Qx : (Nat → Int32) → (Nat → Nat → Int64) → Int32 → Prop) : Nat → Int32 → Int32 → (Nat → Int32) → (Nat → Nat → Int64) → Int32 → Prop
  | 0, _, _, _, _, _ => False
  | n + 1, v3, v4, row, hw, rl => ((v1 ≤ v4 → Qx row hw rl) ∧ (¬ v1 ≤ v4 → Ring_stepsBack_11_wp wt hw v4 v3 v1 (fun (r_2 : Int32) (u_3 : (Nat → Nat → Int64)) => ((r_2 ≤ 0 → Ring_find_11_L10 v1 wt Qx n v3 (v4 + 1) row u_3 rl) ∧ (¬ r_2 ≤ 0 → Ring_trace_11_wp wt row u_3 r_2 v4 v1 (fun (u_6 : (Nat → Int32)) => Ring_find_11_L10 v1 wt Qx n (r_2 - 1) (v4 + 1) u_6 u_3 r_2))))))

def Ring_find_11_wp (wt : (Nat → Nat → Int64)) (row : (Nat → Int32)) (hw : (Nat → Nat → Int64)) (rl : Int32) (a1 : Int32) (Qr : ((Nat → Int32) × (Nat → Nat → Int64) × Int32) → Prop) : Prop := (∃ n_10 : Nat, Ring_find_11_L10 a1 wt (fun (row_7 : (Nat → Int32)) (hw_8 : (Nat → Nat → Int64)) (rl_9 : Int32) => Qr (row_7, hw_8, rl_9)) n_10 a1 0 row hw 0)
set_option maxHeartbeats 4000000 in
set_option maxRecDepth 100000 in
theorem Ring_find_11_L10_ok {p : Program} {l : Launch} {e : Env} {s : State} {m : MethodId} {args : Array Value} {below : List Frame} {meth : Method} {c : Code} {Q : State → Prop} {D : va_G} {A : Nat → Prop} {ad : Nat → Nat} {cI cL cO : ClassId} {sc : Int32} {sd : Int32} {src : (Nat → Int32)} {itm : (Nat → Int32)} {knd : (Nat → Int32)} {plc : (Nat → Int32)} {clk : (Nat → Int64)} {ec : Int32} {nf : (Nat → Int32)} {ns : (Nat → Int32)} {nc : Int32} {wt : (Nat → Nat → Int64)} {bd : (Nat → Nat → Int64)} {off : (Nat → Int64)} {tm : (Nat → Int64)} {ord : (Nat → Int32)} {tc : Int32} {v1 : Int32} {Qx : (Nat → Int32) → (Nat → Nat → Int64) → Int32 → Prop} (hC : XC p s m args c D vwCl (tysX cI cL cO) A 6 bRg_find TBL RRg)  (hexit : ∀ (row : (Nat → Int32)) (hw : (Nat → Nat → Int64)) (rl : Int32), Qx row hw rl → XW p l e rm_Ring_find_11 s m args below meth c D vwCl A 6 Q 0 0 (wX ad cI cL cO sc sd src itm knd plc clk ec nf ns nc wt bd off row hw rl tm ord tc) 57 [] []) : ∀ (n : Nat) (v3 : Int32) (v4 : Int32) (row : (Nat → Int32)) (hw : (Nat → Nat → Int64)) (rl : Int32), Ring_find_11_L10 v1 wt Qx n v3 v4 row hw rl → XW p l e rm_Ring_find_11 s m args below meth c D vwCl A 6 Q 0 0 (wX ad cI cL cO sc sd src itm knd plc clk ec nf ns nc wt bd off row hw rl tm ord tc) 10 [(0, .ref (ad 14)), (1, .int v1), (2, .ref (ad 11)), (3, .int v3), (4, .int v4)] [] := by
  intro n
  induction n with
  | zero => intro v3 v4 row hw rl h; exact False.elim h
  | succ n ih =>
    intro v3 v4 row hw rl h
    unfold Ring_find_11_L10 at h
    refine x_iload hC dRg_find_10 4 rfl ?_
    refine x_iload_n hC dRg_find_12 rfl 1 rfl ?_
    refine x_icmp_ge (tgt := 57) hC dRg_find_13 (by decide) (fun c_1 => ?_) (fun c_1 => ?_)
    · have h := h.1 c_1
      refine x_lv [] rfl ?_
      exact hexit row hw rl h
    · have h := h.2 c_1
      refine x_aload_n hC dRg_find_16 rfl 0 rfl ?_
      refine x_iload hC dRg_find_17 4 rfl ?_
      refine x_iload_n hC dRg_find_19 rfl 3 rfl ?_
      refine x_iload_n hC dRg_find_20 rfl 1 rfl ?_
      refine x_aload_n hC dRg_find_21 rfl 2 rfl ?_
      refine x_callVi (S := (Nat → Nat → Int64)) (wf := fun u => (wX ad cI cL cO sc sd src itm knd plc clk ec nf ns nc wt bd off row u rl tm ord tc)) hC [.int v4, .int v3, .int v1, .ref (ad 11)] (fun sz => c_Ring_stepsBack_11 h sz) (by decide) (by decide) k_x54 k_x55 k_x56 (by decide) 4 rfl (by decide +kernel) ⟨by decide, by decide⟩ (Nat.le_of_ble_eq_true rfl) k_x57 k_x58 wX_14 rfl rfl dRg_find_22 (fun _ h9 => h9) (fun r_2 u_3 h => ?_)
      refine x_istore (lv' := [(5, .int r_2), (0, .ref (ad 14)), (1, .int v1), (2, .ref (ad 11)), (3, .int v3), (4, .int v4)]) hC dRg_find_25 (by decide) rfl ?_
      refine x_iload hC dRg_find_27 0 rfl ?_
      refine x_if_le (tgt := 51) hC dRg_find_29 (by decide) (fun c_4 => ?_) (fun c_4 => ?_)
      · have h := h.1 c_4
        refine x_iinc (v := v4 + 1) (lv' := [(4, .int (v4 + 1)), (5, .int r_2), (0, .ref (ad 14)), (1, .int v1), (2, .ref (ad 11)), (3, .int v3)]) hC dRg_find_51 5 rfl rfl (by decide) rfl ?_
        refine x_goto (tgt := 10) hC dRg_find_54 (by decide) ?_
        refine x_lv [2, 3, 4, 5, 0] rfl ?_
        exact ih v3 (v4 + 1) row u_3 rl h
      · have h := h.2 c_4
        refine x_aload_n hC dRg_find_32 rfl 1 rfl ?_
        refine x_iload hC dRg_find_33 0 rfl ?_
        refine x_put (ty := .int) (ws' := (wX ad cI cL cO sc sd src itm knd plc clk ec nf ns nc wt bd off row u_3 r_2 tm ord tc)) hC iRg 14 wX_14 rfl 2 (by decide) k_x36 rfl tRg tRg_ok nRg rfl (by decide +kernel) rfl rfl (Nat.le_of_ble_eq_true rfl) rfl dRg_find_35 ?_
        refine x_iload hC dRg_find_38 0 rfl ?_
        refine x_iconst (v := 1) hC dRg_find_40 (by decide) ?_
        refine x_isub hC dRg_find_41 ?_
        refine x_istore_n (lv' := [(3, .int (r_2 - 1)), (5, .int r_2), (0, .ref (ad 14)), (1, .int v1), (2, .ref (ad 11)), (4, .int v4)]) hC dRg_find_42 rfl (by decide) rfl ?_
        refine x_aload_n hC dRg_find_43 rfl 2 rfl ?_
        refine x_iload hC dRg_find_44 5 rfl ?_
        refine x_iload_n hC dRg_find_46 rfl 3 rfl ?_
        refine x_aload_n hC dRg_find_47 rfl 4 rfl ?_
        refine x_callVv (S := (Nat → Int32)) (wf := fun u => (wX ad cI cL cO sc sd src itm knd plc clk ec nf ns nc wt bd off u u_3 r_2 tm ord tc)) hC [.int v4, .int v1, .ref (ad 11)] (fun sz => c_Ring_trace_11 h sz) (by decide) (by decide) k_x49 k_x50 k_x51 (by decide) 3 rfl (by decide +kernel) ⟨by decide, by decide⟩ (Nat.le_of_ble_eq_true rfl) k_x52 k_x53 wX_14 rfl rfl dRg_find_48 (fun _ h9 => h9) (fun u_6 h => ?_)
        refine x_iinc (v := v4 + 1) (lv' := [(4, .int (v4 + 1)), (3, .int (r_2 - 1)), (5, .int r_2), (0, .ref (ad 14)), (1, .int v1), (2, .ref (ad 11))]) hC dRg_find_51 5 rfl rfl (by decide) rfl ?_
        refine x_goto (tgt := 10) hC dRg_find_54 (by decide) ?_
        refine x_lv [3, 4, 5, 1, 0] rfl ?_
        exact ih (r_2 - 1) (v4 + 1) u_6 u_3 r_2 h

set_option maxHeartbeats 4000000 in
set_option maxRecDepth 100000 in
theorem c_Ring_find_11 {l : Launch} {D : va_G} {ad : Nat → Nat} {cI cL cO : ClassId} {sc : Int32} {sd : Int32} {src : (Nat → Int32)} {itm : (Nat → Int32)} {knd : (Nat → Int32)} {plc : (Nat → Int32)} {clk : (Nat → Int64)} {ec : Int32} {nf : (Nat → Int32)} {ns : (Nat → Int32)} {nc : Int32} {wt : (Nat → Nat → Int64)} {bd : (Nat → Nat → Int64)} {off : (Nat → Int64)} {row : (Nat → Int32)} {hw : (Nat → Nat → Int64)} {rl : Int32} {tm : (Nat → Int64)} {ord : (Nat → Int32)} {tc : Int32} {a1 : Int32} {Qr : ((Nat → Int32) × (Nat → Nat → Int64) × Int32) → Prop} (h : Ring_find_11_wp wt row hw rl a1 Qr) (sz : Nat) : vx_Met l yRg_find (Cond.code yRg_find bRg_find 6 none :: TBL) rm_Ring_find_11 (va_Pc [.ref (ad 14), .int a1, .ref (ad 11)] (XP D vwCl (tysX cI cL cO) (wX ad cI cL cO sc sd src itm knd plc clk ec nf ns nc wt bd off row hw rl tm ord tc) sz)) (va_Qv Qr (fun u t => XB D vwCl (tysX cI cL cO) (va_A (wX ad cI cL cO sc sd src itm knd plc clk ec nf ns nc wt bd off row hw rl tm ord tc) sz) (wX ad cI cL cO sc sd src itm knd plc clk ec nf ns nc wt bd off u.1 u.2.1 u.2.2 tm ord tc) t) (va_A (wX ad cI cL cO sc sd src itm knd plc clk ec nf ns nc wt bd off row hw rl tm ord tc) sz)) (XT D vwCl (tysX cI cL cO) (va_A (wX ad cI cL cO sc sd src itm knd plc clk ec nf ns nc wt bd off row hw rl tm ord tc) sz) (wX ad cI cL cO sc sd src itm knd plc clk ec nf ns nc wt bd off row hw rl tm ord tc) (fun _ => False)) rm_Ring_find_11.cells rm_Ring_find_11.slots (va_A (wX ad cI cL cO sc sd src itm knd plc clk ec nf ns nc wt bd off row hw rl tm ord tc) sz) := by
  refine x_met [.ref (ad 14), .int a1, .ref (ad 11)] TBL_good (by decide) (Nat.le_of_ble_eq_true rfl) ?_
  intro p e s m args below meth c hC hr hlk hnm hnh
  have hret : ∀ (ce sl : Nat), ce ≤ rm_Ring_find_11.cells → sl ≤ rm_Ring_find_11.slots → ∀ (u : ((Nat → Int32) × (Nat → Nat → Int64) × Int32)), Qr u → ∀ (pc : Nat) (lv : List (Nat × Value)), decode bRg_find pc = .ok (.return_, 1) → XW p l e rm_Ring_find_11 s m args below meth c D vwCl (va_A (wX ad cI cL cO sc sd src itm knd plc clk ec nf ns nc wt bd off row hw rl tm ord tc) sz) 6 (vx_MQ below (va_Qv Qr (fun u t => XB D vwCl (tysX cI cL cO) (va_A (wX ad cI cL cO sc sd src itm knd plc clk ec nf ns nc wt bd off row hw rl tm ord tc) sz) (wX ad cI cL cO sc sd src itm knd plc clk ec nf ns nc wt bd off u.1 u.2.1 u.2.2 tm ord tc) t) (va_A (wX ad cI cL cO sc sd src itm knd plc clk ec nf ns nc wt bd off row hw rl tm ord tc) sz)) (XT D vwCl (tysX cI cL cO) (va_A (wX ad cI cL cO sc sd src itm knd plc clk ec nf ns nc wt bd off row hw rl tm ord tc) sz) (wX ad cI cL cO sc sd src itm knd plc clk ec nf ns nc wt bd off row hw rl tm ord tc) (fun _ => False)) args s rm_Ring_find_11.cells rm_Ring_find_11.slots (va_A (wX ad cI cL cO sc sd src itm knd plc clk ec nf ns nc wt bd off row hw rl tm ord tc) sz)) ce sl (wX ad cI cL cO sc sd src itm knd plc clk ec nf ns nc wt bd off u.1 u.2.1 u.2.2 tm ord tc) pc lv [] := fun ce sl h1 h2 u hq pc lv hd => x_vret (wf := fun u => (wX ad cI cL cO sc sd src itm knd plc clk ec nf ns nc wt bd off u.1 u.2.1 u.2.2 tm ord tc)) hC h1 h2 hr hlk hd hq rfl
  show XW p l e rm_Ring_find_11 s m args below meth c D vwCl (va_A (wX ad cI cL cO sc sd src itm knd plc clk ec nf ns nc wt bd off row hw rl tm ord tc) sz) 6 _ 0 0 (wX ad cI cL cO sc sd src itm knd plc clk ec nf ns nc wt bd off row hw rl tm ord tc) 0 [(0, .ref (ad 14)), (1, .int a1), (2, .ref (ad 11))] []
  unfold Ring_find_11_wp at h
  refine x_aload_n hC dRg_find_0 rfl 0 rfl ?_
  refine x_iconst (v := 0) hC dRg_find_1 (by decide) ?_
  refine x_put (ty := .int) (ws' := (wX ad cI cL cO sc sd src itm knd plc clk ec nf ns nc wt bd off row hw 0 tm ord tc)) hC iRg 14 wX_14 rfl 2 (by decide) k_x36 rfl tRg tRg_ok nRg rfl (by decide +kernel) rfl rfl (Nat.le_of_ble_eq_true rfl) rfl dRg_find_2 ?_
  refine x_iload_n hC dRg_find_5 rfl 1 rfl ?_
  refine x_istore_n (lv' := [(3, .int a1), (0, .ref (ad 14)), (1, .int a1), (2, .ref (ad 11))]) hC dRg_find_6 rfl (by decide) rfl ?_
  refine x_iconst (v := 0) hC dRg_find_7 (by decide) ?_
  refine x_istore (lv' := [(4, .int 0), (3, .int a1), (0, .ref (ad 14)), (1, .int a1), (2, .ref (ad 11))]) hC dRg_find_8 (by decide) rfl ?_
  obtain ⟨n_10, h⟩ := h
  refine x_lv [2, 3, 4, 1, 0] rfl ?_
  refine Ring_find_11_L10_ok hC (fun row_7 hw_8 rl_9 h => ?_) n_10 a1 0 row hw 0 h
  exact hret _ _ (by decide) (by decide) (row_7, hw_8, rl_9) h _ _ dRg_find_57
end
section
theorem dTl_lay_0 : decode bTl_lay 0 = .ok (.aload_n 0, 1) := by decide +kernel
theorem dTl_lay_1 : decode bTl_lay 1 = .ok (.aload_n 1, 1) := by decide +kernel
theorem dTl_lay_2 : decode bTl_lay 2 = .ok (.getfield 23, 3) := by decide +kernel
theorem dTl_lay_5 : decode bTl_lay 5 = .ok (.putfield 19, 3) := by decide +kernel
theorem dTl_lay_8 : decode bTl_lay 8 = .ok (.iconst 1, 1) := by decide +kernel
theorem dTl_lay_9 : decode bTl_lay 9 = .ok (.istore_n 3, 1) := by decide +kernel
theorem dTl_lay_10 : decode bTl_lay 10 = .ok (.iload_n 3, 1) := by decide +kernel
theorem dTl_lay_11 : decode bTl_lay 11 = .ok (.aload_n 0, 1) := by decide +kernel
theorem dTl_lay_12 : decode bTl_lay 12 = .ok (.getfield 19, 3) := by decide +kernel
theorem dTl_lay_15 : decode bTl_lay 15 = .ok (.if_icmp .gt 91, 3) := by decide +kernel
theorem dTl_lay_18 : decode bTl_lay 18 = .ok (.aload_n 0, 1) := by decide +kernel
theorem dTl_lay_19 : decode bTl_lay 19 = .ok (.getfield 9, 3) := by decide +kernel
theorem dTl_lay_22 : decode bTl_lay 22 = .ok (.iload_n 3, 1) := by decide +kernel
theorem dTl_lay_23 : decode bTl_lay 23 = .ok (.aload_n 1, 1) := by decide +kernel
theorem dTl_lay_24 : decode bTl_lay 24 = .ok (.getfield 26, 3) := by decide +kernel
theorem dTl_lay_27 : decode bTl_lay 27 = .ok (.iload_n 3, 1) := by decide +kernel
theorem dTl_lay_28 : decode bTl_lay 28 = .ok (.laload, 1) := by decide +kernel
theorem dTl_lay_29 : decode bTl_lay 29 = .ok (.aload_n 2, 1) := by decide +kernel
theorem dTl_lay_30 : decode bTl_lay 30 = .ok (.aload_n 1, 1) := by decide +kernel
theorem dTl_lay_31 : decode bTl_lay 31 = .ok (.getfield 29, 3) := by decide +kernel
theorem dTl_lay_34 : decode bTl_lay 34 = .ok (.iload_n 3, 1) := by decide +kernel
theorem dTl_lay_35 : decode bTl_lay 35 = .ok (.iaload, 1) := by decide +kernel
theorem dTl_lay_36 : decode bTl_lay 36 = .ok (.laload, 1) := by decide +kernel
theorem dTl_lay_37 : decode bTl_lay 37 = .ok (.ladd, 1) := by decide +kernel
theorem dTl_lay_38 : decode bTl_lay 38 = .ok (.lastore, 1) := by decide +kernel
theorem dTl_lay_39 : decode bTl_lay 39 = .ok (.iload_n 3, 1) := by decide +kernel
theorem dTl_lay_40 : decode bTl_lay 40 = .ok (.iconst 1, 1) := by decide +kernel
theorem dTl_lay_41 : decode bTl_lay 41 = .ok (.isub, 1) := by decide +kernel
theorem dTl_lay_42 : decode bTl_lay 42 = .ok (.istore 4, 2) := by decide +kernel
theorem dTl_lay_44 : decode bTl_lay 44 = .ok (.iload 4, 2) := by decide +kernel
theorem dTl_lay_46 : decode bTl_lay 46 = .ok (.ifCond .le 46, 3) := by decide +kernel
theorem dTl_lay_49 : decode bTl_lay 49 = .ok (.aload_n 0, 1) := by decide +kernel
theorem dTl_lay_50 : decode bTl_lay 50 = .ok (.aload_n 0, 1) := by decide +kernel
theorem dTl_lay_51 : decode bTl_lay 51 = .ok (.getfield 15, 3) := by decide +kernel
theorem dTl_lay_54 : decode bTl_lay 54 = .ok (.iload 4, 2) := by decide +kernel
theorem dTl_lay_56 : decode bTl_lay 56 = .ok (.iconst 1, 1) := by decide +kernel
theorem dTl_lay_57 : decode bTl_lay 57 = .ok (.isub, 1) := by decide +kernel
theorem dTl_lay_58 : decode bTl_lay 58 = .ok (.iaload, 1) := by decide +kernel
theorem dTl_lay_59 : decode bTl_lay 59 = .ok (.iload_n 3, 1) := by decide +kernel
theorem dTl_lay_60 : decode bTl_lay 60 = .ok (.aload_n 1, 1) := by decide +kernel
theorem dTl_lay_61 : decode bTl_lay 61 = .ok (.getfield 32, 3) := by decide +kernel
theorem dTl_lay_64 : decode bTl_lay 64 = .ok (.invokevirtual 35, 3) := by decide +kernel
theorem dTl_isLater_0 : decode bTl_isLater 0 = .ok (.aload_n 0, 1) := by decide +kernel
theorem dTl_isLater_1 : decode bTl_isLater 1 = .ok (.getfield 9, 3) := by decide +kernel
theorem dTl_isLater_4 : decode bTl_isLater 4 = .ok (.iload_n 1, 1) := by decide +kernel
theorem dTl_isLater_5 : decode bTl_isLater 5 = .ok (.laload, 1) := by decide +kernel
theorem dTl_isLater_6 : decode bTl_isLater 6 = .ok (.aload_n 0, 1) := by decide +kernel
theorem dTl_isLater_7 : decode bTl_isLater 7 = .ok (.getfield 9, 3) := by decide +kernel
theorem dTl_isLater_10 : decode bTl_isLater 10 = .ok (.iload_n 2, 1) := by decide +kernel
theorem dTl_isLater_11 : decode bTl_isLater 11 = .ok (.laload, 1) := by decide +kernel
theorem dTl_isLater_12 : decode bTl_isLater 12 = .ok (.lcmp, 1) := by decide +kernel
theorem dTl_isLater_13 : decode bTl_isLater 13 = .ok (.ifCond .eq 25, 3) := by decide +kernel
theorem dTl_isLater_38 : decode bTl_isLater 38 = .ok (.aload_n 3, 1) := by decide +kernel
theorem dTl_isLater_39 : decode bTl_isLater 39 = .ok (.iload_n 1, 1) := by decide +kernel
theorem dTl_isLater_40 : decode bTl_isLater 40 = .ok (.iaload, 1) := by decide +kernel
theorem dTl_isLater_41 : decode bTl_isLater 41 = .ok (.aload_n 3, 1) := by decide +kernel
theorem dTl_isLater_42 : decode bTl_isLater 42 = .ok (.iload_n 2, 1) := by decide +kernel
theorem dTl_isLater_43 : decode bTl_isLater 43 = .ok (.iaload, 1) := by decide +kernel
theorem dTl_isLater_44 : decode bTl_isLater 44 = .ok (.if_icmp .le 7, 3) := by decide +kernel
theorem dTl_isLater_51 : decode bTl_isLater 51 = .ok (.iconst 0, 1) := by decide +kernel
theorem dTl_isLater_52 : decode bTl_isLater 52 = .ok (.ireturn, 1) := by decide +kernel
theorem dTl_isLater_47 : decode bTl_isLater 47 = .ok (.iconst 1, 1) := by decide +kernel
theorem dTl_isLater_48 : decode bTl_isLater 48 = .ok (.goto 4, 3) := by decide +kernel
theorem dTl_isLater_16 : decode bTl_isLater 16 = .ok (.aload_n 0, 1) := by decide +kernel
theorem dTl_isLater_17 : decode bTl_isLater 17 = .ok (.getfield 9, 3) := by decide +kernel
theorem dTl_isLater_20 : decode bTl_isLater 20 = .ok (.iload_n 1, 1) := by decide +kernel
theorem dTl_isLater_21 : decode bTl_isLater 21 = .ok (.laload, 1) := by decide +kernel
theorem dTl_isLater_22 : decode bTl_isLater 22 = .ok (.aload_n 0, 1) := by decide +kernel
theorem dTl_isLater_23 : decode bTl_isLater 23 = .ok (.getfield 9, 3) := by decide +kernel
theorem dTl_isLater_26 : decode bTl_isLater 26 = .ok (.iload_n 2, 1) := by decide +kernel
theorem dTl_isLater_27 : decode bTl_isLater 27 = .ok (.laload, 1) := by decide +kernel
theorem dTl_isLater_28 : decode bTl_isLater 28 = .ok (.lcmp, 1) := by decide +kernel
theorem dTl_isLater_29 : decode bTl_isLater 29 = .ok (.ifCond .le 7, 3) := by decide +kernel
theorem dTl_isLater_36 : decode bTl_isLater 36 = .ok (.iconst 0, 1) := by decide +kernel
theorem dTl_isLater_37 : decode bTl_isLater 37 = .ok (.ireturn, 1) := by decide +kernel
theorem dTl_isLater_32 : decode bTl_isLater 32 = .ok (.iconst 1, 1) := by decide +kernel
theorem dTl_isLater_33 : decode bTl_isLater 33 = .ok (.goto 4, 3) := by decide +kernel
theorem dTl_lay_67 : decode bTl_lay 67 = .ok (.ifCond .eq 25, 3) := by decide +kernel
theorem dTl_lay_70 : decode bTl_lay 70 = .ok (.aload_n 0, 1) := by decide +kernel
theorem dTl_lay_71 : decode bTl_lay 71 = .ok (.getfield 15, 3) := by decide +kernel
theorem dTl_lay_74 : decode bTl_lay 74 = .ok (.iload 4, 2) := by decide +kernel
theorem dTl_lay_76 : decode bTl_lay 76 = .ok (.aload_n 0, 1) := by decide +kernel
theorem dTl_lay_77 : decode bTl_lay 77 = .ok (.getfield 15, 3) := by decide +kernel
theorem dTl_lay_80 : decode bTl_lay 80 = .ok (.iload 4, 2) := by decide +kernel
theorem dTl_lay_82 : decode bTl_lay 82 = .ok (.iconst 1, 1) := by decide +kernel
theorem dTl_lay_83 : decode bTl_lay 83 = .ok (.isub, 1) := by decide +kernel
theorem dTl_lay_84 : decode bTl_lay 84 = .ok (.iaload, 1) := by decide +kernel
theorem dTl_lay_85 : decode bTl_lay 85 = .ok (.iastore, 1) := by decide +kernel
theorem dTl_lay_86 : decode bTl_lay 86 = .ok (.iinc 4 (-1), 3) := by decide +kernel
theorem dTl_lay_89 : decode bTl_lay 89 = .ok (.goto (-45), 3) := by decide +kernel
theorem dTl_lay_92 : decode bTl_lay 92 = .ok (.aload_n 0, 1) := by decide +kernel
theorem dTl_lay_93 : decode bTl_lay 93 = .ok (.getfield 15, 3) := by decide +kernel
theorem dTl_lay_96 : decode bTl_lay 96 = .ok (.iload 4, 2) := by decide +kernel
theorem dTl_lay_98 : decode bTl_lay 98 = .ok (.iload_n 3, 1) := by decide +kernel
theorem dTl_lay_99 : decode bTl_lay 99 = .ok (.iastore, 1) := by decide +kernel
theorem dTl_lay_100 : decode bTl_lay 100 = .ok (.iinc 3 1, 3) := by decide +kernel
theorem dTl_lay_103 : decode bTl_lay 103 = .ok (.goto (-93), 3) := by decide +kernel
theorem dTl_lay_106 : decode bTl_lay 106 = .ok (.return_, 1) := by decide +kernel
theorem dTl_eventOf_0 : decode bTl_eventOf 0 = .ok (.iconst 0, 1) := by decide +kernel
theorem dTl_eventOf_1 : decode bTl_eventOf 1 = .ok (.istore 4, 2) := by decide +kernel
theorem dTl_eventOf_3 : decode bTl_eventOf 3 = .ok (.iconst 0, 1) := by decide +kernel
theorem dTl_eventOf_4 : decode bTl_eventOf 4 = .ok (.istore 5, 2) := by decide +kernel
theorem dTl_eventOf_6 : decode bTl_eventOf 6 = .ok (.iload 5, 2) := by decide +kernel
theorem dTl_eventOf_8 : decode bTl_eventOf 8 = .ok (.aload_n 0, 1) := by decide +kernel
theorem dTl_eventOf_9 : decode bTl_eventOf 9 = .ok (.getfield 19, 3) := by decide +kernel
theorem dTl_eventOf_12 : decode bTl_eventOf 12 = .ok (.if_icmp .ge 42, 3) := by decide +kernel
theorem dTl_eventOf_15 : decode bTl_eventOf 15 = .ok (.aload_n 1, 1) := by decide +kernel
theorem dTl_eventOf_16 : decode bTl_eventOf 16 = .ok (.getfield 39, 3) := by decide +kernel
theorem dTl_eventOf_19 : decode bTl_eventOf 19 = .ok (.aload_n 0, 1) := by decide +kernel
theorem dTl_eventOf_20 : decode bTl_eventOf 20 = .ok (.getfield 15, 3) := by decide +kernel
theorem dTl_eventOf_23 : decode bTl_eventOf 23 = .ok (.iload 5, 2) := by decide +kernel
theorem dTl_eventOf_25 : decode bTl_eventOf 25 = .ok (.iaload, 1) := by decide +kernel
theorem dTl_eventOf_26 : decode bTl_eventOf 26 = .ok (.iaload, 1) := by decide +kernel
theorem dTl_eventOf_27 : decode bTl_eventOf 27 = .ok (.iload_n 2, 1) := by decide +kernel
theorem dTl_eventOf_28 : decode bTl_eventOf 28 = .ok (.if_icmp .ne 20, 3) := by decide +kernel
theorem dTl_eventOf_48 : decode bTl_eventOf 48 = .ok (.iinc 5 1, 3) := by decide +kernel
theorem dTl_eventOf_51 : decode bTl_eventOf 51 = .ok (.goto (-45), 3) := by decide +kernel
theorem dTl_eventOf_31 : decode bTl_eventOf 31 = .ok (.iload 4, 2) := by decide +kernel
theorem dTl_eventOf_33 : decode bTl_eventOf 33 = .ok (.iload_n 3, 1) := by decide +kernel
theorem dTl_eventOf_34 : decode bTl_eventOf 34 = .ok (.if_icmp .ne 11, 3) := by decide +kernel
theorem dTl_eventOf_45 : decode bTl_eventOf 45 = .ok (.iinc 4 1, 3) := by decide +kernel
theorem dTl_eventOf_37 : decode bTl_eventOf 37 = .ok (.aload_n 0, 1) := by decide +kernel
theorem dTl_eventOf_38 : decode bTl_eventOf 38 = .ok (.getfield 15, 3) := by decide +kernel
theorem dTl_eventOf_41 : decode bTl_eventOf 41 = .ok (.iload 5, 2) := by decide +kernel
theorem dTl_eventOf_43 : decode bTl_eventOf 43 = .ok (.iaload, 1) := by decide +kernel
theorem dTl_eventOf_44 : decode bTl_eventOf 44 = .ok (.ireturn, 1) := by decide +kernel
theorem dTl_eventOf_54 : decode bTl_eventOf 54 = .ok (.iconst 0, 1) := by decide +kernel
theorem dTl_eventOf_55 : decode bTl_eventOf 55 = .ok (.ireturn, 1) := by decide +kernel
theorem dTl_countImplied_0 : decode bTl_countImplied 0 = .ok (.iconst 0, 1) := by decide +kernel
theorem dTl_countImplied_1 : decode bTl_countImplied 1 = .ok (.istore 4, 2) := by decide +kernel
theorem dTl_countImplied_3 : decode bTl_countImplied 3 = .ok (.iconst 0, 1) := by decide +kernel
theorem dTl_countImplied_4 : decode bTl_countImplied 4 = .ok (.istore 5, 2) := by decide +kernel
theorem dTl_countImplied_6 : decode bTl_countImplied 6 = .ok (.iconst 0, 1) := by decide +kernel
theorem dTl_countImplied_7 : decode bTl_countImplied 7 = .ok (.istore 6, 2) := by decide +kernel
theorem dTl_countImplied_9 : decode bTl_countImplied 9 = .ok (.iconst 0, 1) := by decide +kernel
theorem dTl_countImplied_10 : decode bTl_countImplied 10 = .ok (.istore 7, 2) := by decide +kernel
theorem dTl_countImplied_12 : decode bTl_countImplied 12 = .ok (.iload 7, 2) := by decide +kernel
theorem dTl_countImplied_14 : decode bTl_countImplied 14 = .ok (.aload_n 0, 1) := by decide +kernel
theorem dTl_countImplied_15 : decode bTl_countImplied 15 = .ok (.getfield 19, 3) := by decide +kernel
theorem dTl_countImplied_18 : decode bTl_countImplied 18 = .ok (.if_icmp .ge 110, 3) := by decide +kernel
theorem dTl_countImplied_21 : decode bTl_countImplied 21 = .ok (.aload_n 0, 1) := by decide +kernel
theorem dTl_countImplied_22 : decode bTl_countImplied 22 = .ok (.getfield 15, 3) := by decide +kernel
theorem dTl_countImplied_25 : decode bTl_countImplied 25 = .ok (.iload 7, 2) := by decide +kernel
theorem dTl_countImplied_27 : decode bTl_countImplied 27 = .ok (.iaload, 1) := by decide +kernel
theorem dTl_countImplied_28 : decode bTl_countImplied 28 = .ok (.istore 8, 2) := by decide +kernel
theorem dTl_countImplied_30 : decode bTl_countImplied 30 = .ok (.iload 7, 2) := by decide +kernel
theorem dTl_countImplied_32 : decode bTl_countImplied 32 = .ok (.ifCond .le 32, 3) := by decide +kernel
theorem dTl_countImplied_64 : decode bTl_countImplied 64 = .ok (.aload_n 1, 1) := by decide +kernel
theorem dTl_countImplied_65 : decode bTl_countImplied 65 = .ok (.getfield 39, 3) := by decide +kernel
theorem dTl_countImplied_68 : decode bTl_countImplied 68 = .ok (.iload 8, 2) := by decide +kernel
theorem dTl_countImplied_70 : decode bTl_countImplied 70 = .ok (.iaload, 1) := by decide +kernel
theorem dTl_countImplied_71 : decode bTl_countImplied 71 = .ok (.iload_n 2, 1) := by decide +kernel
theorem dTl_countImplied_72 : decode bTl_countImplied 72 = .ok (.if_icmp .ne 14, 3) := by decide +kernel
theorem dTl_countImplied_86 : decode bTl_countImplied 86 = .ok (.aload_n 1, 1) := by decide +kernel
theorem dTl_countImplied_87 : decode bTl_countImplied 87 = .ok (.getfield 39, 3) := by decide +kernel
theorem dTl_countImplied_90 : decode bTl_countImplied 90 = .ok (.iload 8, 2) := by decide +kernel
theorem dTl_countImplied_92 : decode bTl_countImplied 92 = .ok (.iaload, 1) := by decide +kernel
theorem dTl_countImplied_93 : decode bTl_countImplied 93 = .ok (.iload_n 3, 1) := by decide +kernel
theorem dTl_countImplied_94 : decode bTl_countImplied 94 = .ok (.if_icmp .ne 28, 3) := by decide +kernel
theorem dTl_countImplied_122 : decode bTl_countImplied 122 = .ok (.iinc 7 1, 3) := by decide +kernel
theorem dTl_countImplied_125 : decode bTl_countImplied 125 = .ok (.goto (-113), 3) := by decide +kernel
theorem dTl_countImplied_97 : decode bTl_countImplied 97 = .ok (.aload_n 1, 1) := by decide +kernel
theorem dTl_countImplied_98 : decode bTl_countImplied 98 = .ok (.getfield 32, 3) := by decide +kernel
theorem dTl_countImplied_101 : decode bTl_countImplied 101 = .ok (.iload 8, 2) := by decide +kernel
theorem dTl_countImplied_103 : decode bTl_countImplied 103 = .ok (.iaload, 1) := by decide +kernel
theorem dTl_countImplied_104 : decode bTl_countImplied 104 = .ok (.iload_n 2, 1) := by decide +kernel
theorem dTl_countImplied_105 : decode bTl_countImplied 105 = .ok (.if_icmp .ne 17, 3) := by decide +kernel
theorem dTl_countImplied_108 : decode bTl_countImplied 108 = .ok (.aload_n 1, 1) := by decide +kernel
theorem dTl_countImplied_109 : decode bTl_countImplied 109 = .ok (.getfield 42, 3) := by decide +kernel
theorem dTl_countImplied_112 : decode bTl_countImplied 112 = .ok (.iload 8, 2) := by decide +kernel
theorem dTl_countImplied_114 : decode bTl_countImplied 114 = .ok (.iaload, 1) := by decide +kernel
theorem dTl_countImplied_115 : decode bTl_countImplied 115 = .ok (.iload 6, 2) := by decide +kernel
theorem dTl_countImplied_117 : decode bTl_countImplied 117 = .ok (.invokestatic 45, 3) := by decide +kernel
theorem dTl_isInsideAfter_0 : decode bTl_isInsideAfter 0 = .ok (.iload_n 0, 1) := by decide +kernel
theorem dTl_isInsideAfter_1 : decode bTl_isInsideAfter 1 = .ok (.iconst 1, 1) := by decide +kernel
theorem dTl_isInsideAfter_2 : decode bTl_isInsideAfter 2 = .ok (.if_icmp .ne 5, 3) := by decide +kernel
theorem dTl_isInsideAfter_7 : decode bTl_isInsideAfter 7 = .ok (.iload_n 0, 1) := by decide +kernel
theorem dTl_isInsideAfter_8 : decode bTl_isInsideAfter 8 = .ok (.iconst 2, 1) := by decide +kernel
theorem dTl_isInsideAfter_9 : decode bTl_isInsideAfter 9 = .ok (.if_icmp .eq 11, 3) := by decide +kernel
theorem dTl_isInsideAfter_20 : decode bTl_isInsideAfter 20 = .ok (.iconst 0, 1) := by decide +kernel
theorem dTl_isInsideAfter_21 : decode bTl_isInsideAfter 21 = .ok (.ireturn, 1) := by decide +kernel
theorem dTl_isInsideAfter_12 : decode bTl_isInsideAfter 12 = .ok (.iload_n 1, 1) := by decide +kernel
theorem dTl_isInsideAfter_13 : decode bTl_isInsideAfter 13 = .ok (.ifCond .eq 7, 3) := by decide +kernel
theorem dTl_isInsideAfter_16 : decode bTl_isInsideAfter 16 = .ok (.iconst 1, 1) := by decide +kernel
theorem dTl_isInsideAfter_17 : decode bTl_isInsideAfter 17 = .ok (.goto 4, 3) := by decide +kernel
theorem dTl_isInsideAfter_5 : decode bTl_isInsideAfter 5 = .ok (.iconst 1, 1) := by decide +kernel
theorem dTl_isInsideAfter_6 : decode bTl_isInsideAfter 6 = .ok (.ireturn, 1) := by decide +kernel
theorem dTl_countImplied_120 : decode bTl_countImplied 120 = .ok (.istore 6, 2) := by decide +kernel
theorem dTl_countImplied_75 : decode bTl_countImplied 75 = .ok (.iload 5, 2) := by decide +kernel
theorem dTl_countImplied_77 : decode bTl_countImplied 77 = .ok (.ifCond .eq 45, 3) := by decide +kernel
theorem dTl_countImplied_80 : decode bTl_countImplied 80 = .ok (.iinc 4 1, 3) := by decide +kernel
theorem dTl_countImplied_83 : decode bTl_countImplied 83 = .ok (.goto 39, 3) := by decide +kernel
theorem dTl_countImplied_35 : decode bTl_countImplied 35 = .ok (.aload_n 0, 1) := by decide +kernel
theorem dTl_countImplied_36 : decode bTl_countImplied 36 = .ok (.getfield 9, 3) := by decide +kernel
theorem dTl_countImplied_39 : decode bTl_countImplied 39 = .ok (.iload 8, 2) := by decide +kernel
theorem dTl_countImplied_41 : decode bTl_countImplied 41 = .ok (.laload, 1) := by decide +kernel
theorem dTl_countImplied_42 : decode bTl_countImplied 42 = .ok (.aload_n 0, 1) := by decide +kernel
theorem dTl_countImplied_43 : decode bTl_countImplied 43 = .ok (.getfield 9, 3) := by decide +kernel
theorem dTl_countImplied_46 : decode bTl_countImplied 46 = .ok (.aload_n 0, 1) := by decide +kernel
theorem dTl_countImplied_47 : decode bTl_countImplied 47 = .ok (.getfield 15, 3) := by decide +kernel
theorem dTl_countImplied_50 : decode bTl_countImplied 50 = .ok (.iload 7, 2) := by decide +kernel
theorem dTl_countImplied_52 : decode bTl_countImplied 52 = .ok (.iconst 1, 1) := by decide +kernel
theorem dTl_countImplied_53 : decode bTl_countImplied 53 = .ok (.isub, 1) := by decide +kernel
theorem dTl_countImplied_54 : decode bTl_countImplied 54 = .ok (.iaload, 1) := by decide +kernel
theorem dTl_countImplied_55 : decode bTl_countImplied 55 = .ok (.laload, 1) := by decide +kernel
theorem dTl_countImplied_56 : decode bTl_countImplied 56 = .ok (.lcmp, 1) := by decide +kernel
theorem dTl_countImplied_57 : decode bTl_countImplied 57 = .ok (.ifCond .eq 7, 3) := by decide +kernel
theorem dTl_countImplied_60 : decode bTl_countImplied 60 = .ok (.iload 6, 2) := by decide +kernel
theorem dTl_countImplied_62 : decode bTl_countImplied 62 = .ok (.istore 5, 2) := by decide +kernel
theorem dTl_countImplied_128 : decode bTl_countImplied 128 = .ok (.iload 4, 2) := by decide +kernel
theorem dTl_countImplied_130 : decode bTl_countImplied 130 = .ok (.ireturn, 1) := by decide +kernel
theorem k_x59 : (.fieldLink RTl 23 REv "count" "I" : Cond) ∈ TBL := TBL_in (by decide +kernel) (by decide +kernel)
theorem k_x60 : (.fieldLink RTl 19 RTl "count" "I" : Cond) ∈ TBL := TBL_in (by decide +kernel) (by decide +kernel)
theorem k_x61 : (.fieldLink RTl 9 RTl "times" "[J" : Cond) ∈ TBL := TBL_in (by decide +kernel) (by decide +kernel)
theorem k_x62 : (.fieldLink RTl 26 REv "clocks" "[J" : Cond) ∈ TBL := TBL_in (by decide +kernel) (by decide +kernel)
theorem k_x63 : (.fieldLink RTl 29 REv "sources" "[I" : Cond) ∈ TBL := TBL_in (by decide +kernel) (by decide +kernel)
theorem k_x64 : (.fieldLink RTl 15 RTl "order" "[I" : Cond) ∈ TBL := TBL_in (by decide +kernel) (by decide +kernel)
theorem k_x65 : (.fieldLink RTl 32 REv "places" "[I" : Cond) ∈ TBL := TBL_in (by decide +kernel) (by decide +kernel)
theorem k_x66 : (.code yTl_isLater bTl_isLater 4 (some .boolean) : Cond) ∈ TBL := TBL_in (by decide +kernel) (by decide +kernel)
theorem k_x67 : (.initialized yTl_isLater.cls : Cond) ∈ TBL := TBL_in (by decide +kernel) (by decide +kernel)
theorem k_x68 : (.methodLink RTl 35 yTl_isLater : Cond) ∈ TBL := TBL_in (by decide +kernel) (by decide +kernel)
theorem k_x69 : (.instanceMethod yTl_isLater : Cond) ∈ TBL := TBL_in (by decide +kernel) (by decide +kernel)
theorem k_x70 : (.selects RTl yTl_isLater yTl_isLater : Cond) ∈ TBL := TBL_in (by decide +kernel) (by decide +kernel)
theorem k_x71 : (.fieldLink RTl 39 REv "items" "[I" : Cond) ∈ TBL := TBL_in (by decide +kernel) (by decide +kernel)
theorem k_x72 : (.fieldLink RTl 42 REv "kinds" "[I" : Cond) ∈ TBL := TBL_in (by decide +kernel) (by decide +kernel)
theorem k_x73 : (.code yTl_isInsideAfter bTl_isInsideAfter 2 (some .boolean) : Cond) ∈ TBL := TBL_in (by decide +kernel) (by decide +kernel)
theorem k_x74 : (.initialized yTl_isInsideAfter.cls : Cond) ∈ TBL := TBL_in (by decide +kernel) (by decide +kernel)
theorem k_x75 : (.methodLink RTl 45 yTl_isInsideAfter : Cond) ∈ TBL := TBL_in (by decide +kernel) (by decide +kernel)
theorem k_x76 : (.static yTl_isInsideAfter : Cond) ∈ TBL := TBL_in (by decide +kernel) (by decide +kernel)
end
section
/-! EventOrder$Timeline.isLater(II[I)Z -/
abbrev rm_Timeline_isLater_5 : Room := { frames := 0, cells := 0, slots := 0, locals := 0 }
def Timeline_isLater_5_wp (plc : (Nat → Int32)) (tm : (Nat → Int64)) (a1 : Int32) (a2 : Int32) (Qr : Int32 → Unit → Prop) : Prop := vp_in a1 301 ∧ vp_in a2 301 ∧ (((tm a1.toNatClampNeg) = (tm a2.toNatClampNeg) → vp_in a1 301 ∧ vp_in a2 301 ∧ (((plc a1.toNatClampNeg) ≤ (plc a2.toNatClampNeg) → Qr 0 ()) ∧ (¬ (plc a1.toNatClampNeg) ≤ (plc a2.toNatClampNeg) → Qr 1 ()))) ∧ (¬ (tm a1.toNatClampNeg) = (tm a2.toNatClampNeg) → vp_in a1 301 ∧ vp_in a2 301 ∧ (((tm a1.toNatClampNeg) ≤ (tm a2.toNatClampNeg) → Qr 0 ()) ∧ (¬ (tm a1.toNatClampNeg) ≤ (tm a2.toNatClampNeg) → Qr 1 ()))))
set_option maxHeartbeats 4000000 in
set_option maxRecDepth 100000 in
theorem c_Timeline_isLater_5 {l : Launch} {D : va_G} {ad : Nat → Nat} {cI cL cO : ClassId} {sc : Int32} {sd : Int32} {src : (Nat → Int32)} {itm : (Nat → Int32)} {knd : (Nat → Int32)} {plc : (Nat → Int32)} {clk : (Nat → Int64)} {ec : Int32} {nf : (Nat → Int32)} {ns : (Nat → Int32)} {nc : Int32} {wt : (Nat → Nat → Int64)} {bd : (Nat → Nat → Int64)} {off : (Nat → Int64)} {row : (Nat → Int32)} {hw : (Nat → Nat → Int64)} {rl : Int32} {tm : (Nat → Int64)} {ord : (Nat → Int32)} {tc : Int32} {a1 : Int32} {a2 : Int32} {Qr : Int32 → Unit → Prop} (h : Timeline_isLater_5_wp plc tm a1 a2 Qr) (sz : Nat) : vx_Met l yTl_isLater (Cond.code yTl_isLater bTl_isLater 4 (some .boolean) :: TBL) rm_Timeline_isLater_5 (va_Pc [.ref (ad 17), .int a1, .int a2, .ref (ad 5)] (XP D vwCl (tysX cI cL cO) (wX ad cI cL cO sc sd src itm knd plc clk ec nf ns nc wt bd off row hw rl tm ord tc) sz)) (va_Qi Qr (fun u t => XB D vwCl (tysX cI cL cO) (va_A (wX ad cI cL cO sc sd src itm knd plc clk ec nf ns nc wt bd off row hw rl tm ord tc) sz) (wX ad cI cL cO sc sd src itm knd plc clk ec nf ns nc wt bd off row hw rl tm ord tc) t) (va_A (wX ad cI cL cO sc sd src itm knd plc clk ec nf ns nc wt bd off row hw rl tm ord tc) sz)) (XT D vwCl (tysX cI cL cO) (va_A (wX ad cI cL cO sc sd src itm knd plc clk ec nf ns nc wt bd off row hw rl tm ord tc) sz) (wX ad cI cL cO sc sd src itm knd plc clk ec nf ns nc wt bd off row hw rl tm ord tc) (fun _ => False)) rm_Timeline_isLater_5.cells rm_Timeline_isLater_5.slots (va_A (wX ad cI cL cO sc sd src itm knd plc clk ec nf ns nc wt bd off row hw rl tm ord tc) sz) := by
  refine x_met [.ref (ad 17), .int a1, .int a2, .ref (ad 5)] TBL_good (by decide) (Nat.le_of_ble_eq_true rfl) ?_
  intro p e s m args below meth c hC hr hlk hnm hnh
  have hret : ∀ (ce sl : Nat), ce ≤ rm_Timeline_isLater_5.cells → sl ≤ rm_Timeline_isLater_5.slots → ∀ (r : Int32) (u : Unit), x_bool r → Qr r u → ∀ (pc : Nat) (lv : List (Nat × Value)), decode bTl_isLater pc = .ok (.ireturn, 1) → XW p l e rm_Timeline_isLater_5 s m args below meth c D vwCl (va_A (wX ad cI cL cO sc sd src itm knd plc clk ec nf ns nc wt bd off row hw rl tm ord tc) sz) 4 (vx_MQ below (va_Qi Qr (fun u t => XB D vwCl (tysX cI cL cO) (va_A (wX ad cI cL cO sc sd src itm knd plc clk ec nf ns nc wt bd off row hw rl tm ord tc) sz) (wX ad cI cL cO sc sd src itm knd plc clk ec nf ns nc wt bd off row hw rl tm ord tc) t) (va_A (wX ad cI cL cO sc sd src itm knd plc clk ec nf ns nc wt bd off row hw rl tm ord tc) sz)) (XT D vwCl (tysX cI cL cO) (va_A (wX ad cI cL cO sc sd src itm knd plc clk ec nf ns nc wt bd off row hw rl tm ord tc) sz) (wX ad cI cL cO sc sd src itm knd plc clk ec nf ns nc wt bd off row hw rl tm ord tc) (fun _ => False)) args s rm_Timeline_isLater_5.cells rm_Timeline_isLater_5.slots (va_A (wX ad cI cL cO sc sd src itm knd plc clk ec nf ns nc wt bd off row hw rl tm ord tc) sz)) ce sl (wX ad cI cL cO sc sd src itm knd plc clk ec nf ns nc wt bd off row hw rl tm ord tc) pc lv [.int r] := fun ce sl h1 h2 r u hb9 hq pc lv hd => x_zret (wf := fun u => (wX ad cI cL cO sc sd src itm knd plc clk ec nf ns nc wt bd off row hw rl tm ord tc)) hC h1 h2 hr hlk hb9 hd hq rfl
  show XW p l e rm_Timeline_isLater_5 s m args below meth c D vwCl (va_A (wX ad cI cL cO sc sd src itm knd plc clk ec nf ns nc wt bd off row hw rl tm ord tc) sz) 4 _ 0 0 (wX ad cI cL cO sc sd src itm knd plc clk ec nf ns nc wt bd off row hw rl tm ord tc) 0 [(0, .ref (ad 17)), (1, .int a1), (2, .int a2), (3, .ref (ad 5))] []
  unfold Timeline_isLater_5_wp at h
  refine x_aload_n hC dTl_isLater_0 rfl 0 rfl ?_
  refine x_get hC iTl 17 wX_17 rfl 0 (by decide) k_x61 rfl rfl dTl_isLater_1 ?_
  refine x_iload_n hC dTl_isLater_4 rfl 1 rfl ?_
  obtain ⟨hb_1, h⟩ := h
  refine x_lald hC 18 1 wX_18 rfl hb_1 dTl_isLater_5 ?_
  refine x_aload_n hC dTl_isLater_6 rfl 0 rfl ?_
  refine x_get hC iTl 17 wX_17 rfl 0 (by decide) k_x61 rfl rfl dTl_isLater_7 ?_
  refine x_iload_n hC dTl_isLater_10 rfl 2 rfl ?_
  obtain ⟨hb_2, h⟩ := h
  refine x_lald hC 18 1 wX_18 rfl hb_2 dTl_isLater_11 ?_
  refine x_lcmp_eq (tgt := 38) hC dTl_isLater_12 dTl_isLater_13 (by decide) (fun c_3 => ?_) (fun c_3 => ?_)
  · have h := h.1 c_3
    refine x_aload_n hC dTl_isLater_38 rfl 3 rfl ?_
    refine x_iload_n hC dTl_isLater_39 rfl 1 rfl ?_
    obtain ⟨hb_4, h⟩ := h
    refine x_iald hC 5 0 wX_5 rfl hb_4 dTl_isLater_40 ?_
    refine x_aload_n hC dTl_isLater_41 rfl 3 rfl ?_
    refine x_iload_n hC dTl_isLater_42 rfl 2 rfl ?_
    obtain ⟨hb_5, h⟩ := h
    refine x_iald hC 5 0 wX_5 rfl hb_5 dTl_isLater_43 ?_
    refine x_icmp_le (tgt := 51) hC dTl_isLater_44 (by decide) (fun c_6 => ?_) (fun c_6 => ?_)
    · have h := h.1 c_6
      refine x_iconst (v := 0) hC dTl_isLater_51 (by decide) ?_
      exact hret _ _ (by decide) (by decide) 0 () (Or.inl rfl) h _ _ dTl_isLater_52
    · have h := h.2 c_6
      refine x_iconst (v := 1) hC dTl_isLater_47 (by decide) ?_
      refine x_goto (tgt := 52) hC dTl_isLater_48 (by decide) ?_
      exact hret _ _ (by decide) (by decide) 1 () (Or.inr rfl) h _ _ dTl_isLater_52
  · have h := h.2 c_3
    refine x_aload_n hC dTl_isLater_16 rfl 0 rfl ?_
    refine x_get hC iTl 17 wX_17 rfl 0 (by decide) k_x61 rfl rfl dTl_isLater_17 ?_
    refine x_iload_n hC dTl_isLater_20 rfl 1 rfl ?_
    obtain ⟨hb_7, h⟩ := h
    refine x_lald hC 18 1 wX_18 rfl hb_7 dTl_isLater_21 ?_
    refine x_aload_n hC dTl_isLater_22 rfl 0 rfl ?_
    refine x_get hC iTl 17 wX_17 rfl 0 (by decide) k_x61 rfl rfl dTl_isLater_23 ?_
    refine x_iload_n hC dTl_isLater_26 rfl 2 rfl ?_
    obtain ⟨hb_8, h⟩ := h
    refine x_lald hC 18 1 wX_18 rfl hb_8 dTl_isLater_27 ?_
    refine x_lcmp_le (tgt := 36) hC dTl_isLater_28 dTl_isLater_29 (by decide) (fun c_9 => ?_) (fun c_9 => ?_)
    · have h := h.1 c_9
      refine x_iconst (v := 0) hC dTl_isLater_36 (by decide) ?_
      exact hret _ _ (by decide) (by decide) 0 () (Or.inl rfl) h _ _ dTl_isLater_37
    · have h := h.2 c_9
      refine x_iconst (v := 1) hC dTl_isLater_32 (by decide) ?_
      refine x_goto (tgt := 37) hC dTl_isLater_33 (by decide) ?_
      exact hret _ _ (by decide) (by decide) 1 () (Or.inr rfl) h _ _ dTl_isLater_37

/-! EventOrder$Timeline.lay(LEventOrder$Events;[J)V -/
abbrev rm_Timeline_lay_1_13 : Room := { frames := 1, cells := 0, slots := 0, locals := 23 }
def Timeline_lay_1_13_L44 (v3 : Int32) (plc : (Nat → Int32)) (tm : (Nat → Int64)) (Qx : Int32 → (Nat → Int32) → Prop) : Nat → Int32 → (Nat → Int32) → Prop
  | 0, _, _ => False
  | n + 1, v4, ord => ((v4 ≤ 0 → Qx v4 ord) ∧ (¬ v4 ≤ 0 → vp_in (v4 - 1) 300 ∧ Timeline_isLater_5_wp plc tm (ord (v4 - 1).toNatClampNeg) v3 (fun (r_8 : Int32) (u_9 : Unit) => ((r_8 = 0 → Qx v4 ord) ∧ (¬ r_8 = 0 → vp_in (v4 - 1) 300 ∧ vp_in v4 300 ∧ Timeline_lay_1_13_L44 v3 plc tm Qx n (v4 + (-1)) (upd ord v4.toNatClampNeg (ord (v4 - 1).toNatClampNeg)))))))

def Timeline_lay_1_13_L10 (src : (Nat → Int32)) (plc : (Nat → Int32)) (clk : (Nat → Int64)) (off : (Nat → Int64)) (tc : Int32) (Qx : (Nat → Int64) → (Nat → Int32) → Prop) : Nat → Int32 → (Nat → Int64) → (Nat → Int32) → Prop
  | 0, _, _, _ => False
  | n + 1, v3, tm, ord => ((tc < v3 → Qx tm ord) ∧ (¬ tc < v3 → vp_in v3 301 ∧ vp_in v3 301 ∧ vp_in (src v3.toNatClampNeg) 16 ∧ vp_in v3 301 ∧ (∃ n_16 : Nat, Timeline_lay_1_13_L44 v3 plc (vp_updL tm v3.toNatClampNeg ((clk v3.toNatClampNeg) + (off (src v3.toNatClampNeg).toNatClampNeg))) (fun (v4_13 : Int32) (ord_14 : (Nat → Int32)) => vp_in v4_13 300 ∧ Timeline_lay_1_13_L10 src plc clk off tc Qx n (v3 + 1) (vp_updL tm v3.toNatClampNeg ((clk v3.toNatClampNeg) + (off (src v3.toNatClampNeg).toNatClampNeg))) (upd ord_14 v4_13.toNatClampNeg v3)) n_16 (v3 - 1) ord)))

def Timeline_lay_1_13_wp (src : (Nat → Int32)) (plc : (Nat → Int32)) (clk : (Nat → Int64)) (ec : Int32) (off : (Nat → Int64)) (tm : (Nat → Int64)) (ord : (Nat → Int32)) (tc : Int32) (Qr : ((Nat → Int64) × (Nat → Int32) × Int32) → Prop) : Prop := (∃ n_19 : Nat, Timeline_lay_1_13_L10 src plc clk off ec (fun (tm_17 : (Nat → Int64)) (ord_18 : (Nat → Int32)) => Qr (tm_17, ord_18, ec)) n_19 1 tm ord)
set_option maxHeartbeats 4000000 in
set_option maxRecDepth 100000 in
theorem Timeline_lay_1_13_L44_ok {p : Program} {l : Launch} {e : Env} {s : State} {m : MethodId} {args : Array Value} {below : List Frame} {meth : Method} {c : Code} {Q : State → Prop} {D : va_G} {A : Nat → Prop} {ad : Nat → Nat} {cI cL cO : ClassId} {sc : Int32} {sd : Int32} {src : (Nat → Int32)} {itm : (Nat → Int32)} {knd : (Nat → Int32)} {plc : (Nat → Int32)} {clk : (Nat → Int64)} {ec : Int32} {nf : (Nat → Int32)} {ns : (Nat → Int32)} {nc : Int32} {wt : (Nat → Nat → Int64)} {bd : (Nat → Nat → Int64)} {off : (Nat → Int64)} {row : (Nat → Int32)} {hw : (Nat → Nat → Int64)} {rl : Int32} {tm : (Nat → Int64)} {tc : Int32} {v3 : Int32} {Qx : Int32 → (Nat → Int32) → Prop} (hC : XC p s m args c D vwCl (tysX cI cL cO) A 5 bTl_lay TBL RTl)  (hexit : ∀ (v4 : Int32) (ord : (Nat → Int32)), Qx v4 ord → XW p l e rm_Timeline_lay_1_13 s m args below meth c D vwCl A 5 Q 0 0 (wX ad cI cL cO sc sd src itm knd plc clk ec nf ns nc wt bd off row hw rl tm ord tc) 92 [(0, .ref (ad 17)), (1, .ref (ad 1)), (2, .ref (ad 13)), (3, .int v3), (4, .int v4)] []) : ∀ (n : Nat) (v4 : Int32) (ord : (Nat → Int32)), Timeline_lay_1_13_L44 v3 plc tm Qx n v4 ord → XW p l e rm_Timeline_lay_1_13 s m args below meth c D vwCl A 5 Q 0 0 (wX ad cI cL cO sc sd src itm knd plc clk ec nf ns nc wt bd off row hw rl tm ord tc) 44 [(0, .ref (ad 17)), (1, .ref (ad 1)), (2, .ref (ad 13)), (3, .int v3), (4, .int v4)] [] := by
  intro n
  induction n with
  | zero => intro v4 ord h; exact False.elim h
  | succ n ih =>
    intro v4 ord h
    unfold Timeline_lay_1_13_L44 at h
    refine x_iload hC dTl_lay_44 4 rfl ?_
    refine x_if_le (tgt := 92) hC dTl_lay_46 (by decide) (fun c_6 => ?_) (fun c_6 => ?_)
    · have h := h.1 c_6
      refine x_lv [0, 1, 2, 3, 4] rfl ?_
      exact hexit v4 ord h
    · have h := h.2 c_6
      refine x_aload_n hC dTl_lay_49 rfl 0 rfl ?_
      refine x_aload_n hC dTl_lay_50 rfl 0 rfl ?_
      refine x_get hC iTl 17 wX_17 rfl 1 (by decide) k_x64 rfl rfl dTl_lay_51 ?_
      refine x_iload hC dTl_lay_54 4 rfl ?_
      refine x_iconst (v := 1) hC dTl_lay_56 (by decide) ?_
      refine x_isub hC dTl_lay_57 ?_
      obtain ⟨hb_7, h⟩ := h
      refine x_iald hC 19 0 wX_19 rfl hb_7 dTl_lay_58 ?_
      refine x_iload_n hC dTl_lay_59 rfl 3 rfl ?_
      refine x_aload_n hC dTl_lay_60 rfl 1 rfl ?_
      refine x_get hC iEv 1 wX_1 rfl 3 (by decide) k_x65 rfl rfl dTl_lay_61 ?_
      refine x_callVi (S := Unit) (wf := fun u => (wX ad cI cL cO sc sd src itm knd plc clk ec nf ns nc wt bd off row hw rl tm ord tc)) hC [.int (ord (v4 - 1).toNatClampNeg), .int v3, .ref (ad 5)] (fun sz => c_Timeline_isLater_5 h sz) (by decide) (by decide) k_x66 k_x67 k_x68 (by decide) 3 rfl (by decide +kernel) ⟨by decide, by decide⟩ (Nat.le_of_ble_eq_true rfl) k_x69 k_x70 wX_17 rfl rfl dTl_lay_64 (fun _ h9 => h9) (fun r_8 u_9 h => ?_)
      refine x_if_eq (tgt := 92) hC dTl_lay_67 (by decide) (fun c_10 => ?_) (fun c_10 => ?_)
      · have h := h.1 c_10
        refine x_lv [0, 1, 2, 3, 4] rfl ?_
        exact hexit v4 ord h
      · have h := h.2 c_10
        refine x_aload_n hC dTl_lay_70 rfl 0 rfl ?_
        refine x_get hC iTl 17 wX_17 rfl 1 (by decide) k_x64 rfl rfl dTl_lay_71 ?_
        refine x_iload hC dTl_lay_74 4 rfl ?_
        refine x_aload_n hC dTl_lay_76 rfl 0 rfl ?_
        refine x_get hC iTl 17 wX_17 rfl 1 (by decide) k_x64 rfl rfl dTl_lay_77 ?_
        refine x_iload hC dTl_lay_80 4 rfl ?_
        refine x_iconst (v := 1) hC dTl_lay_82 (by decide) ?_
        refine x_isub hC dTl_lay_83 ?_
        obtain ⟨hb_11, h⟩ := h
        refine x_iald hC 19 0 wX_19 rfl hb_11 dTl_lay_84 ?_
        obtain ⟨hb_12, h⟩ := h
        refine x_iast (ws' := (wX ad cI cL cO sc sd src itm knd plc clk ec nf ns nc wt bd off row hw rl tm (upd ord v4.toNatClampNeg (ord (v4 - 1).toNatClampNeg)) tc)) hC 19 0 wX_19 rfl hb_12 wX_19_set dTl_lay_85 ?_
        refine x_iinc (v := v4 + (-1)) (lv' := [(4, .int (v4 + (-1))), (0, .ref (ad 17)), (1, .ref (ad 1)), (2, .ref (ad 13)), (3, .int v3)]) hC dTl_lay_86 4 rfl rfl (by decide) rfl ?_
        refine x_goto (tgt := 44) hC dTl_lay_89 (by decide) ?_
        refine x_lv [1, 2, 3, 4, 0] rfl ?_
        exact ih (v4 + (-1)) (upd ord v4.toNatClampNeg (ord (v4 - 1).toNatClampNeg)) h

set_option maxHeartbeats 4000000 in
set_option maxRecDepth 100000 in
theorem Timeline_lay_1_13_L10_ok {p : Program} {l : Launch} {e : Env} {s : State} {m : MethodId} {args : Array Value} {below : List Frame} {meth : Method} {c : Code} {Q : State → Prop} {D : va_G} {A : Nat → Prop} {ad : Nat → Nat} {cI cL cO : ClassId} {sc : Int32} {sd : Int32} {src : (Nat → Int32)} {itm : (Nat → Int32)} {knd : (Nat → Int32)} {plc : (Nat → Int32)} {clk : (Nat → Int64)} {ec : Int32} {nf : (Nat → Int32)} {ns : (Nat → Int32)} {nc : Int32} {wt : (Nat → Nat → Int64)} {bd : (Nat → Nat → Int64)} {off : (Nat → Int64)} {row : (Nat → Int32)} {hw : (Nat → Nat → Int64)} {rl : Int32} {tc : Int32} {Qx : (Nat → Int64) → (Nat → Int32) → Prop} (hC : XC p s m args c D vwCl (tysX cI cL cO) A 5 bTl_lay TBL RTl)  (hexit : ∀ (tm : (Nat → Int64)) (ord : (Nat → Int32)), Qx tm ord → XW p l e rm_Timeline_lay_1_13 s m args below meth c D vwCl A 5 Q 0 0 (wX ad cI cL cO sc sd src itm knd plc clk ec nf ns nc wt bd off row hw rl tm ord tc) 106 [] []) : ∀ (n : Nat) (v3 : Int32) (tm : (Nat → Int64)) (ord : (Nat → Int32)), Timeline_lay_1_13_L10 src plc clk off tc Qx n v3 tm ord → XW p l e rm_Timeline_lay_1_13 s m args below meth c D vwCl A 5 Q 0 0 (wX ad cI cL cO sc sd src itm knd plc clk ec nf ns nc wt bd off row hw rl tm ord tc) 10 [(0, .ref (ad 17)), (1, .ref (ad 1)), (2, .ref (ad 13)), (3, .int v3)] [] := by
  intro n
  induction n with
  | zero => intro v3 tm ord h; exact False.elim h
  | succ n ih =>
    intro v3 tm ord h
    unfold Timeline_lay_1_13_L10 at h
    refine x_iload_n hC dTl_lay_10 rfl 3 rfl ?_
    refine x_aload_n hC dTl_lay_11 rfl 0 rfl ?_
    refine x_get hC iTl 17 wX_17 rfl 2 (by decide) k_x60 rfl rfl dTl_lay_12 ?_
    refine x_icmp_gt (tgt := 106) hC dTl_lay_15 (by decide) (fun c_1 => ?_) (fun c_1 => ?_)
    · have h := h.1 c_1
      refine x_lv [] rfl ?_
      exact hexit tm ord h
    · have h := h.2 c_1
      refine x_aload_n hC dTl_lay_18 rfl 0 rfl ?_
      refine x_get hC iTl 17 wX_17 rfl 0 (by decide) k_x61 rfl rfl dTl_lay_19 ?_
      refine x_iload_n hC dTl_lay_22 rfl 3 rfl ?_
      refine x_aload_n hC dTl_lay_23 rfl 1 rfl ?_
      refine x_get hC iEv 1 wX_1 rfl 4 (by decide) k_x62 rfl rfl dTl_lay_24 ?_
      refine x_iload_n hC dTl_lay_27 rfl 3 rfl ?_
      obtain ⟨hb_2, h⟩ := h
      refine x_lald hC 6 1 wX_6 rfl hb_2 dTl_lay_28 ?_
      refine x_aload_n hC dTl_lay_29 rfl 2 rfl ?_
      refine x_aload_n hC dTl_lay_30 rfl 1 rfl ?_
      refine x_get hC iEv 1 wX_1 rfl 0 (by decide) k_x63 rfl rfl dTl_lay_31 ?_
      refine x_iload_n hC dTl_lay_34 rfl 3 rfl ?_
      obtain ⟨hb_3, h⟩ := h
      refine x_iald hC 2 0 wX_2 rfl hb_3 dTl_lay_35 ?_
      obtain ⟨hb_4, h⟩ := h
      refine x_lald hC 13 1 wX_13 rfl hb_4 dTl_lay_36 ?_
      refine x_ladd hC dTl_lay_37 ?_
      obtain ⟨hb_5, h⟩ := h
      refine x_last (ws' := (wX ad cI cL cO sc sd src itm knd plc clk ec nf ns nc wt bd off row hw rl (vp_updL tm v3.toNatClampNeg ((clk v3.toNatClampNeg) + (off (src v3.toNatClampNeg).toNatClampNeg))) ord tc)) hC 18 1 wX_18 rfl hb_5 wX_18_set dTl_lay_38 ?_
      refine x_iload_n hC dTl_lay_39 rfl 3 rfl ?_
      refine x_iconst (v := 1) hC dTl_lay_40 (by decide) ?_
      refine x_isub hC dTl_lay_41 ?_
      refine x_istore (lv' := [(4, .int (v3 - 1)), (0, .ref (ad 17)), (1, .ref (ad 1)), (2, .ref (ad 13)), (3, .int v3)]) hC dTl_lay_42 (by decide) rfl ?_
      obtain ⟨n_16, h⟩ := h
      refine x_lv [1, 2, 3, 4, 0] rfl ?_
      refine Timeline_lay_1_13_L44_ok hC (fun v4_13 ord_14 h => ?_) n_16 (v3 - 1) ord h
      refine x_aload_n hC dTl_lay_92 rfl 0 rfl ?_
      refine x_get hC iTl 17 wX_17 rfl 1 (by decide) k_x64 rfl rfl dTl_lay_93 ?_
      refine x_iload hC dTl_lay_96 4 rfl ?_
      refine x_iload_n hC dTl_lay_98 rfl 3 rfl ?_
      obtain ⟨hb_15, h⟩ := h
      refine x_iast (ws' := (wX ad cI cL cO sc sd src itm knd plc clk ec nf ns nc wt bd off row hw rl (vp_updL tm v3.toNatClampNeg ((clk v3.toNatClampNeg) + (off (src v3.toNatClampNeg).toNatClampNeg))) (upd ord_14 v4_13.toNatClampNeg v3) tc)) hC 19 0 wX_19 rfl hb_15 wX_19_set dTl_lay_99 ?_
      refine x_iinc (v := v3 + 1) (lv' := [(3, .int (v3 + 1)), (0, .ref (ad 17)), (1, .ref (ad 1)), (2, .ref (ad 13)), (4, .int v4_13)]) hC dTl_lay_100 3 rfl rfl (by decide) rfl ?_
      refine x_goto (tgt := 10) hC dTl_lay_103 (by decide) ?_
      refine x_lv [1, 2, 3, 0] rfl ?_
      exact ih (v3 + 1) (vp_updL tm v3.toNatClampNeg ((clk v3.toNatClampNeg) + (off (src v3.toNatClampNeg).toNatClampNeg))) (upd ord_14 v4_13.toNatClampNeg v3) h

set_option maxHeartbeats 4000000 in
set_option maxRecDepth 100000 in
theorem c_Timeline_lay_1_13 {l : Launch} {D : va_G} {ad : Nat → Nat} {cI cL cO : ClassId} {sc : Int32} {sd : Int32} {src : (Nat → Int32)} {itm : (Nat → Int32)} {knd : (Nat → Int32)} {plc : (Nat → Int32)} {clk : (Nat → Int64)} {ec : Int32} {nf : (Nat → Int32)} {ns : (Nat → Int32)} {nc : Int32} {wt : (Nat → Nat → Int64)} {bd : (Nat → Nat → Int64)} {off : (Nat → Int64)} {row : (Nat → Int32)} {hw : (Nat → Nat → Int64)} {rl : Int32} {tm : (Nat → Int64)} {ord : (Nat → Int32)} {tc : Int32} {Qr : ((Nat → Int64) × (Nat → Int32) × Int32) → Prop} (h : Timeline_lay_1_13_wp src plc clk ec off tm ord tc Qr) (sz : Nat) : vx_Met l yTl_lay (Cond.code yTl_lay bTl_lay 5 none :: TBL) rm_Timeline_lay_1_13 (va_Pc [.ref (ad 17), .ref (ad 1), .ref (ad 13)] (XP D vwCl (tysX cI cL cO) (wX ad cI cL cO sc sd src itm knd plc clk ec nf ns nc wt bd off row hw rl tm ord tc) sz)) (va_Qv Qr (fun u t => XB D vwCl (tysX cI cL cO) (va_A (wX ad cI cL cO sc sd src itm knd plc clk ec nf ns nc wt bd off row hw rl tm ord tc) sz) (wX ad cI cL cO sc sd src itm knd plc clk ec nf ns nc wt bd off row hw rl u.1 u.2.1 u.2.2) t) (va_A (wX ad cI cL cO sc sd src itm knd plc clk ec nf ns nc wt bd off row hw rl tm ord tc) sz)) (XT D vwCl (tysX cI cL cO) (va_A (wX ad cI cL cO sc sd src itm knd plc clk ec nf ns nc wt bd off row hw rl tm ord tc) sz) (wX ad cI cL cO sc sd src itm knd plc clk ec nf ns nc wt bd off row hw rl tm ord tc) (fun _ => False)) rm_Timeline_lay_1_13.cells rm_Timeline_lay_1_13.slots (va_A (wX ad cI cL cO sc sd src itm knd plc clk ec nf ns nc wt bd off row hw rl tm ord tc) sz) := by
  refine x_met [.ref (ad 17), .ref (ad 1), .ref (ad 13)] TBL_good (by decide) (Nat.le_of_ble_eq_true rfl) ?_
  intro p e s m args below meth c hC hr hlk hnm hnh
  have hret : ∀ (ce sl : Nat), ce ≤ rm_Timeline_lay_1_13.cells → sl ≤ rm_Timeline_lay_1_13.slots → ∀ (u : ((Nat → Int64) × (Nat → Int32) × Int32)), Qr u → ∀ (pc : Nat) (lv : List (Nat × Value)), decode bTl_lay pc = .ok (.return_, 1) → XW p l e rm_Timeline_lay_1_13 s m args below meth c D vwCl (va_A (wX ad cI cL cO sc sd src itm knd plc clk ec nf ns nc wt bd off row hw rl tm ord tc) sz) 5 (vx_MQ below (va_Qv Qr (fun u t => XB D vwCl (tysX cI cL cO) (va_A (wX ad cI cL cO sc sd src itm knd plc clk ec nf ns nc wt bd off row hw rl tm ord tc) sz) (wX ad cI cL cO sc sd src itm knd plc clk ec nf ns nc wt bd off row hw rl u.1 u.2.1 u.2.2) t) (va_A (wX ad cI cL cO sc sd src itm knd plc clk ec nf ns nc wt bd off row hw rl tm ord tc) sz)) (XT D vwCl (tysX cI cL cO) (va_A (wX ad cI cL cO sc sd src itm knd plc clk ec nf ns nc wt bd off row hw rl tm ord tc) sz) (wX ad cI cL cO sc sd src itm knd plc clk ec nf ns nc wt bd off row hw rl tm ord tc) (fun _ => False)) args s rm_Timeline_lay_1_13.cells rm_Timeline_lay_1_13.slots (va_A (wX ad cI cL cO sc sd src itm knd plc clk ec nf ns nc wt bd off row hw rl tm ord tc) sz)) ce sl (wX ad cI cL cO sc sd src itm knd plc clk ec nf ns nc wt bd off row hw rl u.1 u.2.1 u.2.2) pc lv [] := fun ce sl h1 h2 u hq pc lv hd => x_vret (wf := fun u => (wX ad cI cL cO sc sd src itm knd plc clk ec nf ns nc wt bd off row hw rl u.1 u.2.1 u.2.2)) hC h1 h2 hr hlk hd hq rfl
  show XW p l e rm_Timeline_lay_1_13 s m args below meth c D vwCl (va_A (wX ad cI cL cO sc sd src itm knd plc clk ec nf ns nc wt bd off row hw rl tm ord tc) sz) 5 _ 0 0 (wX ad cI cL cO sc sd src itm knd plc clk ec nf ns nc wt bd off row hw rl tm ord tc) 0 [(0, .ref (ad 17)), (1, .ref (ad 1)), (2, .ref (ad 13))] []
  unfold Timeline_lay_1_13_wp at h
  refine x_aload_n hC dTl_lay_0 rfl 0 rfl ?_
  refine x_aload_n hC dTl_lay_1 rfl 1 rfl ?_
  refine x_get hC iEv 1 wX_1 rfl 5 (by decide) k_x59 rfl rfl dTl_lay_2 ?_
  refine x_put (ty := .int) (ws' := (wX ad cI cL cO sc sd src itm knd plc clk ec nf ns nc wt bd off row hw rl tm ord ec)) hC iTl 17 wX_17 rfl 2 (by decide) k_x60 rfl tTl tTl_ok nTl rfl (by decide +kernel) rfl rfl (Nat.le_of_ble_eq_true rfl) rfl dTl_lay_5 ?_
  refine x_iconst (v := 1) hC dTl_lay_8 (by decide) ?_
  refine x_istore_n (lv' := [(3, .int 1), (0, .ref (ad 17)), (1, .ref (ad 1)), (2, .ref (ad 13))]) hC dTl_lay_9 rfl (by decide) rfl ?_
  obtain ⟨n_19, h⟩ := h
  refine x_lv [1, 2, 3, 0] rfl ?_
  refine Timeline_lay_1_13_L10_ok hC (fun tm_17 ord_18 h => ?_) n_19 1 tm ord h
  exact hret _ _ (by decide) (by decide) (tm_17, ord_18, ec) h _ _ dTl_lay_106

/-! EventOrder$Timeline.eventOf(LEventOrder$Events;II)I -/
abbrev rm_Timeline_eventOf_1 : Room := { frames := 0, cells := 0, slots := 0, locals := 0 }
def Timeline_eventOf_1_L6 (v2 : Int32) (v3 : Int32) (itm : (Nat → Int32)) (ord : (Nat → Int32)) (tc : Int32) (Qr : Int32 → Unit → Prop) (Qx : Prop) : Nat → Int32 → Int32 → Prop
  | 0, _, _ => False
  | n + 1, v4, v5 => ((tc ≤ v5 → Qx) ∧ (¬ tc ≤ v5 → vp_in v5 300 ∧ vp_in (ord v5.toNatClampNeg) 301 ∧ ((¬ (itm (ord v5.toNatClampNeg).toNatClampNeg) = v2 → Timeline_eventOf_1_L6 v2 v3 itm ord tc Qr Qx n v4 (v5 + 1)) ∧ ((itm (ord v5.toNatClampNeg).toNatClampNeg) = v2 → ((¬ v4 = v3 → Timeline_eventOf_1_L6 v2 v3 itm ord tc Qr Qx n (v4 + 1) (v5 + 1)) ∧ (v4 = v3 → vp_in v5 300 ∧ Qr (ord v5.toNatClampNeg) ()))))))

def Timeline_eventOf_1_wp (itm : (Nat → Int32)) (ord : (Nat → Int32)) (tc : Int32) (a2 : Int32) (a3 : Int32) (Qr : Int32 → Unit → Prop) : Prop := (∃ n_7 : Nat, Timeline_eventOf_1_L6 a2 a3 itm ord tc Qr (Qr 0 ()) n_7 0 0)
set_option maxHeartbeats 4000000 in
set_option maxRecDepth 100000 in
theorem Timeline_eventOf_1_L6_ok {p : Program} {l : Launch} {e : Env} {s : State} {m : MethodId} {args : Array Value} {below : List Frame} {meth : Method} {c : Code} {Q : State → Prop} {D : va_G} {A : Nat → Prop} {ad : Nat → Nat} {cI cL cO : ClassId} {sc : Int32} {sd : Int32} {src : (Nat → Int32)} {itm : (Nat → Int32)} {knd : (Nat → Int32)} {plc : (Nat → Int32)} {clk : (Nat → Int64)} {ec : Int32} {nf : (Nat → Int32)} {ns : (Nat → Int32)} {nc : Int32} {wt : (Nat → Nat → Int64)} {bd : (Nat → Nat → Int64)} {off : (Nat → Int64)} {row : (Nat → Int32)} {hw : (Nat → Nat → Int64)} {rl : Int32} {tm : (Nat → Int64)} {ord : (Nat → Int32)} {tc : Int32} {v2 : Int32} {v3 : Int32} {Qr : Int32 → Unit → Prop} {Qx : Prop} (hC : XC p s m args c D vwCl (tysX cI cL cO) A 6 bTl_eventOf TBL RTl) (hret : ∀ (r : Int32) (u : Unit), Qr r u → ∀ (pc : Nat) (lv : List (Nat × Value)), decode bTl_eventOf pc = .ok (.ireturn, 1) → XW p l e rm_Timeline_eventOf_1 s m args below meth c D vwCl A 6 Q 0 0 (wX ad cI cL cO sc sd src itm knd plc clk ec nf ns nc wt bd off row hw rl tm ord tc) pc lv [.int r]) (hexit : Qx → XW p l e rm_Timeline_eventOf_1 s m args below meth c D vwCl A 6 Q 0 0 (wX ad cI cL cO sc sd src itm knd plc clk ec nf ns nc wt bd off row hw rl tm ord tc) 54 [] []) : ∀ (n : Nat) (v4 : Int32) (v5 : Int32), Timeline_eventOf_1_L6 v2 v3 itm ord tc Qr Qx n v4 v5 → XW p l e rm_Timeline_eventOf_1 s m args below meth c D vwCl A 6 Q 0 0 (wX ad cI cL cO sc sd src itm knd plc clk ec nf ns nc wt bd off row hw rl tm ord tc) 6 [(0, .ref (ad 17)), (1, .ref (ad 1)), (2, .int v2), (3, .int v3), (4, .int v4), (5, .int v5)] [] := by
  intro n
  induction n with
  | zero => intro v4 v5 h; exact False.elim h
  | succ n ih =>
    intro v4 v5 h
    unfold Timeline_eventOf_1_L6 at h
    refine x_iload hC dTl_eventOf_6 5 rfl ?_
    refine x_aload_n hC dTl_eventOf_8 rfl 0 rfl ?_
    refine x_get hC iTl 17 wX_17 rfl 2 (by decide) k_x60 rfl rfl dTl_eventOf_9 ?_
    refine x_icmp_ge (tgt := 54) hC dTl_eventOf_12 (by decide) (fun c_1 => ?_) (fun c_1 => ?_)
    · have h := h.1 c_1
      refine x_lv [] rfl ?_
      exact hexit  h
    · have h := h.2 c_1
      refine x_aload_n hC dTl_eventOf_15 rfl 1 rfl ?_
      refine x_get hC iEv 1 wX_1 rfl 1 (by decide) k_x71 rfl rfl dTl_eventOf_16 ?_
      refine x_aload_n hC dTl_eventOf_19 rfl 0 rfl ?_
      refine x_get hC iTl 17 wX_17 rfl 1 (by decide) k_x64 rfl rfl dTl_eventOf_20 ?_
      refine x_iload hC dTl_eventOf_23 5 rfl ?_
      obtain ⟨hb_2, h⟩ := h
      refine x_iald hC 19 0 wX_19 rfl hb_2 dTl_eventOf_25 ?_
      obtain ⟨hb_3, h⟩ := h
      refine x_iald hC 3 0 wX_3 rfl hb_3 dTl_eventOf_26 ?_
      refine x_iload_n hC dTl_eventOf_27 rfl 2 rfl ?_
      refine x_icmp_ne (tgt := 48) hC dTl_eventOf_28 (by decide) (fun c_4 => ?_) (fun c_4 => ?_)
      · have h := h.1 c_4
        refine x_iinc (v := v5 + 1) (lv' := [(5, .int (v5 + 1)), (0, .ref (ad 17)), (1, .ref (ad 1)), (2, .int v2), (3, .int v3), (4, .int v4)]) hC dTl_eventOf_48 5 rfl rfl (by decide) rfl ?_
        refine x_goto (tgt := 6) hC dTl_eventOf_51 (by decide) ?_
        refine x_lv [1, 2, 3, 4, 5, 0] rfl ?_
        exact ih v4 (v5 + 1) h
      · have h := h.2 c_4
        refine x_iload hC dTl_eventOf_31 4 rfl ?_
        refine x_iload_n hC dTl_eventOf_33 rfl 3 rfl ?_
        refine x_icmp_ne (tgt := 45) hC dTl_eventOf_34 (by decide) (fun c_5 => ?_) (fun c_5 => ?_)
        · have h := h.1 c_5
          refine x_iinc (v := v4 + 1) (lv' := [(4, .int (v4 + 1)), (0, .ref (ad 17)), (1, .ref (ad 1)), (2, .int v2), (3, .int v3), (5, .int v5)]) hC dTl_eventOf_45 4 rfl rfl (by decide) rfl ?_
          refine x_iinc (v := v5 + 1) (lv' := [(5, .int (v5 + 1)), (4, .int (v4 + 1)), (0, .ref (ad 17)), (1, .ref (ad 1)), (2, .int v2), (3, .int v3)]) hC dTl_eventOf_48 5 rfl rfl (by decide) rfl ?_
          refine x_goto (tgt := 6) hC dTl_eventOf_51 (by decide) ?_
          refine x_lv [2, 3, 4, 5, 1, 0] rfl ?_
          exact ih (v4 + 1) (v5 + 1) h
        · have h := h.2 c_5
          refine x_aload_n hC dTl_eventOf_37 rfl 0 rfl ?_
          refine x_get hC iTl 17 wX_17 rfl 1 (by decide) k_x64 rfl rfl dTl_eventOf_38 ?_
          refine x_iload hC dTl_eventOf_41 5 rfl ?_
          obtain ⟨hb_6, h⟩ := h
          refine x_iald hC 19 0 wX_19 rfl hb_6 dTl_eventOf_43 ?_
          exact hret (ord v5.toNatClampNeg) () h _ _ dTl_eventOf_44

set_option maxHeartbeats 4000000 in
set_option maxRecDepth 100000 in
theorem c_Timeline_eventOf_1 {l : Launch} {D : va_G} {ad : Nat → Nat} {cI cL cO : ClassId} {sc : Int32} {sd : Int32} {src : (Nat → Int32)} {itm : (Nat → Int32)} {knd : (Nat → Int32)} {plc : (Nat → Int32)} {clk : (Nat → Int64)} {ec : Int32} {nf : (Nat → Int32)} {ns : (Nat → Int32)} {nc : Int32} {wt : (Nat → Nat → Int64)} {bd : (Nat → Nat → Int64)} {off : (Nat → Int64)} {row : (Nat → Int32)} {hw : (Nat → Nat → Int64)} {rl : Int32} {tm : (Nat → Int64)} {ord : (Nat → Int32)} {tc : Int32} {a2 : Int32} {a3 : Int32} {Qr : Int32 → Unit → Prop} (h : Timeline_eventOf_1_wp itm ord tc a2 a3 Qr) (sz : Nat) : vx_Met l yTl_eventOf (Cond.code yTl_eventOf bTl_eventOf 6 (some .int) :: TBL) rm_Timeline_eventOf_1 (va_Pc [.ref (ad 17), .ref (ad 1), .int a2, .int a3] (XP D vwCl (tysX cI cL cO) (wX ad cI cL cO sc sd src itm knd plc clk ec nf ns nc wt bd off row hw rl tm ord tc) sz)) (va_Qi Qr (fun u t => XB D vwCl (tysX cI cL cO) (va_A (wX ad cI cL cO sc sd src itm knd plc clk ec nf ns nc wt bd off row hw rl tm ord tc) sz) (wX ad cI cL cO sc sd src itm knd plc clk ec nf ns nc wt bd off row hw rl tm ord tc) t) (va_A (wX ad cI cL cO sc sd src itm knd plc clk ec nf ns nc wt bd off row hw rl tm ord tc) sz)) (XT D vwCl (tysX cI cL cO) (va_A (wX ad cI cL cO sc sd src itm knd plc clk ec nf ns nc wt bd off row hw rl tm ord tc) sz) (wX ad cI cL cO sc sd src itm knd plc clk ec nf ns nc wt bd off row hw rl tm ord tc) (fun _ => False)) rm_Timeline_eventOf_1.cells rm_Timeline_eventOf_1.slots (va_A (wX ad cI cL cO sc sd src itm knd plc clk ec nf ns nc wt bd off row hw rl tm ord tc) sz) := by
  refine x_met [.ref (ad 17), .ref (ad 1), .int a2, .int a3] TBL_good (by decide) (Nat.le_of_ble_eq_true rfl) ?_
  intro p e s m args below meth c hC hr hlk hnm hnh
  have hret : ∀ (ce sl : Nat), ce ≤ rm_Timeline_eventOf_1.cells → sl ≤ rm_Timeline_eventOf_1.slots → ∀ (r : Int32) (u : Unit), Qr r u → ∀ (pc : Nat) (lv : List (Nat × Value)), decode bTl_eventOf pc = .ok (.ireturn, 1) → XW p l e rm_Timeline_eventOf_1 s m args below meth c D vwCl (va_A (wX ad cI cL cO sc sd src itm knd plc clk ec nf ns nc wt bd off row hw rl tm ord tc) sz) 6 (vx_MQ below (va_Qi Qr (fun u t => XB D vwCl (tysX cI cL cO) (va_A (wX ad cI cL cO sc sd src itm knd plc clk ec nf ns nc wt bd off row hw rl tm ord tc) sz) (wX ad cI cL cO sc sd src itm knd plc clk ec nf ns nc wt bd off row hw rl tm ord tc) t) (va_A (wX ad cI cL cO sc sd src itm knd plc clk ec nf ns nc wt bd off row hw rl tm ord tc) sz)) (XT D vwCl (tysX cI cL cO) (va_A (wX ad cI cL cO sc sd src itm knd plc clk ec nf ns nc wt bd off row hw rl tm ord tc) sz) (wX ad cI cL cO sc sd src itm knd plc clk ec nf ns nc wt bd off row hw rl tm ord tc) (fun _ => False)) args s rm_Timeline_eventOf_1.cells rm_Timeline_eventOf_1.slots (va_A (wX ad cI cL cO sc sd src itm knd plc clk ec nf ns nc wt bd off row hw rl tm ord tc) sz)) ce sl (wX ad cI cL cO sc sd src itm knd plc clk ec nf ns nc wt bd off row hw rl tm ord tc) pc lv [.int r] := fun ce sl h1 h2 r u hq pc lv hd => x_iret (wf := fun u => (wX ad cI cL cO sc sd src itm knd plc clk ec nf ns nc wt bd off row hw rl tm ord tc)) hC h1 h2 hr hlk hd hq rfl
  show XW p l e rm_Timeline_eventOf_1 s m args below meth c D vwCl (va_A (wX ad cI cL cO sc sd src itm knd plc clk ec nf ns nc wt bd off row hw rl tm ord tc) sz) 6 _ 0 0 (wX ad cI cL cO sc sd src itm knd plc clk ec nf ns nc wt bd off row hw rl tm ord tc) 0 [(0, .ref (ad 17)), (1, .ref (ad 1)), (2, .int a2), (3, .int a3)] []
  unfold Timeline_eventOf_1_wp at h
  refine x_iconst (v := 0) hC dTl_eventOf_0 (by decide) ?_
  refine x_istore (lv' := [(4, .int 0), (0, .ref (ad 17)), (1, .ref (ad 1)), (2, .int a2), (3, .int a3)]) hC dTl_eventOf_1 (by decide) rfl ?_
  refine x_iconst (v := 0) hC dTl_eventOf_3 (by decide) ?_
  refine x_istore (lv' := [(5, .int 0), (4, .int 0), (0, .ref (ad 17)), (1, .ref (ad 1)), (2, .int a2), (3, .int a3)]) hC dTl_eventOf_4 (by decide) rfl ?_
  obtain ⟨n_7, h⟩ := h
  refine x_lv [2, 3, 4, 5, 1, 0] rfl ?_
  refine Timeline_eventOf_1_L6_ok hC (hret _ _ (by decide) (by decide)) (fun h => ?_) n_7 0 0 h
  refine x_iconst (v := 0) hC dTl_eventOf_54 (by decide) ?_
  exact hret _ _ (by decide) (by decide) 0 () h _ _ dTl_eventOf_55

/-! EventOrder$Timeline.isInsideAfter(IZ)Z -/
abbrev rm_Timeline_isInsideAfter : Room := { frames := 0, cells := 0, slots := 0, locals := 0 }
def Timeline_isInsideAfter_wp (a0 : Int32) (a1 : Int32) (Qr : Int32 → Unit → Prop) : Prop := ((¬ a0 = 1 → ((a0 = 2 → Qr 0 ()) ∧ (¬ a0 = 2 → ((a1 = 0 → Qr 0 ()) ∧ (¬ a1 = 0 → Qr 1 ()))))) ∧ (a0 = 1 → Qr 1 ()))
set_option maxHeartbeats 4000000 in
set_option maxRecDepth 100000 in
theorem c_Timeline_isInsideAfter {l : Launch} {D : va_G} {ad : Nat → Nat} {cI cL cO : ClassId} {sc : Int32} {sd : Int32} {src : (Nat → Int32)} {itm : (Nat → Int32)} {knd : (Nat → Int32)} {plc : (Nat → Int32)} {clk : (Nat → Int64)} {ec : Int32} {nf : (Nat → Int32)} {ns : (Nat → Int32)} {nc : Int32} {wt : (Nat → Nat → Int64)} {bd : (Nat → Nat → Int64)} {off : (Nat → Int64)} {row : (Nat → Int32)} {hw : (Nat → Nat → Int64)} {rl : Int32} {tm : (Nat → Int64)} {ord : (Nat → Int32)} {tc : Int32} {a0 : Int32} {a1 : Int32} {Qr : Int32 → Unit → Prop} (h : Timeline_isInsideAfter_wp a0 a1 Qr) (sz : Nat) : vx_Met l yTl_isInsideAfter (Cond.code yTl_isInsideAfter bTl_isInsideAfter 2 (some .boolean) :: TBL) rm_Timeline_isInsideAfter (va_Pc [.int a0, .int a1] (XP D vwCl (tysX cI cL cO) (wX ad cI cL cO sc sd src itm knd plc clk ec nf ns nc wt bd off row hw rl tm ord tc) sz)) (va_Qi Qr (fun u t => XB D vwCl (tysX cI cL cO) (va_A (wX ad cI cL cO sc sd src itm knd plc clk ec nf ns nc wt bd off row hw rl tm ord tc) sz) (wX ad cI cL cO sc sd src itm knd plc clk ec nf ns nc wt bd off row hw rl tm ord tc) t) (va_A (wX ad cI cL cO sc sd src itm knd plc clk ec nf ns nc wt bd off row hw rl tm ord tc) sz)) (XT D vwCl (tysX cI cL cO) (va_A (wX ad cI cL cO sc sd src itm knd plc clk ec nf ns nc wt bd off row hw rl tm ord tc) sz) (wX ad cI cL cO sc sd src itm knd plc clk ec nf ns nc wt bd off row hw rl tm ord tc) (fun _ => False)) rm_Timeline_isInsideAfter.cells rm_Timeline_isInsideAfter.slots (va_A (wX ad cI cL cO sc sd src itm knd plc clk ec nf ns nc wt bd off row hw rl tm ord tc) sz) := by
  refine x_met [.int a0, .int a1] TBL_good (by decide) (Nat.le_of_ble_eq_true rfl) ?_
  intro p e s m args below meth c hC hr hlk hnm hnh
  have hret : ∀ (ce sl : Nat), ce ≤ rm_Timeline_isInsideAfter.cells → sl ≤ rm_Timeline_isInsideAfter.slots → ∀ (r : Int32) (u : Unit), x_bool r → Qr r u → ∀ (pc : Nat) (lv : List (Nat × Value)), decode bTl_isInsideAfter pc = .ok (.ireturn, 1) → XW p l e rm_Timeline_isInsideAfter s m args below meth c D vwCl (va_A (wX ad cI cL cO sc sd src itm knd plc clk ec nf ns nc wt bd off row hw rl tm ord tc) sz) 2 (vx_MQ below (va_Qi Qr (fun u t => XB D vwCl (tysX cI cL cO) (va_A (wX ad cI cL cO sc sd src itm knd plc clk ec nf ns nc wt bd off row hw rl tm ord tc) sz) (wX ad cI cL cO sc sd src itm knd plc clk ec nf ns nc wt bd off row hw rl tm ord tc) t) (va_A (wX ad cI cL cO sc sd src itm knd plc clk ec nf ns nc wt bd off row hw rl tm ord tc) sz)) (XT D vwCl (tysX cI cL cO) (va_A (wX ad cI cL cO sc sd src itm knd plc clk ec nf ns nc wt bd off row hw rl tm ord tc) sz) (wX ad cI cL cO sc sd src itm knd plc clk ec nf ns nc wt bd off row hw rl tm ord tc) (fun _ => False)) args s rm_Timeline_isInsideAfter.cells rm_Timeline_isInsideAfter.slots (va_A (wX ad cI cL cO sc sd src itm knd plc clk ec nf ns nc wt bd off row hw rl tm ord tc) sz)) ce sl (wX ad cI cL cO sc sd src itm knd plc clk ec nf ns nc wt bd off row hw rl tm ord tc) pc lv [.int r] := fun ce sl h1 h2 r u hb9 hq pc lv hd => x_zret (wf := fun u => (wX ad cI cL cO sc sd src itm knd plc clk ec nf ns nc wt bd off row hw rl tm ord tc)) hC h1 h2 hr hlk hb9 hd hq rfl
  show XW p l e rm_Timeline_isInsideAfter s m args below meth c D vwCl (va_A (wX ad cI cL cO sc sd src itm knd plc clk ec nf ns nc wt bd off row hw rl tm ord tc) sz) 2 _ 0 0 (wX ad cI cL cO sc sd src itm knd plc clk ec nf ns nc wt bd off row hw rl tm ord tc) 0 [(0, .int a0), (1, .int a1)] []
  unfold Timeline_isInsideAfter_wp at h
  refine x_iload_n hC dTl_isInsideAfter_0 rfl 0 rfl ?_
  refine x_iconst (v := 1) hC dTl_isInsideAfter_1 (by decide) ?_
  refine x_icmp_ne (tgt := 7) hC dTl_isInsideAfter_2 (by decide) (fun c_1 => ?_) (fun c_1 => ?_)
  · have h := h.1 c_1
    refine x_iload_n hC dTl_isInsideAfter_7 rfl 0 rfl ?_
    refine x_iconst (v := 2) hC dTl_isInsideAfter_8 (by decide) ?_
    refine x_icmp_eq (tgt := 20) hC dTl_isInsideAfter_9 (by decide) (fun c_2 => ?_) (fun c_2 => ?_)
    · have h := h.1 c_2
      refine x_iconst (v := 0) hC dTl_isInsideAfter_20 (by decide) ?_
      exact hret _ _ (by decide) (by decide) 0 () (Or.inl rfl) h _ _ dTl_isInsideAfter_21
    · have h := h.2 c_2
      refine x_iload_n hC dTl_isInsideAfter_12 rfl 1 rfl ?_
      refine x_if_eq (tgt := 20) hC dTl_isInsideAfter_13 (by decide) (fun c_3 => ?_) (fun c_3 => ?_)
      · have h := h.1 c_3
        refine x_iconst (v := 0) hC dTl_isInsideAfter_20 (by decide) ?_
        exact hret _ _ (by decide) (by decide) 0 () (Or.inl rfl) h _ _ dTl_isInsideAfter_21
      · have h := h.2 c_3
        refine x_iconst (v := 1) hC dTl_isInsideAfter_16 (by decide) ?_
        refine x_goto (tgt := 21) hC dTl_isInsideAfter_17 (by decide) ?_
        exact hret _ _ (by decide) (by decide) 1 () (Or.inr rfl) h _ _ dTl_isInsideAfter_21
  · have h := h.2 c_1
    refine x_iconst (v := 1) hC dTl_isInsideAfter_5 (by decide) ?_
    exact hret _ _ (by decide) (by decide) 1 () (Or.inr rfl) h _ _ dTl_isInsideAfter_6

/-! EventOrder$Timeline.countImplied(LEventOrder$Events;II)I -/
abbrev rm_Timeline_countImplied_1 : Room := { frames := 1, cells := 0, slots := 0, locals := 21 }
def Timeline_countImplied_1_L12 (v2 : Int32) (v3 : Int32) (itm : (Nat → Int32)) (knd : (Nat → Int32)) (plc : (Nat → Int32)) (tm : (Nat → Int64)) (ord : (Nat → Int32)) (tc : Int32) (Qx : Int32 → Prop) : Nat → Int32 → Int32 → Int32 → Int32 → Prop
  | 0, _, _, _, _ => False
  | n + 1, v4, v5, v6, v7 => ((tc ≤ v7 → Qx v4) ∧ (¬ tc ≤ v7 → vp_in v7 300 ∧ ((v7 ≤ 0 → vp_in (ord v7.toNatClampNeg) 301 ∧ ((¬ (itm (ord v7.toNatClampNeg).toNatClampNeg) = v2 → vp_in (ord v7.toNatClampNeg) 301 ∧ ((¬ (itm (ord v7.toNatClampNeg).toNatClampNeg) = v3 → Timeline_countImplied_1_L12 v2 v3 itm knd plc tm ord tc Qx n v4 v5 v6 (v7 + 1)) ∧ ((itm (ord v7.toNatClampNeg).toNatClampNeg) = v3 → vp_in (ord v7.toNatClampNeg) 301 ∧ ((¬ (plc (ord v7.toNatClampNeg).toNatClampNeg) = v2 → Timeline_countImplied_1_L12 v2 v3 itm knd plc tm ord tc Qx n v4 v5 v6 (v7 + 1)) ∧ ((plc (ord v7.toNatClampNeg).toNatClampNeg) = v2 → vp_in (ord v7.toNatClampNeg) 301 ∧ Timeline_isInsideAfter_wp (knd (ord v7.toNatClampNeg).toNatClampNeg) v6 (fun (r_11 : Int32) (u_12 : Unit) => Timeline_countImplied_1_L12 v2 v3 itm knd plc tm ord tc Qx n v4 v5 r_11 (v7 + 1))))))) ∧ ((itm (ord v7.toNatClampNeg).toNatClampNeg) = v2 → ((v5 = 0 → Timeline_countImplied_1_L12 v2 v3 itm knd plc tm ord tc Qx n v4 v5 v6 (v7 + 1)) ∧ (¬ v5 = 0 → Timeline_countImplied_1_L12 v2 v3 itm knd plc tm ord tc Qx n (v4 + 1) v5 v6 (v7 + 1)))))) ∧ (¬ v7 ≤ 0 → vp_in (ord v7.toNatClampNeg) 301 ∧ vp_in (v7 - 1) 300 ∧ vp_in (ord (v7 - 1).toNatClampNeg) 301 ∧ (((tm (ord v7.toNatClampNeg).toNatClampNeg) = (tm (ord (v7 - 1).toNatClampNeg).toNatClampNeg) → vp_in (ord v7.toNatClampNeg) 301 ∧ ((¬ (itm (ord v7.toNatClampNeg).toNatClampNeg) = v2 → vp_in (ord v7.toNatClampNeg) 301 ∧ ((¬ (itm (ord v7.toNatClampNeg).toNatClampNeg) = v3 → Timeline_countImplied_1_L12 v2 v3 itm knd plc tm ord tc Qx n v4 v5 v6 (v7 + 1)) ∧ ((itm (ord v7.toNatClampNeg).toNatClampNeg) = v3 → vp_in (ord v7.toNatClampNeg) 301 ∧ ((¬ (plc (ord v7.toNatClampNeg).toNatClampNeg) = v2 → Timeline_countImplied_1_L12 v2 v3 itm knd plc tm ord tc Qx n v4 v5 v6 (v7 + 1)) ∧ ((plc (ord v7.toNatClampNeg).toNatClampNeg) = v2 → vp_in (ord v7.toNatClampNeg) 301 ∧ Timeline_isInsideAfter_wp (knd (ord v7.toNatClampNeg).toNatClampNeg) v6 (fun (r_25 : Int32) (u_26 : Unit) => Timeline_countImplied_1_L12 v2 v3 itm knd plc tm ord tc Qx n v4 v5 r_25 (v7 + 1))))))) ∧ ((itm (ord v7.toNatClampNeg).toNatClampNeg) = v2 → ((v5 = 0 → Timeline_countImplied_1_L12 v2 v3 itm knd plc tm ord tc Qx n v4 v5 v6 (v7 + 1)) ∧ (¬ v5 = 0 → Timeline_countImplied_1_L12 v2 v3 itm knd plc tm ord tc Qx n (v4 + 1) v5 v6 (v7 + 1)))))) ∧ (¬ (tm (ord v7.toNatClampNeg).toNatClampNeg) = (tm (ord (v7 - 1).toNatClampNeg).toNatClampNeg) → vp_in (ord v7.toNatClampNeg) 301 ∧ ((¬ (itm (ord v7.toNatClampNeg).toNatClampNeg) = v2 → vp_in (ord v7.toNatClampNeg) 301 ∧ ((¬ (itm (ord v7.toNatClampNeg).toNatClampNeg) = v3 → Timeline_countImplied_1_L12 v2 v3 itm knd plc tm ord tc Qx n v4 v6 v6 (v7 + 1)) ∧ ((itm (ord v7.toNatClampNeg).toNatClampNeg) = v3 → vp_in (ord v7.toNatClampNeg) 301 ∧ ((¬ (plc (ord v7.toNatClampNeg).toNatClampNeg) = v2 → Timeline_countImplied_1_L12 v2 v3 itm knd plc tm ord tc Qx n v4 v6 v6 (v7 + 1)) ∧ ((plc (ord v7.toNatClampNeg).toNatClampNeg) = v2 → vp_in (ord v7.toNatClampNeg) 301 ∧ Timeline_isInsideAfter_wp (knd (ord v7.toNatClampNeg).toNatClampNeg) v6 (fun (r_35 : Int32) (u_36 : Unit) => Timeline_countImplied_1_L12 v2 v3 itm knd plc tm ord tc Qx n v4 v6 r_35 (v7 + 1))))))) ∧ ((itm (ord v7.toNatClampNeg).toNatClampNeg) = v2 → ((v6 = 0 → Timeline_countImplied_1_L12 v2 v3 itm knd plc tm ord tc Qx n v4 v6 v6 (v7 + 1)) ∧ (¬ v6 = 0 → Timeline_countImplied_1_L12 v2 v3 itm knd plc tm ord tc Qx n (v4 + 1) v6 v6 (v7 + 1)))))))))))

def Timeline_countImplied_1_wp (itm : (Nat → Int32)) (knd : (Nat → Int32)) (plc : (Nat → Int32)) (tm : (Nat → Int64)) (ord : (Nat → Int32)) (tc : Int32) (a2 : Int32) (a3 : Int32) (Qr : Int32 → Unit → Prop) : Prop := (∃ n_39 : Nat, Timeline_countImplied_1_L12 a2 a3 itm knd plc tm ord tc (fun (v4_38 : Int32) => Qr v4_38 ()) n_39 0 0 0 0)
set_option maxHeartbeats 4000000 in
set_option maxRecDepth 100000 in
theorem Timeline_countImplied_1_L12_ok {p : Program} {l : Launch} {e : Env} {s : State} {m : MethodId} {args : Array Value} {below : List Frame} {meth : Method} {c : Code} {Q : State → Prop} {D : va_G} {A : Nat → Prop} {ad : Nat → Nat} {cI cL cO : ClassId} {sc : Int32} {sd : Int32} {src : (Nat → Int32)} {itm : (Nat → Int32)} {knd : (Nat → Int32)} {plc : (Nat → Int32)} {clk : (Nat → Int64)} {ec : Int32} {nf : (Nat → Int32)} {ns : (Nat → Int32)} {nc : Int32} {wt : (Nat → Nat → Int64)} {bd : (Nat → Nat → Int64)} {off : (Nat → Int64)} {row : (Nat → Int32)} {hw : (Nat → Nat → Int64)} {rl : Int32} {tm : (Nat → Int64)} {ord : (Nat → Int32)} {tc : Int32} {v2 : Int32} {v3 : Int32} {Qx : Int32 → Prop} (hC : XC p s m args c D vwCl (tysX cI cL cO) A 9 bTl_countImplied TBL RTl)  (hexit : ∀ (v4 : Int32), Qx v4 → XW p l e rm_Timeline_countImplied_1 s m args below meth c D vwCl A 9 Q 0 0 (wX ad cI cL cO sc sd src itm knd plc clk ec nf ns nc wt bd off row hw rl tm ord tc) 128 [(4, .int v4)] []) : ∀ (n : Nat) (v4 : Int32) (v5 : Int32) (v6 : Int32) (v7 : Int32), Timeline_countImplied_1_L12 v2 v3 itm knd plc tm ord tc Qx n v4 v5 v6 v7 → XW p l e rm_Timeline_countImplied_1 s m args below meth c D vwCl A 9 Q 0 0 (wX ad cI cL cO sc sd src itm knd plc clk ec nf ns nc wt bd off row hw rl tm ord tc) 12 [(0, .ref (ad 17)), (1, .ref (ad 1)), (2, .int v2), (3, .int v3), (4, .int v4), (5, .int v5), (6, .int v6), (7, .int v7)] [] := by
  intro n
  induction n with
  | zero => intro v4 v5 v6 v7 h; exact False.elim h
  | succ n ih =>
    intro v4 v5 v6 v7 h
    unfold Timeline_countImplied_1_L12 at h
    refine x_iload hC dTl_countImplied_12 7 rfl ?_
    refine x_aload_n hC dTl_countImplied_14 rfl 0 rfl ?_
    refine x_get hC iTl 17 wX_17 rfl 2 (by decide) k_x60 rfl rfl dTl_countImplied_15 ?_
    refine x_icmp_ge (tgt := 128) hC dTl_countImplied_18 (by decide) (fun c_1 => ?_) (fun c_1 => ?_)
    · have h := h.1 c_1
      refine x_lv [4] rfl ?_
      exact hexit v4 h
    · have h := h.2 c_1
      refine x_aload_n hC dTl_countImplied_21 rfl 0 rfl ?_
      refine x_get hC iTl 17 wX_17 rfl 1 (by decide) k_x64 rfl rfl dTl_countImplied_22 ?_
      refine x_iload hC dTl_countImplied_25 7 rfl ?_
      obtain ⟨hb_2, h⟩ := h
      refine x_iald hC 19 0 wX_19 rfl hb_2 dTl_countImplied_27 ?_
      refine x_istore (lv' := [(8, .int (ord v7.toNatClampNeg)), (0, .ref (ad 17)), (1, .ref (ad 1)), (2, .int v2), (3, .int v3), (4, .int v4), (5, .int v5), (6, .int v6), (7, .int v7)]) hC dTl_countImplied_28 (by decide) rfl ?_
      refine x_iload hC dTl_countImplied_30 8 rfl ?_
      refine x_if_le (tgt := 64) hC dTl_countImplied_32 (by decide) (fun c_3 => ?_) (fun c_3 => ?_)
      · have h := h.1 c_3
        refine x_aload_n hC dTl_countImplied_64 rfl 2 rfl ?_
        refine x_get hC iEv 1 wX_1 rfl 1 (by decide) k_x71 rfl rfl dTl_countImplied_65 ?_
        refine x_iload hC dTl_countImplied_68 0 rfl ?_
        obtain ⟨hb_4, h⟩ := h
        refine x_iald hC 3 0 wX_3 rfl hb_4 dTl_countImplied_70 ?_
        refine x_iload_n hC dTl_countImplied_71 rfl 3 rfl ?_
        refine x_icmp_ne (tgt := 86) hC dTl_countImplied_72 (by decide) (fun c_5 => ?_) (fun c_5 => ?_)
        · have h := h.1 c_5
          refine x_aload_n hC dTl_countImplied_86 rfl 2 rfl ?_
          refine x_get hC iEv 1 wX_1 rfl 1 (by decide) k_x71 rfl rfl dTl_countImplied_87 ?_
          refine x_iload hC dTl_countImplied_90 0 rfl ?_
          obtain ⟨hb_6, h⟩ := h
          refine x_iald hC 3 0 wX_3 rfl hb_6 dTl_countImplied_92 ?_
          refine x_iload_n hC dTl_countImplied_93 rfl 4 rfl ?_
          refine x_icmp_ne (tgt := 122) hC dTl_countImplied_94 (by decide) (fun c_7 => ?_) (fun c_7 => ?_)
          · have h := h.1 c_7
            refine x_iinc (v := v7 + 1) (lv' := [(7, .int (v7 + 1)), (8, .int (ord v7.toNatClampNeg)), (0, .ref (ad 17)), (1, .ref (ad 1)), (2, .int v2), (3, .int v3), (4, .int v4), (5, .int v5), (6, .int v6)]) hC dTl_countImplied_122 8 rfl rfl (by decide) rfl ?_
            refine x_goto (tgt := 12) hC dTl_countImplied_125 (by decide) ?_
            refine x_lv [2, 3, 4, 5, 6, 7, 8, 0] rfl ?_
            exact ih v4 v5 v6 (v7 + 1) h
          · have h := h.2 c_7
            refine x_aload_n hC dTl_countImplied_97 rfl 2 rfl ?_
            refine x_get hC iEv 1 wX_1 rfl 3 (by decide) k_x65 rfl rfl dTl_countImplied_98 ?_
            refine x_iload hC dTl_countImplied_101 0 rfl ?_
            obtain ⟨hb_8, h⟩ := h
            refine x_iald hC 5 0 wX_5 rfl hb_8 dTl_countImplied_103 ?_
            refine x_iload_n hC dTl_countImplied_104 rfl 3 rfl ?_
            refine x_icmp_ne (tgt := 122) hC dTl_countImplied_105 (by decide) (fun c_9 => ?_) (fun c_9 => ?_)
            · have h := h.1 c_9
              refine x_iinc (v := v7 + 1) (lv' := [(7, .int (v7 + 1)), (8, .int (ord v7.toNatClampNeg)), (0, .ref (ad 17)), (1, .ref (ad 1)), (2, .int v2), (3, .int v3), (4, .int v4), (5, .int v5), (6, .int v6)]) hC dTl_countImplied_122 8 rfl rfl (by decide) rfl ?_
              refine x_goto (tgt := 12) hC dTl_countImplied_125 (by decide) ?_
              refine x_lv [2, 3, 4, 5, 6, 7, 8, 0] rfl ?_
              exact ih v4 v5 v6 (v7 + 1) h
            · have h := h.2 c_9
              refine x_aload_n hC dTl_countImplied_108 rfl 2 rfl ?_
              refine x_get hC iEv 1 wX_1 rfl 2 (by decide) k_x72 rfl rfl dTl_countImplied_109 ?_
              refine x_iload hC dTl_countImplied_112 0 rfl ?_
              obtain ⟨hb_10, h⟩ := h
              refine x_iald hC 4 0 wX_4 rfl hb_10 dTl_countImplied_114 ?_
              refine x_iload hC dTl_countImplied_115 7 rfl ?_
              refine x_callSi (S := Unit) (wf := fun u => (wX ad cI cL cO sc sd src itm knd plc clk ec nf ns nc wt bd off row hw rl tm ord tc)) hC [.int (knd (ord v7.toNatClampNeg).toNatClampNeg), .int v6] (fun sz => c_Timeline_isInsideAfter h sz) (by decide) (by decide) k_x73 k_x74 k_x75 (by decide) 2 rfl (by decide +kernel) ⟨by decide, by decide⟩ (Nat.le_of_ble_eq_true rfl) k_x76 rfl dTl_countImplied_117 (fun _ h9 => h9) (fun r_11 u_12 h => ?_)
              refine x_istore (lv' := [(6, .int r_11), (8, .int (ord v7.toNatClampNeg)), (0, .ref (ad 17)), (1, .ref (ad 1)), (2, .int v2), (3, .int v3), (4, .int v4), (5, .int v5), (7, .int v7)]) hC dTl_countImplied_120 (by decide) rfl ?_
              refine x_iinc (v := v7 + 1) (lv' := [(7, .int (v7 + 1)), (6, .int r_11), (8, .int (ord v7.toNatClampNeg)), (0, .ref (ad 17)), (1, .ref (ad 1)), (2, .int v2), (3, .int v3), (4, .int v4), (5, .int v5)]) hC dTl_countImplied_122 8 rfl rfl (by decide) rfl ?_
              refine x_goto (tgt := 12) hC dTl_countImplied_125 (by decide) ?_
              refine x_lv [3, 4, 5, 6, 7, 8, 1, 0] rfl ?_
              exact ih v4 v5 r_11 (v7 + 1) h
        · have h := h.2 c_5
          refine x_iload hC dTl_countImplied_75 6 rfl ?_
          refine x_if_eq (tgt := 122) hC dTl_countImplied_77 (by decide) (fun c_13 => ?_) (fun c_13 => ?_)
          · have h := h.1 c_13
            refine x_iinc (v := v7 + 1) (lv' := [(7, .int (v7 + 1)), (8, .int (ord v7.toNatClampNeg)), (0, .ref (ad 17)), (1, .ref (ad 1)), (2, .int v2), (3, .int v3), (4, .int v4), (5, .int v5), (6, .int v6)]) hC dTl_countImplied_122 8 rfl rfl (by decide) rfl ?_
            refine x_goto (tgt := 12) hC dTl_countImplied_125 (by decide) ?_
            refine x_lv [2, 3, 4, 5, 6, 7, 8, 0] rfl ?_
            exact ih v4 v5 v6 (v7 + 1) h
          · have h := h.2 c_13
            refine x_iinc (v := v4 + 1) (lv' := [(4, .int (v4 + 1)), (8, .int (ord v7.toNatClampNeg)), (0, .ref (ad 17)), (1, .ref (ad 1)), (2, .int v2), (3, .int v3), (5, .int v5), (6, .int v6), (7, .int v7)]) hC dTl_countImplied_80 5 rfl rfl (by decide) rfl ?_
            refine x_goto (tgt := 122) hC dTl_countImplied_83 (by decide) ?_
            refine x_iinc (v := v7 + 1) (lv' := [(7, .int (v7 + 1)), (4, .int (v4 + 1)), (8, .int (ord v7.toNatClampNeg)), (0, .ref (ad 17)), (1, .ref (ad 1)), (2, .int v2), (3, .int v3), (5, .int v5), (6, .int v6)]) hC dTl_countImplied_122 8 rfl rfl (by decide) rfl ?_
            refine x_goto (tgt := 12) hC dTl_countImplied_125 (by decide) ?_
            refine x_lv [3, 4, 5, 6, 1, 7, 8, 0] rfl ?_
            exact ih (v4 + 1) v5 v6 (v7 + 1) h
      · have h := h.2 c_3
        refine x_aload_n hC dTl_countImplied_35 rfl 1 rfl ?_
        refine x_get hC iTl 17 wX_17 rfl 0 (by decide) k_x61 rfl rfl dTl_countImplied_36 ?_
        refine x_iload hC dTl_countImplied_39 0 rfl ?_
        obtain ⟨hb_14, h⟩ := h
        refine x_lald hC 18 1 wX_18 rfl hb_14 dTl_countImplied_41 ?_
        refine x_aload_n hC dTl_countImplied_42 rfl 1 rfl ?_
        refine x_get hC iTl 17 wX_17 rfl 0 (by decide) k_x61 rfl rfl dTl_countImplied_43 ?_
        refine x_aload_n hC dTl_countImplied_46 rfl 1 rfl ?_
        refine x_get hC iTl 17 wX_17 rfl 1 (by decide) k_x64 rfl rfl dTl_countImplied_47 ?_
        refine x_iload hC dTl_countImplied_50 8 rfl ?_
        refine x_iconst (v := 1) hC dTl_countImplied_52 (by decide) ?_
        refine x_isub hC dTl_countImplied_53 ?_
        obtain ⟨hb_15, h⟩ := h
        refine x_iald hC 19 0 wX_19 rfl hb_15 dTl_countImplied_54 ?_
        obtain ⟨hb_16, h⟩ := h
        refine x_lald hC 18 1 wX_18 rfl hb_16 dTl_countImplied_55 ?_
        refine x_lcmp_eq (tgt := 64) hC dTl_countImplied_56 dTl_countImplied_57 (by decide) (fun c_17 => ?_) (fun c_17 => ?_)
        · have h := h.1 c_17
          refine x_aload_n hC dTl_countImplied_64 rfl 2 rfl ?_
          refine x_get hC iEv 1 wX_1 rfl 1 (by decide) k_x71 rfl rfl dTl_countImplied_65 ?_
          refine x_iload hC dTl_countImplied_68 0 rfl ?_
          obtain ⟨hb_18, h⟩ := h
          refine x_iald hC 3 0 wX_3 rfl hb_18 dTl_countImplied_70 ?_
          refine x_iload_n hC dTl_countImplied_71 rfl 3 rfl ?_
          refine x_icmp_ne (tgt := 86) hC dTl_countImplied_72 (by decide) (fun c_19 => ?_) (fun c_19 => ?_)
          · have h := h.1 c_19
            refine x_aload_n hC dTl_countImplied_86 rfl 2 rfl ?_
            refine x_get hC iEv 1 wX_1 rfl 1 (by decide) k_x71 rfl rfl dTl_countImplied_87 ?_
            refine x_iload hC dTl_countImplied_90 0 rfl ?_
            obtain ⟨hb_20, h⟩ := h
            refine x_iald hC 3 0 wX_3 rfl hb_20 dTl_countImplied_92 ?_
            refine x_iload_n hC dTl_countImplied_93 rfl 4 rfl ?_
            refine x_icmp_ne (tgt := 122) hC dTl_countImplied_94 (by decide) (fun c_21 => ?_) (fun c_21 => ?_)
            · have h := h.1 c_21
              refine x_iinc (v := v7 + 1) (lv' := [(7, .int (v7 + 1)), (8, .int (ord v7.toNatClampNeg)), (0, .ref (ad 17)), (1, .ref (ad 1)), (2, .int v2), (3, .int v3), (4, .int v4), (5, .int v5), (6, .int v6)]) hC dTl_countImplied_122 8 rfl rfl (by decide) rfl ?_
              refine x_goto (tgt := 12) hC dTl_countImplied_125 (by decide) ?_
              refine x_lv [2, 3, 4, 5, 6, 7, 8, 0] rfl ?_
              exact ih v4 v5 v6 (v7 + 1) h
            · have h := h.2 c_21
              refine x_aload_n hC dTl_countImplied_97 rfl 2 rfl ?_
              refine x_get hC iEv 1 wX_1 rfl 3 (by decide) k_x65 rfl rfl dTl_countImplied_98 ?_
              refine x_iload hC dTl_countImplied_101 0 rfl ?_
              obtain ⟨hb_22, h⟩ := h
              refine x_iald hC 5 0 wX_5 rfl hb_22 dTl_countImplied_103 ?_
              refine x_iload_n hC dTl_countImplied_104 rfl 3 rfl ?_
              refine x_icmp_ne (tgt := 122) hC dTl_countImplied_105 (by decide) (fun c_23 => ?_) (fun c_23 => ?_)
              · have h := h.1 c_23
                refine x_iinc (v := v7 + 1) (lv' := [(7, .int (v7 + 1)), (8, .int (ord v7.toNatClampNeg)), (0, .ref (ad 17)), (1, .ref (ad 1)), (2, .int v2), (3, .int v3), (4, .int v4), (5, .int v5), (6, .int v6)]) hC dTl_countImplied_122 8 rfl rfl (by decide) rfl ?_
                refine x_goto (tgt := 12) hC dTl_countImplied_125 (by decide) ?_
                refine x_lv [2, 3, 4, 5, 6, 7, 8, 0] rfl ?_
                exact ih v4 v5 v6 (v7 + 1) h
              · have h := h.2 c_23
                refine x_aload_n hC dTl_countImplied_108 rfl 2 rfl ?_
                refine x_get hC iEv 1 wX_1 rfl 2 (by decide) k_x72 rfl rfl dTl_countImplied_109 ?_
                refine x_iload hC dTl_countImplied_112 0 rfl ?_
                obtain ⟨hb_24, h⟩ := h
                refine x_iald hC 4 0 wX_4 rfl hb_24 dTl_countImplied_114 ?_
                refine x_iload hC dTl_countImplied_115 7 rfl ?_
                refine x_callSi (S := Unit) (wf := fun u => (wX ad cI cL cO sc sd src itm knd plc clk ec nf ns nc wt bd off row hw rl tm ord tc)) hC [.int (knd (ord v7.toNatClampNeg).toNatClampNeg), .int v6] (fun sz => c_Timeline_isInsideAfter h sz) (by decide) (by decide) k_x73 k_x74 k_x75 (by decide) 2 rfl (by decide +kernel) ⟨by decide, by decide⟩ (Nat.le_of_ble_eq_true rfl) k_x76 rfl dTl_countImplied_117 (fun _ h9 => h9) (fun r_25 u_26 h => ?_)
                refine x_istore (lv' := [(6, .int r_25), (8, .int (ord v7.toNatClampNeg)), (0, .ref (ad 17)), (1, .ref (ad 1)), (2, .int v2), (3, .int v3), (4, .int v4), (5, .int v5), (7, .int v7)]) hC dTl_countImplied_120 (by decide) rfl ?_
                refine x_iinc (v := v7 + 1) (lv' := [(7, .int (v7 + 1)), (6, .int r_25), (8, .int (ord v7.toNatClampNeg)), (0, .ref (ad 17)), (1, .ref (ad 1)), (2, .int v2), (3, .int v3), (4, .int v4), (5, .int v5)]) hC dTl_countImplied_122 8 rfl rfl (by decide) rfl ?_
                refine x_goto (tgt := 12) hC dTl_countImplied_125 (by decide) ?_
                refine x_lv [3, 4, 5, 6, 7, 8, 1, 0] rfl ?_
                exact ih v4 v5 r_25 (v7 + 1) h
          · have h := h.2 c_19
            refine x_iload hC dTl_countImplied_75 6 rfl ?_
            refine x_if_eq (tgt := 122) hC dTl_countImplied_77 (by decide) (fun c_27 => ?_) (fun c_27 => ?_)
            · have h := h.1 c_27
              refine x_iinc (v := v7 + 1) (lv' := [(7, .int (v7 + 1)), (8, .int (ord v7.toNatClampNeg)), (0, .ref (ad 17)), (1, .ref (ad 1)), (2, .int v2), (3, .int v3), (4, .int v4), (5, .int v5), (6, .int v6)]) hC dTl_countImplied_122 8 rfl rfl (by decide) rfl ?_
              refine x_goto (tgt := 12) hC dTl_countImplied_125 (by decide) ?_
              refine x_lv [2, 3, 4, 5, 6, 7, 8, 0] rfl ?_
              exact ih v4 v5 v6 (v7 + 1) h
            · have h := h.2 c_27
              refine x_iinc (v := v4 + 1) (lv' := [(4, .int (v4 + 1)), (8, .int (ord v7.toNatClampNeg)), (0, .ref (ad 17)), (1, .ref (ad 1)), (2, .int v2), (3, .int v3), (5, .int v5), (6, .int v6), (7, .int v7)]) hC dTl_countImplied_80 5 rfl rfl (by decide) rfl ?_
              refine x_goto (tgt := 122) hC dTl_countImplied_83 (by decide) ?_
              refine x_iinc (v := v7 + 1) (lv' := [(7, .int (v7 + 1)), (4, .int (v4 + 1)), (8, .int (ord v7.toNatClampNeg)), (0, .ref (ad 17)), (1, .ref (ad 1)), (2, .int v2), (3, .int v3), (5, .int v5), (6, .int v6)]) hC dTl_countImplied_122 8 rfl rfl (by decide) rfl ?_
              refine x_goto (tgt := 12) hC dTl_countImplied_125 (by decide) ?_
              refine x_lv [3, 4, 5, 6, 1, 7, 8, 0] rfl ?_
              exact ih (v4 + 1) v5 v6 (v7 + 1) h
        · have h := h.2 c_17
          refine x_iload hC dTl_countImplied_60 7 rfl ?_
          refine x_istore (lv' := [(5, .int v6), (8, .int (ord v7.toNatClampNeg)), (0, .ref (ad 17)), (1, .ref (ad 1)), (2, .int v2), (3, .int v3), (4, .int v4), (6, .int v6), (7, .int v7)]) hC dTl_countImplied_62 (by decide) rfl ?_
          refine x_aload_n hC dTl_countImplied_64 rfl 3 rfl ?_
          refine x_get hC iEv 1 wX_1 rfl 1 (by decide) k_x71 rfl rfl dTl_countImplied_65 ?_
          refine x_iload hC dTl_countImplied_68 1 rfl ?_
          obtain ⟨hb_28, h⟩ := h
          refine x_iald hC 3 0 wX_3 rfl hb_28 dTl_countImplied_70 ?_
          refine x_iload_n hC dTl_countImplied_71 rfl 4 rfl ?_
          refine x_icmp_ne (tgt := 86) hC dTl_countImplied_72 (by decide) (fun c_29 => ?_) (fun c_29 => ?_)
          · have h := h.1 c_29
            refine x_aload_n hC dTl_countImplied_86 rfl 3 rfl ?_
            refine x_get hC iEv 1 wX_1 rfl 1 (by decide) k_x71 rfl rfl dTl_countImplied_87 ?_
            refine x_iload hC dTl_countImplied_90 1 rfl ?_
            obtain ⟨hb_30, h⟩ := h
            refine x_iald hC 3 0 wX_3 rfl hb_30 dTl_countImplied_92 ?_
            refine x_iload_n hC dTl_countImplied_93 rfl 5 rfl ?_
            refine x_icmp_ne (tgt := 122) hC dTl_countImplied_94 (by decide) (fun c_31 => ?_) (fun c_31 => ?_)
            · have h := h.1 c_31
              refine x_iinc (v := v7 + 1) (lv' := [(7, .int (v7 + 1)), (5, .int v6), (8, .int (ord v7.toNatClampNeg)), (0, .ref (ad 17)), (1, .ref (ad 1)), (2, .int v2), (3, .int v3), (4, .int v4), (6, .int v6)]) hC dTl_countImplied_122 8 rfl rfl (by decide) rfl ?_
              refine x_goto (tgt := 12) hC dTl_countImplied_125 (by decide) ?_
              refine x_lv [3, 4, 5, 6, 7, 1, 8, 0] rfl ?_
              exact ih v4 v6 v6 (v7 + 1) h
            · have h := h.2 c_31
              refine x_aload_n hC dTl_countImplied_97 rfl 3 rfl ?_
              refine x_get hC iEv 1 wX_1 rfl 3 (by decide) k_x65 rfl rfl dTl_countImplied_98 ?_
              refine x_iload hC dTl_countImplied_101 1 rfl ?_
              obtain ⟨hb_32, h⟩ := h
              refine x_iald hC 5 0 wX_5 rfl hb_32 dTl_countImplied_103 ?_
              refine x_iload_n hC dTl_countImplied_104 rfl 4 rfl ?_
              refine x_icmp_ne (tgt := 122) hC dTl_countImplied_105 (by decide) (fun c_33 => ?_) (fun c_33 => ?_)
              · have h := h.1 c_33
                refine x_iinc (v := v7 + 1) (lv' := [(7, .int (v7 + 1)), (5, .int v6), (8, .int (ord v7.toNatClampNeg)), (0, .ref (ad 17)), (1, .ref (ad 1)), (2, .int v2), (3, .int v3), (4, .int v4), (6, .int v6)]) hC dTl_countImplied_122 8 rfl rfl (by decide) rfl ?_
                refine x_goto (tgt := 12) hC dTl_countImplied_125 (by decide) ?_
                refine x_lv [3, 4, 5, 6, 7, 1, 8, 0] rfl ?_
                exact ih v4 v6 v6 (v7 + 1) h
              · have h := h.2 c_33
                refine x_aload_n hC dTl_countImplied_108 rfl 3 rfl ?_
                refine x_get hC iEv 1 wX_1 rfl 2 (by decide) k_x72 rfl rfl dTl_countImplied_109 ?_
                refine x_iload hC dTl_countImplied_112 1 rfl ?_
                obtain ⟨hb_34, h⟩ := h
                refine x_iald hC 4 0 wX_4 rfl hb_34 dTl_countImplied_114 ?_
                refine x_iload hC dTl_countImplied_115 7 rfl ?_
                refine x_callSi (S := Unit) (wf := fun u => (wX ad cI cL cO sc sd src itm knd plc clk ec nf ns nc wt bd off row hw rl tm ord tc)) hC [.int (knd (ord v7.toNatClampNeg).toNatClampNeg), .int v6] (fun sz => c_Timeline_isInsideAfter h sz) (by decide) (by decide) k_x73 k_x74 k_x75 (by decide) 2 rfl (by decide +kernel) ⟨by decide, by decide⟩ (Nat.le_of_ble_eq_true rfl) k_x76 rfl dTl_countImplied_117 (fun _ h9 => h9) (fun r_35 u_36 h => ?_)
                refine x_istore (lv' := [(6, .int r_35), (5, .int v6), (8, .int (ord v7.toNatClampNeg)), (0, .ref (ad 17)), (1, .ref (ad 1)), (2, .int v2), (3, .int v3), (4, .int v4), (7, .int v7)]) hC dTl_countImplied_120 (by decide) rfl ?_
                refine x_iinc (v := v7 + 1) (lv' := [(7, .int (v7 + 1)), (6, .int r_35), (5, .int v6), (8, .int (ord v7.toNatClampNeg)), (0, .ref (ad 17)), (1, .ref (ad 1)), (2, .int v2), (3, .int v3), (4, .int v4)]) hC dTl_countImplied_122 8 rfl rfl (by decide) rfl ?_
                refine x_goto (tgt := 12) hC dTl_countImplied_125 (by decide) ?_
                refine x_lv [4, 5, 6, 7, 8, 2, 1, 0] rfl ?_
                exact ih v4 v6 r_35 (v7 + 1) h
          · have h := h.2 c_29
            refine x_iload hC dTl_countImplied_75 0 rfl ?_
            refine x_if_eq (tgt := 122) hC dTl_countImplied_77 (by decide) (fun c_37 => ?_) (fun c_37 => ?_)
            · have h := h.1 c_37
              refine x_iinc (v := v7 + 1) (lv' := [(7, .int (v7 + 1)), (5, .int v6), (8, .int (ord v7.toNatClampNeg)), (0, .ref (ad 17)), (1, .ref (ad 1)), (2, .int v2), (3, .int v3), (4, .int v4), (6, .int v6)]) hC dTl_countImplied_122 8 rfl rfl (by decide) rfl ?_
              refine x_goto (tgt := 12) hC dTl_countImplied_125 (by decide) ?_
              refine x_lv [3, 4, 5, 6, 7, 1, 8, 0] rfl ?_
              exact ih v4 v6 v6 (v7 + 1) h
            · have h := h.2 c_37
              refine x_iinc (v := v4 + 1) (lv' := [(4, .int (v4 + 1)), (5, .int v6), (8, .int (ord v7.toNatClampNeg)), (0, .ref (ad 17)), (1, .ref (ad 1)), (2, .int v2), (3, .int v3), (6, .int v6), (7, .int v7)]) hC dTl_countImplied_80 6 rfl rfl (by decide) rfl ?_
              refine x_goto (tgt := 122) hC dTl_countImplied_83 (by decide) ?_
              refine x_iinc (v := v7 + 1) (lv' := [(7, .int (v7 + 1)), (4, .int (v4 + 1)), (5, .int v6), (8, .int (ord v7.toNatClampNeg)), (0, .ref (ad 17)), (1, .ref (ad 1)), (2, .int v2), (3, .int v3), (6, .int v6)]) hC dTl_countImplied_122 8 rfl rfl (by decide) rfl ?_
              refine x_goto (tgt := 12) hC dTl_countImplied_125 (by decide) ?_
              refine x_lv [4, 5, 6, 7, 1, 2, 8, 0] rfl ?_
              exact ih (v4 + 1) v6 v6 (v7 + 1) h

set_option maxHeartbeats 4000000 in
set_option maxRecDepth 100000 in
theorem c_Timeline_countImplied_1 {l : Launch} {D : va_G} {ad : Nat → Nat} {cI cL cO : ClassId} {sc : Int32} {sd : Int32} {src : (Nat → Int32)} {itm : (Nat → Int32)} {knd : (Nat → Int32)} {plc : (Nat → Int32)} {clk : (Nat → Int64)} {ec : Int32} {nf : (Nat → Int32)} {ns : (Nat → Int32)} {nc : Int32} {wt : (Nat → Nat → Int64)} {bd : (Nat → Nat → Int64)} {off : (Nat → Int64)} {row : (Nat → Int32)} {hw : (Nat → Nat → Int64)} {rl : Int32} {tm : (Nat → Int64)} {ord : (Nat → Int32)} {tc : Int32} {a2 : Int32} {a3 : Int32} {Qr : Int32 → Unit → Prop} (h : Timeline_countImplied_1_wp itm knd plc tm ord tc a2 a3 Qr) (sz : Nat) : vx_Met l yTl_countImplied (Cond.code yTl_countImplied bTl_countImplied 9 (some .int) :: TBL) rm_Timeline_countImplied_1 (va_Pc [.ref (ad 17), .ref (ad 1), .int a2, .int a3] (XP D vwCl (tysX cI cL cO) (wX ad cI cL cO sc sd src itm knd plc clk ec nf ns nc wt bd off row hw rl tm ord tc) sz)) (va_Qi Qr (fun u t => XB D vwCl (tysX cI cL cO) (va_A (wX ad cI cL cO sc sd src itm knd plc clk ec nf ns nc wt bd off row hw rl tm ord tc) sz) (wX ad cI cL cO sc sd src itm knd plc clk ec nf ns nc wt bd off row hw rl tm ord tc) t) (va_A (wX ad cI cL cO sc sd src itm knd plc clk ec nf ns nc wt bd off row hw rl tm ord tc) sz)) (XT D vwCl (tysX cI cL cO) (va_A (wX ad cI cL cO sc sd src itm knd plc clk ec nf ns nc wt bd off row hw rl tm ord tc) sz) (wX ad cI cL cO sc sd src itm knd plc clk ec nf ns nc wt bd off row hw rl tm ord tc) (fun _ => False)) rm_Timeline_countImplied_1.cells rm_Timeline_countImplied_1.slots (va_A (wX ad cI cL cO sc sd src itm knd plc clk ec nf ns nc wt bd off row hw rl tm ord tc) sz) := by
  refine x_met [.ref (ad 17), .ref (ad 1), .int a2, .int a3] TBL_good (by decide) (Nat.le_of_ble_eq_true rfl) ?_
  intro p e s m args below meth c hC hr hlk hnm hnh
  have hret : ∀ (ce sl : Nat), ce ≤ rm_Timeline_countImplied_1.cells → sl ≤ rm_Timeline_countImplied_1.slots → ∀ (r : Int32) (u : Unit), Qr r u → ∀ (pc : Nat) (lv : List (Nat × Value)), decode bTl_countImplied pc = .ok (.ireturn, 1) → XW p l e rm_Timeline_countImplied_1 s m args below meth c D vwCl (va_A (wX ad cI cL cO sc sd src itm knd plc clk ec nf ns nc wt bd off row hw rl tm ord tc) sz) 9 (vx_MQ below (va_Qi Qr (fun u t => XB D vwCl (tysX cI cL cO) (va_A (wX ad cI cL cO sc sd src itm knd plc clk ec nf ns nc wt bd off row hw rl tm ord tc) sz) (wX ad cI cL cO sc sd src itm knd plc clk ec nf ns nc wt bd off row hw rl tm ord tc) t) (va_A (wX ad cI cL cO sc sd src itm knd plc clk ec nf ns nc wt bd off row hw rl tm ord tc) sz)) (XT D vwCl (tysX cI cL cO) (va_A (wX ad cI cL cO sc sd src itm knd plc clk ec nf ns nc wt bd off row hw rl tm ord tc) sz) (wX ad cI cL cO sc sd src itm knd plc clk ec nf ns nc wt bd off row hw rl tm ord tc) (fun _ => False)) args s rm_Timeline_countImplied_1.cells rm_Timeline_countImplied_1.slots (va_A (wX ad cI cL cO sc sd src itm knd plc clk ec nf ns nc wt bd off row hw rl tm ord tc) sz)) ce sl (wX ad cI cL cO sc sd src itm knd plc clk ec nf ns nc wt bd off row hw rl tm ord tc) pc lv [.int r] := fun ce sl h1 h2 r u hq pc lv hd => x_iret (wf := fun u => (wX ad cI cL cO sc sd src itm knd plc clk ec nf ns nc wt bd off row hw rl tm ord tc)) hC h1 h2 hr hlk hd hq rfl
  show XW p l e rm_Timeline_countImplied_1 s m args below meth c D vwCl (va_A (wX ad cI cL cO sc sd src itm knd plc clk ec nf ns nc wt bd off row hw rl tm ord tc) sz) 9 _ 0 0 (wX ad cI cL cO sc sd src itm knd plc clk ec nf ns nc wt bd off row hw rl tm ord tc) 0 [(0, .ref (ad 17)), (1, .ref (ad 1)), (2, .int a2), (3, .int a3)] []
  unfold Timeline_countImplied_1_wp at h
  refine x_iconst (v := 0) hC dTl_countImplied_0 (by decide) ?_
  refine x_istore (lv' := [(4, .int 0), (0, .ref (ad 17)), (1, .ref (ad 1)), (2, .int a2), (3, .int a3)]) hC dTl_countImplied_1 (by decide) rfl ?_
  refine x_iconst (v := 0) hC dTl_countImplied_3 (by decide) ?_
  refine x_istore (lv' := [(5, .int 0), (4, .int 0), (0, .ref (ad 17)), (1, .ref (ad 1)), (2, .int a2), (3, .int a3)]) hC dTl_countImplied_4 (by decide) rfl ?_
  refine x_iconst (v := 0) hC dTl_countImplied_6 (by decide) ?_
  refine x_istore (lv' := [(6, .int 0), (5, .int 0), (4, .int 0), (0, .ref (ad 17)), (1, .ref (ad 1)), (2, .int a2), (3, .int a3)]) hC dTl_countImplied_7 (by decide) rfl ?_
  refine x_iconst (v := 0) hC dTl_countImplied_9 (by decide) ?_
  refine x_istore (lv' := [(7, .int 0), (6, .int 0), (5, .int 0), (4, .int 0), (0, .ref (ad 17)), (1, .ref (ad 1)), (2, .int a2), (3, .int a3)]) hC dTl_countImplied_10 (by decide) rfl ?_
  obtain ⟨n_39, h⟩ := h
  refine x_lv [4, 5, 6, 7, 3, 2, 1, 0] rfl ?_
  refine Timeline_countImplied_1_L12_ok hC (fun v4_38 h => ?_) n_39 0 0 0 0 h
  refine x_iload hC dTl_countImplied_128 0 rfl ?_
  exact hret _ _ (by decide) (by decide) v4_38 () h _ _ dTl_countImplied_130
end
section
theorem dX_source_0 : decode bX_source 0 = .ok (.aload_n 0, 1) := by decide +kernel
theorem dX_source_1 : decode bX_source 1 = .ok (.getfield 46, 3) := by decide +kernel
theorem dX_source_4 : decode bX_source 4 = .ok (.bipush 16, 2) := by decide +kernel
theorem dX_source_6 : decode bX_source 6 = .ok (.if_icmp .lt 13, 3) := by decide +kernel
theorem dX_source_19 : decode bX_source 19 = .ok (.aload_n 0, 1) := by decide +kernel
theorem dX_source_20 : decode bX_source 20 = .ok (.getfield 46, 3) := by decide +kernel
theorem dX_source_23 : decode bX_source 23 = .ok (.istore_n 1, 1) := by decide +kernel
theorem dX_source_24 : decode bX_source 24 = .ok (.aload_n 0, 1) := by decide +kernel
theorem dX_source_25 : decode bX_source 25 = .ok (.dup, 1) := by decide +kernel
theorem dX_source_26 : decode bX_source 26 = .ok (.getfield 46, 3) := by decide +kernel
theorem dX_source_29 : decode bX_source 29 = .ok (.iconst 1, 1) := by decide +kernel
theorem dX_source_30 : decode bX_source 30 = .ok (.iadd, 1) := by decide +kernel
theorem dX_source_31 : decode bX_source 31 = .ok (.putfield 46, 3) := by decide +kernel
theorem dX_source_34 : decode bX_source 34 = .ok (.aload_n 0, 1) := by decide +kernel
theorem dX_source_35 : decode bX_source 35 = .ok (.iconst 0, 1) := by decide +kernel
theorem dX_source_36 : decode bX_source 36 = .ok (.putfield 50, 3) := by decide +kernel
theorem dX_source_39 : decode bX_source 39 = .ok (.iload_n 1, 1) := by decide +kernel
theorem dX_source_40 : decode bX_source 40 = .ok (.ireturn, 1) := by decide +kernel
theorem dX_source_9 : decode bX_source 9 = .ok (.new 54, 3) := by decide +kernel
theorem dX_source_12 : decode bX_source 12 = .ok (.dup, 1) := by decide +kernel
theorem dX_source_13 : decode bX_source 13 = .ok (.ldc 56, 2) := by decide +kernel
theorem dX_source_15 : decode bX_source 15 = .ok (.invokespecial 58, 3) := by decide +kernel
theorem dX_source_18 : decode bX_source 18 = .ok (.athrow, 1) := by decide +kernel
theorem dX_event_0 : decode bX_event 0 = .ok (.aload_n 0, 1) := by decide +kernel
theorem dX_event_1 : decode bX_event 1 = .ok (.iload_n 1, 1) := by decide +kernel
theorem dX_event_2 : decode bX_event 2 = .ok (.invokevirtual 61, 3) := by decide +kernel
theorem dX_checkSource_0 : decode bX_checkSource 0 = .ok (.iload_n 1, 1) := by decide +kernel
theorem dX_checkSource_1 : decode bX_checkSource 1 = .ok (.ifCond .lt 11, 3) := by decide +kernel
theorem dX_checkSource_12 : decode bX_checkSource 12 = .ok (.new 153, 3) := by decide +kernel
theorem dX_checkSource_15 : decode bX_checkSource 15 = .ok (.dup, 1) := by decide +kernel
theorem dX_checkSource_16 : decode bX_checkSource 16 = .ok (.ldc 184, 2) := by decide +kernel
theorem dX_checkSource_18 : decode bX_checkSource 18 = .ok (.invokespecial 157, 3) := by decide +kernel
theorem dX_checkSource_21 : decode bX_checkSource 21 = .ok (.athrow, 1) := by decide +kernel
theorem dX_checkSource_4 : decode bX_checkSource 4 = .ok (.iload_n 1, 1) := by decide +kernel
theorem dX_checkSource_5 : decode bX_checkSource 5 = .ok (.aload_n 0, 1) := by decide +kernel
theorem dX_checkSource_6 : decode bX_checkSource 6 = .ok (.getfield 46, 3) := by decide +kernel
theorem dX_checkSource_9 : decode bX_checkSource 9 = .ok (.if_icmp .lt 13, 3) := by decide +kernel
theorem dX_checkSource_22 : decode bX_checkSource 22 = .ok (.return_, 1) := by decide +kernel
theorem dX_event_5 : decode bX_event 5 = .ok (.iload_n 2, 1) := by decide +kernel
theorem dX_event_6 : decode bX_event 6 = .ok (.invokestatic 65, 3) := by decide +kernel
theorem dX_checkItem_0 : decode bX_checkItem 0 = .ok (.iload_n 0, 1) := by decide +kernel
theorem dX_checkItem_1 : decode bX_checkItem 1 = .ok (.ifCond .lt 10, 3) := by decide +kernel
theorem dX_checkItem_11 : decode bX_checkItem 11 = .ok (.new 153, 3) := by decide +kernel
theorem dX_checkItem_14 : decode bX_checkItem 14 = .ok (.dup, 1) := by decide +kernel
theorem dX_checkItem_15 : decode bX_checkItem 15 = .ok (.ldc 193, 2) := by decide +kernel
theorem dX_checkItem_17 : decode bX_checkItem 17 = .ok (.invokespecial 157, 3) := by decide +kernel
theorem dX_checkItem_20 : decode bX_checkItem 20 = .ok (.athrow, 1) := by decide +kernel
theorem dX_checkItem_4 : decode bX_checkItem 4 = .ok (.iload_n 0, 1) := by decide +kernel
theorem dX_checkItem_5 : decode bX_checkItem 5 = .ok (.sipush 200, 3) := by decide +kernel
theorem dX_checkItem_8 : decode bX_checkItem 8 = .ok (.if_icmp .lt 13, 3) := by decide +kernel
theorem dX_checkItem_21 : decode bX_checkItem 21 = .ok (.return_, 1) := by decide +kernel
theorem dX_event_9 : decode bX_event 9 = .ok (.iload_n 2, 1) := by decide +kernel
theorem dX_event_10 : decode bX_event 10 = .ok (.iload_n 3, 1) := by decide +kernel
theorem dX_event_11 : decode bX_event 11 = .ok (.iload 4, 2) := by decide +kernel
theorem dX_event_13 : decode bX_event 13 = .ok (.invokestatic 68, 3) := by decide +kernel
theorem dX_checkKindAndPlace_0 : decode bX_checkKindAndPlace 0 = .ok (.iload_n 1, 1) := by decide +kernel
theorem dX_checkKindAndPlace_1 : decode bX_checkKindAndPlace 1 = .ok (.ifCond .lt 9, 3) := by decide +kernel
theorem dX_checkKindAndPlace_10 : decode bX_checkKindAndPlace 10 = .ok (.new 92, 3) := by decide +kernel
theorem dX_checkKindAndPlace_13 : decode bX_checkKindAndPlace 13 = .ok (.dup, 1) := by decide +kernel
theorem dX_checkKindAndPlace_14 : decode bX_checkKindAndPlace 14 = .ok (.ldc 195, 2) := by decide +kernel
theorem dX_checkKindAndPlace_16 : decode bX_checkKindAndPlace 16 = .ok (.invokespecial 96, 3) := by decide +kernel
theorem dX_checkKindAndPlace_19 : decode bX_checkKindAndPlace 19 = .ok (.athrow, 1) := by decide +kernel
theorem dX_checkKindAndPlace_4 : decode bX_checkKindAndPlace 4 = .ok (.iload_n 1, 1) := by decide +kernel
theorem dX_checkKindAndPlace_5 : decode bX_checkKindAndPlace 5 = .ok (.bipush 8, 2) := by decide +kernel
theorem dX_checkKindAndPlace_7 : decode bX_checkKindAndPlace 7 = .ok (.if_icmp .lt 13, 3) := by decide +kernel
theorem dX_checkKindAndPlace_20 : decode bX_checkKindAndPlace 20 = .ok (.iload_n 2, 1) := by decide +kernel
theorem dX_checkKindAndPlace_21 : decode bX_checkKindAndPlace 21 = .ok (.ifCond .lt 10, 3) := by decide +kernel
theorem dX_checkKindAndPlace_31 : decode bX_checkKindAndPlace 31 = .ok (.new 92, 3) := by decide +kernel
theorem dX_checkKindAndPlace_34 : decode bX_checkKindAndPlace 34 = .ok (.dup, 1) := by decide +kernel
theorem dX_checkKindAndPlace_35 : decode bX_checkKindAndPlace 35 = .ok (.ldc 197, 2) := by decide +kernel
theorem dX_checkKindAndPlace_37 : decode bX_checkKindAndPlace 37 = .ok (.invokespecial 96, 3) := by decide +kernel
theorem dX_checkKindAndPlace_40 : decode bX_checkKindAndPlace 40 = .ok (.athrow, 1) := by decide +kernel
theorem dX_checkKindAndPlace_24 : decode bX_checkKindAndPlace 24 = .ok (.iload_n 2, 1) := by decide +kernel
theorem dX_checkKindAndPlace_25 : decode bX_checkKindAndPlace 25 = .ok (.sipush 200, 3) := by decide +kernel
theorem dX_checkKindAndPlace_28 : decode bX_checkKindAndPlace 28 = .ok (.if_icmp .lt 13, 3) := by decide +kernel
theorem dX_checkKindAndPlace_41 : decode bX_checkKindAndPlace 41 = .ok (.iload_n 1, 1) := by decide +kernel
theorem dX_checkKindAndPlace_42 : decode bX_checkKindAndPlace 42 = .ok (.iconst 1, 1) := by decide +kernel
theorem dX_checkKindAndPlace_43 : decode bX_checkKindAndPlace 43 = .ok (.if_icmp .eq 8, 3) := by decide +kernel
theorem dX_checkKindAndPlace_51 : decode bX_checkKindAndPlace 51 = .ok (.iload_n 0, 1) := by decide +kernel
theorem dX_checkKindAndPlace_52 : decode bX_checkKindAndPlace 52 = .ok (.invokestatic 150, 3) := by decide +kernel
theorem dX_isBag_0 : decode bX_isBag 0 = .ok (.iload_n 0, 1) := by decide +kernel
theorem dX_isBag_1 : decode bX_isBag 1 = .ok (.bipush 100, 2) := by decide +kernel
theorem dX_isBag_3 : decode bX_isBag 3 = .ok (.if_icmp .lt 14, 3) := by decide +kernel
theorem dX_isBag_17 : decode bX_isBag 17 = .ok (.iconst 0, 1) := by decide +kernel
theorem dX_isBag_18 : decode bX_isBag 18 = .ok (.ireturn, 1) := by decide +kernel
theorem dX_isBag_6 : decode bX_isBag 6 = .ok (.iload_n 0, 1) := by decide +kernel
theorem dX_isBag_7 : decode bX_isBag 7 = .ok (.sipush 200, 3) := by decide +kernel
theorem dX_isBag_10 : decode bX_isBag 10 = .ok (.if_icmp .ge 7, 3) := by decide +kernel
theorem dX_isBag_13 : decode bX_isBag 13 = .ok (.iconst 1, 1) := by decide +kernel
theorem dX_isBag_14 : decode bX_isBag 14 = .ok (.goto 4, 3) := by decide +kernel
theorem dX_checkKindAndPlace_55 : decode bX_checkKindAndPlace 55 = .ok (.ifCond .ne 10, 3) := by decide +kernel
theorem dX_checkKindAndPlace_65 : decode bX_checkKindAndPlace 65 = .ok (.new 92, 3) := by decide +kernel
theorem dX_checkKindAndPlace_68 : decode bX_checkKindAndPlace 68 = .ok (.dup, 1) := by decide +kernel
theorem dX_checkKindAndPlace_69 : decode bX_checkKindAndPlace 69 = .ok (.ldc 199, 2) := by decide +kernel
theorem dX_checkKindAndPlace_71 : decode bX_checkKindAndPlace 71 = .ok (.invokespecial 96, 3) := by decide +kernel
theorem dX_checkKindAndPlace_74 : decode bX_checkKindAndPlace 74 = .ok (.athrow, 1) := by decide +kernel
theorem dX_checkKindAndPlace_58 : decode bX_checkKindAndPlace 58 = .ok (.iload_n 2, 1) := by decide +kernel
theorem dX_checkKindAndPlace_59 : decode bX_checkKindAndPlace 59 = .ok (.invokestatic 150, 3) := by decide +kernel
theorem dX_checkKindAndPlace_62 : decode bX_checkKindAndPlace 62 = .ok (.ifCond .ne 13, 3) := by decide +kernel
theorem dX_checkKindAndPlace_75 : decode bX_checkKindAndPlace 75 = .ok (.return_, 1) := by decide +kernel
theorem dX_checkKindAndPlace_46 : decode bX_checkKindAndPlace 46 = .ok (.iload_n 1, 1) := by decide +kernel
theorem dX_checkKindAndPlace_47 : decode bX_checkKindAndPlace 47 = .ok (.iconst 2, 1) := by decide +kernel
theorem dX_checkKindAndPlace_48 : decode bX_checkKindAndPlace 48 = .ok (.if_icmp .ne 27, 3) := by decide +kernel
theorem dX_event_16 : decode bX_event 16 = .ok (.lload 5, 2) := by decide +kernel
theorem dX_event_18 : decode bX_event 18 = .ok (.invokestatic 72, 3) := by decide +kernel
theorem dX_checkClock_0 : decode bX_checkClock 0 = .ok (.lload_n 0, 1) := by decide +kernel
theorem dX_checkClock_1 : decode bX_checkClock 1 = .ok (.ldc2_w 201, 3) := by decide +kernel
theorem dX_checkClock_4 : decode bX_checkClock 4 = .ok (.lcmp, 1) := by decide +kernel
theorem dX_checkClock_5 : decode bX_checkClock 5 = .ok (.ifCond .lt 11, 3) := by decide +kernel
theorem dX_checkClock_16 : decode bX_checkClock 16 = .ok (.new 92, 3) := by decide +kernel
theorem dX_checkClock_19 : decode bX_checkClock 19 = .ok (.dup, 1) := by decide +kernel
theorem dX_checkClock_20 : decode bX_checkClock 20 = .ok (.ldc 205, 2) := by decide +kernel
theorem dX_checkClock_22 : decode bX_checkClock 22 = .ok (.invokespecial 96, 3) := by decide +kernel
theorem dX_checkClock_25 : decode bX_checkClock 25 = .ok (.athrow, 1) := by decide +kernel
theorem dX_checkClock_8 : decode bX_checkClock 8 = .ok (.lload_n 0, 1) := by decide +kernel
theorem dX_checkClock_9 : decode bX_checkClock 9 = .ok (.ldc2_w 203, 3) := by decide +kernel
theorem dX_checkClock_12 : decode bX_checkClock 12 = .ok (.lcmp, 1) := by decide +kernel
theorem dX_checkClock_13 : decode bX_checkClock 13 = .ok (.ifCond .le 13, 3) := by decide +kernel
theorem dX_checkClock_26 : decode bX_checkClock 26 = .ok (.return_, 1) := by decide +kernel
theorem dX_event_21 : decode bX_event 21 = .ok (.aload_n 0, 1) := by decide +kernel
theorem dX_event_22 : decode bX_event 22 = .ok (.getfield 12, 3) := by decide +kernel
theorem dX_event_25 : decode bX_event 25 = .ok (.iload_n 1, 1) := by decide +kernel
theorem dX_event_26 : decode bX_event 26 = .ok (.iload_n 2, 1) := by decide +kernel
theorem dX_event_27 : decode bX_event 27 = .ok (.iload_n 3, 1) := by decide +kernel
theorem dX_event_28 : decode bX_event 28 = .ok (.iload 4, 2) := by decide +kernel
theorem dX_event_30 : decode bX_event 30 = .ok (.lload 5, 2) := by decide +kernel
theorem dX_event_32 : decode bX_event 32 = .ok (.invokevirtual 76, 3) := by decide +kernel
theorem dX_event_35 : decode bX_event 35 = .ok (.ifCond .eq 5, 3) := by decide +kernel
theorem dX_event_40 : decode bX_event 40 = .ok (.aload_n 0, 1) := by decide +kernel
theorem dX_event_41 : decode bX_event 41 = .ok (.getfield 12, 3) := by decide +kernel
theorem dX_event_44 : decode bX_event 44 = .ok (.getfield 80, 3) := by decide +kernel
theorem dX_event_47 : decode bX_event 47 = .ok (.sipush 300, 3) := by decide +kernel
theorem dX_event_50 : decode bX_event 50 = .ok (.if_icmp .lt 13, 3) := by decide +kernel
theorem dX_event_63 : decode bX_event 63 = .ok (.aload_n 0, 1) := by decide +kernel
theorem dX_event_64 : decode bX_event 64 = .ok (.iconst 0, 1) := by decide +kernel
theorem dX_event_65 : decode bX_event 65 = .ok (.putfield 50, 3) := by decide +kernel
theorem dX_event_68 : decode bX_event 68 = .ok (.aload_n 0, 1) := by decide +kernel
theorem dX_event_69 : decode bX_event 69 = .ok (.getfield 12, 3) := by decide +kernel
theorem dX_event_72 : decode bX_event 72 = .ok (.iload_n 1, 1) := by decide +kernel
theorem dX_event_73 : decode bX_event 73 = .ok (.iload_n 2, 1) := by decide +kernel
theorem dX_event_74 : decode bX_event 74 = .ok (.iload_n 3, 1) := by decide +kernel
theorem dX_event_75 : decode bX_event 75 = .ok (.iload 4, 2) := by decide +kernel
theorem dX_event_77 : decode bX_event 77 = .ok (.lload 5, 2) := by decide +kernel
theorem dX_event_79 : decode bX_event 79 = .ok (.invokevirtual 85, 3) := by decide +kernel
theorem dX_event_82 : decode bX_event 82 = .ok (.ireturn, 1) := by decide +kernel
theorem dX_event_53 : decode bX_event 53 = .ok (.new 54, 3) := by decide +kernel
theorem dX_event_56 : decode bX_event 56 = .ok (.dup, 1) := by decide +kernel
theorem dX_event_57 : decode bX_event 57 = .ok (.ldc 83, 2) := by decide +kernel
theorem dX_event_59 : decode bX_event 59 = .ok (.invokespecial 58, 3) := by decide +kernel
theorem dX_event_62 : decode bX_event 62 = .ok (.athrow, 1) := by decide +kernel
theorem dX_event_38 : decode bX_event 38 = .ok (.iconst 0, 1) := by decide +kernel
theorem dX_event_39 : decode bX_event 39 = .ok (.ireturn, 1) := by decide +kernel
theorem dX_need_0 : decode bX_need 0 = .ok (.aload_n 0, 1) := by decide +kernel
theorem dX_need_1 : decode bX_need 1 = .ok (.iload_n 1, 1) := by decide +kernel
theorem dX_need_2 : decode bX_need 2 = .ok (.invokevirtual 89, 3) := by decide +kernel
theorem dX_checkEvent_0 : decode bX_checkEvent 0 = .ok (.iload_n 1, 1) := by decide +kernel
theorem dX_checkEvent_1 : decode bX_checkEvent 1 = .ok (.iconst 1, 1) := by decide +kernel
theorem dX_checkEvent_2 : decode bX_checkEvent 2 = .ok (.if_icmp .lt 14, 3) := by decide +kernel
theorem dX_checkEvent_16 : decode bX_checkEvent 16 = .ok (.new 153, 3) := by decide +kernel
theorem dX_checkEvent_19 : decode bX_checkEvent 19 = .ok (.dup, 1) := by decide +kernel
theorem dX_checkEvent_20 : decode bX_checkEvent 20 = .ok (.ldc 186, 2) := by decide +kernel
theorem dX_checkEvent_22 : decode bX_checkEvent 22 = .ok (.invokespecial 157, 3) := by decide +kernel
theorem dX_checkEvent_25 : decode bX_checkEvent 25 = .ok (.athrow, 1) := by decide +kernel
theorem dX_checkEvent_5 : decode bX_checkEvent 5 = .ok (.iload_n 1, 1) := by decide +kernel
theorem dX_checkEvent_6 : decode bX_checkEvent 6 = .ok (.aload_n 0, 1) := by decide +kernel
theorem dX_checkEvent_7 : decode bX_checkEvent 7 = .ok (.getfield 12, 3) := by decide +kernel
theorem dX_checkEvent_10 : decode bX_checkEvent 10 = .ok (.getfield 80, 3) := by decide +kernel
theorem dX_checkEvent_13 : decode bX_checkEvent 13 = .ok (.if_icmp .le 13, 3) := by decide +kernel
theorem dX_checkEvent_26 : decode bX_checkEvent 26 = .ok (.return_, 1) := by decide +kernel
theorem dX_need_5 : decode bX_need 5 = .ok (.aload_n 0, 1) := by decide +kernel
theorem dX_need_6 : decode bX_need 6 = .ok (.iload_n 2, 1) := by decide +kernel
theorem dX_need_7 : decode bX_need 7 = .ok (.invokevirtual 89, 3) := by decide +kernel
theorem dX_need_10 : decode bX_need 10 = .ok (.iload_n 1, 1) := by decide +kernel
theorem dX_need_11 : decode bX_need 11 = .ok (.iload_n 2, 1) := by decide +kernel
theorem dX_need_12 : decode bX_need 12 = .ok (.if_icmp .ne 13, 3) := by decide +kernel
theorem dX_need_25 : decode bX_need 25 = .ok (.aload_n 0, 1) := by decide +kernel
theorem dX_need_26 : decode bX_need 26 = .ok (.getfield 21, 3) := by decide +kernel
theorem dX_need_29 : decode bX_need 29 = .ok (.getfield 97, 3) := by decide +kernel
theorem dX_need_32 : decode bX_need 32 = .ok (.sipush 300, 3) := by decide +kernel
theorem dX_need_35 : decode bX_need 35 = .ok (.if_icmp .lt 13, 3) := by decide +kernel
theorem dX_need_48 : decode bX_need 48 = .ok (.aload_n 0, 1) := by decide +kernel
theorem dX_need_49 : decode bX_need 49 = .ok (.iconst 0, 1) := by decide +kernel
theorem dX_need_50 : decode bX_need 50 = .ok (.putfield 50, 3) := by decide +kernel
theorem dX_need_53 : decode bX_need 53 = .ok (.aload_n 0, 1) := by decide +kernel
theorem dX_need_54 : decode bX_need 54 = .ok (.getfield 21, 3) := by decide +kernel
theorem dX_need_57 : decode bX_need 57 = .ok (.iload_n 1, 1) := by decide +kernel
theorem dX_need_58 : decode bX_need 58 = .ok (.iload_n 2, 1) := by decide +kernel
theorem dX_need_59 : decode bX_need 59 = .ok (.invokevirtual 100, 3) := by decide +kernel
theorem dX_need_62 : decode bX_need 62 = .ok (.ireturn, 1) := by decide +kernel
theorem dX_need_38 : decode bX_need 38 = .ok (.new 54, 3) := by decide +kernel
theorem dX_need_41 : decode bX_need 41 = .ok (.dup, 1) := by decide +kernel
theorem dX_need_42 : decode bX_need 42 = .ok (.ldc 98, 2) := by decide +kernel
theorem dX_need_44 : decode bX_need 44 = .ok (.invokespecial 58, 3) := by decide +kernel
theorem dX_need_47 : decode bX_need 47 = .ok (.athrow, 1) := by decide +kernel
theorem dX_need_15 : decode bX_need 15 = .ok (.new 92, 3) := by decide +kernel
theorem dX_need_18 : decode bX_need 18 = .ok (.dup, 1) := by decide +kernel
theorem dX_need_19 : decode bX_need 19 = .ok (.ldc 94, 2) := by decide +kernel
theorem dX_need_21 : decode bX_need 21 = .ok (.invokespecial 96, 3) := by decide +kernel
theorem dX_need_24 : decode bX_need 24 = .ok (.athrow, 1) := by decide +kernel
theorem dX_settle_0 : decode bX_settle 0 = .ok (.aload_n 0, 1) := by decide +kernel
theorem dX_settle_1 : decode bX_settle 1 = .ok (.getfield 28, 3) := by decide +kernel
theorem dX_settle_4 : decode bX_settle 4 = .ok (.aload_n 0, 1) := by decide +kernel
theorem dX_settle_5 : decode bX_settle 5 = .ok (.getfield 46, 3) := by decide +kernel
theorem dX_settle_8 : decode bX_settle 8 = .ok (.aload_n 0, 1) := by decide +kernel
theorem dX_settle_9 : decode bX_settle 9 = .ok (.getfield 12, 3) := by decide +kernel
theorem dX_settle_12 : decode bX_settle 12 = .ok (.aload_n 0, 1) := by decide +kernel
theorem dX_settle_13 : decode bX_settle 13 = .ok (.getfield 21, 3) := by decide +kernel
theorem dX_settle_16 : decode bX_settle 16 = .ok (.invokevirtual 103, 3) := by decide +kernel
theorem dX_settle_19 : decode bX_settle 19 = .ok (.aload_n 0, 1) := by decide +kernel
theorem dX_settle_20 : decode bX_settle 20 = .ok (.aload_n 0, 1) := by decide +kernel
theorem dX_settle_21 : decode bX_settle 21 = .ok (.getfield 28, 3) := by decide +kernel
theorem dX_settle_24 : decode bX_settle 24 = .ok (.aload_n 0, 1) := by decide +kernel
theorem dX_settle_25 : decode bX_settle 25 = .ok (.getfield 46, 3) := by decide +kernel
theorem dX_settle_28 : decode bX_settle 28 = .ok (.invokevirtual 107, 3) := by decide +kernel
theorem dX_settle_31 : decode bX_settle 31 = .ok (.putfield 50, 3) := by decide +kernel
theorem dX_settle_34 : decode bX_settle 34 = .ok (.aload_n 0, 1) := by decide +kernel
theorem dX_settle_35 : decode bX_settle 35 = .ok (.getfield 50, 3) := by decide +kernel
theorem dX_settle_38 : decode bX_settle 38 = .ok (.ifCond .ne 30, 3) := by decide +kernel
theorem dX_settle_68 : decode bX_settle 68 = .ok (.aload_n 0, 1) := by decide +kernel
theorem dX_settle_69 : decode bX_settle 69 = .ok (.getfield 35, 3) := by decide +kernel
theorem dX_settle_72 : decode bX_settle 72 = .ok (.iconst 0, 1) := by decide +kernel
theorem dX_settle_73 : decode bX_settle 73 = .ok (.putfield 119, 3) := by decide +kernel
theorem dX_settle_76 : decode bX_settle 76 = .ok (.aload_n 0, 1) := by decide +kernel
theorem dX_settle_77 : decode bX_settle 77 = .ok (.getfield 28, 3) := by decide +kernel
theorem dX_settle_80 : decode bX_settle 80 = .ok (.aload_n 0, 1) := by decide +kernel
theorem dX_settle_81 : decode bX_settle 81 = .ok (.getfield 46, 3) := by decide +kernel
theorem dX_settle_84 : decode bX_settle 84 = .ok (.invokevirtual 122, 3) := by decide +kernel
theorem dX_settle_87 : decode bX_settle 87 = .ok (.aload_n 0, 1) := by decide +kernel
theorem dX_settle_88 : decode bX_settle 88 = .ok (.getfield 42, 3) := by decide +kernel
theorem dX_settle_91 : decode bX_settle 91 = .ok (.aload_n 0, 1) := by decide +kernel
theorem dX_settle_92 : decode bX_settle 92 = .ok (.getfield 12, 3) := by decide +kernel
theorem dX_settle_95 : decode bX_settle 95 = .ok (.aload_n 0, 1) := by decide +kernel
theorem dX_settle_96 : decode bX_settle 96 = .ok (.getfield 28, 3) := by decide +kernel
theorem dX_settle_99 : decode bX_settle 99 = .ok (.getfield 125, 3) := by decide +kernel
theorem dX_settle_102 : decode bX_settle 102 = .ok (.invokevirtual 129, 3) := by decide +kernel
theorem dX_settle_105 : decode bX_settle 105 = .ok (.iconst 1, 1) := by decide +kernel
theorem dX_settle_106 : decode bX_settle 106 = .ok (.ireturn, 1) := by decide +kernel
theorem dX_settle_41 : decode bX_settle 41 = .ok (.aload_n 0, 1) := by decide +kernel
theorem dX_settle_42 : decode bX_settle 42 = .ok (.getfield 35, 3) := by decide +kernel
theorem dX_settle_45 : decode bX_settle 45 = .ok (.aload_n 0, 1) := by decide +kernel
theorem dX_settle_46 : decode bX_settle 46 = .ok (.getfield 46, 3) := by decide +kernel
theorem dX_settle_49 : decode bX_settle 49 = .ok (.aload_n 0, 1) := by decide +kernel
theorem dX_settle_50 : decode bX_settle 50 = .ok (.getfield 28, 3) := by decide +kernel
theorem dX_settle_53 : decode bX_settle 53 = .ok (.getfield 111, 3) := by decide +kernel
theorem dX_settle_56 : decode bX_settle 56 = .ok (.invokevirtual 115, 3) := by decide +kernel
theorem dX_settle_59 : decode bX_settle 59 = .ok (.aload_n 0, 1) := by decide +kernel
theorem dX_settle_60 : decode bX_settle 60 = .ok (.getfield 35, 3) := by decide +kernel
theorem dX_settle_63 : decode bX_settle 63 = .ok (.getfield 119, 3) := by decide +kernel
theorem dX_settle_66 : decode bX_settle 66 = .ok (.ineg, 1) := by decide +kernel
theorem dX_settle_67 : decode bX_settle 67 = .ok (.ireturn, 1) := by decide +kernel
theorem dX_ring_0 : decode bX_ring 0 = .ok (.iload_n 1, 1) := by decide +kernel
theorem dX_ring_1 : decode bX_ring 1 = .ok (.ifCond .lt 14, 3) := by decide +kernel
theorem dX_ring_15 : decode bX_ring 15 = .ok (.iconst (-1), 1) := by decide +kernel
theorem dX_ring_16 : decode bX_ring 16 = .ok (.ireturn, 1) := by decide +kernel
theorem dX_ring_4 : decode bX_ring 4 = .ok (.iload_n 1, 1) := by decide +kernel
theorem dX_ring_5 : decode bX_ring 5 = .ok (.aload_n 0, 1) := by decide +kernel
theorem dX_ring_6 : decode bX_ring 6 = .ok (.getfield 35, 3) := by decide +kernel
theorem dX_ring_9 : decode bX_ring 9 = .ok (.getfield 119, 3) := by decide +kernel
theorem dX_ring_12 : decode bX_ring 12 = .ok (.if_icmp .lt 5, 3) := by decide +kernel
theorem dX_ring_17 : decode bX_ring 17 = .ok (.aload_n 0, 1) := by decide +kernel
theorem dX_ring_18 : decode bX_ring 18 = .ok (.getfield 35, 3) := by decide +kernel
theorem dX_ring_21 : decode bX_ring 21 = .ok (.getfield 133, 3) := by decide +kernel
theorem dX_ring_24 : decode bX_ring 24 = .ok (.iload_n 1, 1) := by decide +kernel
theorem dX_ring_25 : decode bX_ring 25 = .ok (.iaload, 1) := by decide +kernel
theorem dX_ring_26 : decode bX_ring 26 = .ok (.ireturn, 1) := by decide +kernel
theorem dX_offset_0 : decode bX_offset 0 = .ok (.aload_n 0, 1) := by decide +kernel
theorem dX_offset_1 : decode bX_offset 1 = .ok (.iload_n 1, 1) := by decide +kernel
theorem dX_offset_2 : decode bX_offset 2 = .ok (.invokevirtual 61, 3) := by decide +kernel
theorem dX_offset_5 : decode bX_offset 5 = .ok (.aload_n 0, 1) := by decide +kernel
theorem dX_offset_6 : decode bX_offset 6 = .ok (.invokevirtual 137, 3) := by decide +kernel
theorem dX_checkSettled_0 : decode bX_checkSettled 0 = .ok (.aload_n 0, 1) := by decide +kernel
theorem dX_checkSettled_1 : decode bX_checkSettled 1 = .ok (.getfield 50, 3) := by decide +kernel
theorem dX_checkSettled_4 : decode bX_checkSettled 4 = .ok (.ifCond .ne 13, 3) := by decide +kernel
theorem dX_checkSettled_17 : decode bX_checkSettled 17 = .ok (.return_, 1) := by decide +kernel
theorem dX_checkSettled_7 : decode bX_checkSettled 7 = .ok (.new 188, 3) := by decide +kernel
theorem dX_checkSettled_10 : decode bX_checkSettled 10 = .ok (.dup, 1) := by decide +kernel
theorem dX_checkSettled_11 : decode bX_checkSettled 11 = .ok (.ldc 190, 2) := by decide +kernel
theorem dX_checkSettled_13 : decode bX_checkSettled 13 = .ok (.invokespecial 192, 3) := by decide +kernel
theorem dX_checkSettled_16 : decode bX_checkSettled 16 = .ok (.athrow, 1) := by decide +kernel
theorem dX_offset_9 : decode bX_offset 9 = .ok (.aload_n 0, 1) := by decide +kernel
theorem dX_offset_10 : decode bX_offset 10 = .ok (.getfield 28, 3) := by decide +kernel
theorem dX_offset_13 : decode bX_offset 13 = .ok (.getfield 125, 3) := by decide +kernel
theorem dX_offset_16 : decode bX_offset 16 = .ok (.iload_n 1, 1) := by decide +kernel
theorem dX_offset_17 : decode bX_offset 17 = .ok (.laload, 1) := by decide +kernel
theorem dX_offset_18 : decode bX_offset 18 = .ok (.lreturn, 1) := by decide +kernel
theorem dX_bound_0 : decode bX_bound 0 = .ok (.aload_n 0, 1) := by decide +kernel
theorem dX_bound_1 : decode bX_bound 1 = .ok (.iload_n 1, 1) := by decide +kernel
theorem dX_bound_2 : decode bX_bound 2 = .ok (.invokevirtual 61, 3) := by decide +kernel
theorem dX_bound_5 : decode bX_bound 5 = .ok (.aload_n 0, 1) := by decide +kernel
theorem dX_bound_6 : decode bX_bound 6 = .ok (.iload_n 2, 1) := by decide +kernel
theorem dX_bound_7 : decode bX_bound 7 = .ok (.invokevirtual 61, 3) := by decide +kernel
theorem dX_bound_10 : decode bX_bound 10 = .ok (.aload_n 0, 1) := by decide +kernel
theorem dX_bound_11 : decode bX_bound 11 = .ok (.invokevirtual 137, 3) := by decide +kernel
theorem dX_bound_14 : decode bX_bound 14 = .ok (.aload_n 0, 1) := by decide +kernel
theorem dX_bound_15 : decode bX_bound 15 = .ok (.getfield 28, 3) := by decide +kernel
theorem dX_bound_18 : decode bX_bound 18 = .ok (.getfield 140, 3) := by decide +kernel
theorem dX_bound_21 : decode bX_bound 21 = .ok (.iload_n 1, 1) := by decide +kernel
theorem dX_bound_22 : decode bX_bound 22 = .ok (.aaload, 1) := by decide +kernel
theorem dX_bound_23 : decode bX_bound 23 = .ok (.iload_n 2, 1) := by decide +kernel
theorem dX_bound_24 : decode bX_bound 24 = .ok (.laload, 1) := by decide +kernel
theorem dX_bound_25 : decode bX_bound 25 = .ok (.lreturn, 1) := by decide +kernel
theorem dX_corrected_0 : decode bX_corrected 0 = .ok (.aload_n 0, 1) := by decide +kernel
theorem dX_corrected_1 : decode bX_corrected 1 = .ok (.iload_n 1, 1) := by decide +kernel
theorem dX_corrected_2 : decode bX_corrected 2 = .ok (.invokevirtual 89, 3) := by decide +kernel
theorem dX_corrected_5 : decode bX_corrected 5 = .ok (.aload_n 0, 1) := by decide +kernel
theorem dX_corrected_6 : decode bX_corrected 6 = .ok (.invokevirtual 137, 3) := by decide +kernel
theorem dX_corrected_9 : decode bX_corrected 9 = .ok (.aload_n 0, 1) := by decide +kernel
theorem dX_corrected_10 : decode bX_corrected 10 = .ok (.getfield 42, 3) := by decide +kernel
theorem dX_corrected_13 : decode bX_corrected 13 = .ok (.getfield 143, 3) := by decide +kernel
theorem dX_corrected_16 : decode bX_corrected 16 = .ok (.iload_n 1, 1) := by decide +kernel
theorem dX_corrected_17 : decode bX_corrected 17 = .ok (.laload, 1) := by decide +kernel
theorem dX_corrected_18 : decode bX_corrected 18 = .ok (.lreturn, 1) := by decide +kernel
theorem dX_ordered_0 : decode bX_ordered 0 = .ok (.iload_n 1, 1) := by decide +kernel
theorem dX_ordered_1 : decode bX_ordered 1 = .ok (.invokestatic 65, 3) := by decide +kernel
theorem dX_ordered_4 : decode bX_ordered 4 = .ok (.aload_n 0, 1) := by decide +kernel
theorem dX_ordered_5 : decode bX_ordered 5 = .ok (.invokevirtual 137, 3) := by decide +kernel
theorem dX_ordered_8 : decode bX_ordered 8 = .ok (.aload_n 0, 1) := by decide +kernel
theorem dX_ordered_9 : decode bX_ordered 9 = .ok (.getfield 42, 3) := by decide +kernel
theorem dX_ordered_12 : decode bX_ordered 12 = .ok (.aload_n 0, 1) := by decide +kernel
theorem dX_ordered_13 : decode bX_ordered 13 = .ok (.getfield 12, 3) := by decide +kernel
theorem dX_ordered_16 : decode bX_ordered 16 = .ok (.iload_n 1, 1) := by decide +kernel
theorem dX_ordered_17 : decode bX_ordered 17 = .ok (.iload_n 2, 1) := by decide +kernel
theorem dX_ordered_18 : decode bX_ordered 18 = .ok (.invokevirtual 146, 3) := by decide +kernel
theorem dX_ordered_21 : decode bX_ordered 21 = .ok (.ireturn, 1) := by decide +kernel
theorem dX_implied_0 : decode bX_implied 0 = .ok (.iload_n 1, 1) := by decide +kernel
theorem dX_implied_1 : decode bX_implied 1 = .ok (.invokestatic 150, 3) := by decide +kernel
theorem dX_implied_4 : decode bX_implied 4 = .ok (.ifCond .ne 13, 3) := by decide +kernel
theorem dX_implied_17 : decode bX_implied 17 = .ok (.iload_n 2, 1) := by decide +kernel
theorem dX_implied_18 : decode bX_implied 18 = .ok (.ifCond .lt 9, 3) := by decide +kernel
theorem dX_implied_27 : decode bX_implied 27 = .ok (.new 153, 3) := by decide +kernel
theorem dX_implied_30 : decode bX_implied 30 = .ok (.dup, 1) := by decide +kernel
theorem dX_implied_31 : decode bX_implied 31 = .ok (.ldc 158, 2) := by decide +kernel
theorem dX_implied_33 : decode bX_implied 33 = .ok (.invokespecial 157, 3) := by decide +kernel
theorem dX_implied_36 : decode bX_implied 36 = .ok (.athrow, 1) := by decide +kernel
theorem dX_implied_21 : decode bX_implied 21 = .ok (.iload_n 2, 1) := by decide +kernel
theorem dX_implied_22 : decode bX_implied 22 = .ok (.bipush 100, 2) := by decide +kernel
theorem dX_implied_24 : decode bX_implied 24 = .ok (.if_icmp .lt 13, 3) := by decide +kernel
theorem dX_implied_37 : decode bX_implied 37 = .ok (.aload_n 0, 1) := by decide +kernel
theorem dX_implied_38 : decode bX_implied 38 = .ok (.invokevirtual 137, 3) := by decide +kernel
theorem dX_implied_41 : decode bX_implied 41 = .ok (.aload_n 0, 1) := by decide +kernel
theorem dX_implied_42 : decode bX_implied 42 = .ok (.getfield 42, 3) := by decide +kernel
theorem dX_implied_45 : decode bX_implied 45 = .ok (.aload_n 0, 1) := by decide +kernel
theorem dX_implied_46 : decode bX_implied 46 = .ok (.getfield 12, 3) := by decide +kernel
theorem dX_implied_49 : decode bX_implied 49 = .ok (.iload_n 1, 1) := by decide +kernel
theorem dX_implied_50 : decode bX_implied 50 = .ok (.iload_n 2, 1) := by decide +kernel
theorem dX_implied_51 : decode bX_implied 51 = .ok (.invokevirtual 160, 3) := by decide +kernel
theorem dX_implied_54 : decode bX_implied 54 = .ok (.ireturn, 1) := by decide +kernel
theorem dX_implied_7 : decode bX_implied 7 = .ok (.new 153, 3) := by decide +kernel
theorem dX_implied_10 : decode bX_implied 10 = .ok (.dup, 1) := by decide +kernel
theorem dX_implied_11 : decode bX_implied 11 = .ok (.ldc 155, 2) := by decide +kernel
theorem dX_implied_13 : decode bX_implied 13 = .ok (.invokespecial 157, 3) := by decide +kernel
theorem dX_implied_16 : decode bX_implied 16 = .ok (.athrow, 1) := by decide +kernel
theorem dX_correct_0 : decode bX_correct 0 = .ok (.aload_n 0, 1) := by decide +kernel
theorem dX_correct_1 : decode bX_correct 1 = .ok (.iload_n 1, 1) := by decide +kernel
theorem dX_correct_2 : decode bX_correct 2 = .ok (.invokevirtual 89, 3) := by decide +kernel
theorem dX_correct_5 : decode bX_correct 5 = .ok (.lload_n 2, 1) := by decide +kernel
theorem dX_correct_6 : decode bX_correct 6 = .ok (.invokestatic 72, 3) := by decide +kernel
theorem dX_correct_9 : decode bX_correct 9 = .ok (.aload_n 0, 1) := by decide +kernel
theorem dX_correct_10 : decode bX_correct 10 = .ok (.getfield 12, 3) := by decide +kernel
theorem dX_correct_13 : decode bX_correct 13 = .ok (.aload_n 0, 1) := by decide +kernel
theorem dX_correct_14 : decode bX_correct 14 = .ok (.getfield 12, 3) := by decide +kernel
theorem dX_correct_17 : decode bX_correct 17 = .ok (.getfield 163, 3) := by decide +kernel
theorem dX_correct_20 : decode bX_correct 20 = .ok (.iload_n 1, 1) := by decide +kernel
theorem dX_correct_21 : decode bX_correct 21 = .ok (.iaload, 1) := by decide +kernel
theorem dX_correct_22 : decode bX_correct 22 = .ok (.aload_n 0, 1) := by decide +kernel
theorem dX_correct_23 : decode bX_correct 23 = .ok (.getfield 12, 3) := by decide +kernel
theorem dX_correct_26 : decode bX_correct 26 = .ok (.getfield 166, 3) := by decide +kernel
theorem dX_correct_29 : decode bX_correct 29 = .ok (.iload_n 1, 1) := by decide +kernel
theorem dX_correct_30 : decode bX_correct 30 = .ok (.iaload, 1) := by decide +kernel
theorem dX_correct_31 : decode bX_correct 31 = .ok (.aload_n 0, 1) := by decide +kernel
theorem dX_correct_32 : decode bX_correct 32 = .ok (.getfield 12, 3) := by decide +kernel
theorem dX_correct_35 : decode bX_correct 35 = .ok (.getfield 169, 3) := by decide +kernel
theorem dX_correct_38 : decode bX_correct 38 = .ok (.iload_n 1, 1) := by decide +kernel
theorem dX_correct_39 : decode bX_correct 39 = .ok (.iaload, 1) := by decide +kernel
theorem dX_correct_40 : decode bX_correct 40 = .ok (.aload_n 0, 1) := by decide +kernel
theorem dX_correct_41 : decode bX_correct 41 = .ok (.getfield 12, 3) := by decide +kernel
theorem dX_correct_44 : decode bX_correct 44 = .ok (.getfield 172, 3) := by decide +kernel
theorem dX_correct_47 : decode bX_correct 47 = .ok (.iload_n 1, 1) := by decide +kernel
theorem dX_correct_48 : decode bX_correct 48 = .ok (.iaload, 1) := by decide +kernel
theorem dX_correct_49 : decode bX_correct 49 = .ok (.lload_n 2, 1) := by decide +kernel
theorem dX_correct_50 : decode bX_correct 50 = .ok (.invokevirtual 76, 3) := by decide +kernel
theorem dX_correct_53 : decode bX_correct 53 = .ok (.ifCond .eq 5, 3) := by decide +kernel
theorem dX_correct_58 : decode bX_correct 58 = .ok (.aload_n 0, 1) := by decide +kernel
theorem dX_correct_59 : decode bX_correct 59 = .ok (.iconst 0, 1) := by decide +kernel
theorem dX_correct_60 : decode bX_correct 60 = .ok (.putfield 50, 3) := by decide +kernel
theorem dX_correct_63 : decode bX_correct 63 = .ok (.aload_n 0, 1) := by decide +kernel
theorem dX_correct_64 : decode bX_correct 64 = .ok (.getfield 12, 3) := by decide +kernel
theorem dX_correct_67 : decode bX_correct 67 = .ok (.getfield 175, 3) := by decide +kernel
theorem dX_correct_70 : decode bX_correct 70 = .ok (.iload_n 1, 1) := by decide +kernel
theorem dX_correct_71 : decode bX_correct 71 = .ok (.lload_n 2, 1) := by decide +kernel
theorem dX_correct_72 : decode bX_correct 72 = .ok (.lastore, 1) := by decide +kernel
theorem dX_correct_73 : decode bX_correct 73 = .ok (.iconst 1, 1) := by decide +kernel
theorem dX_correct_74 : decode bX_correct 74 = .ok (.ireturn, 1) := by decide +kernel
theorem dX_correct_56 : decode bX_correct 56 = .ok (.iconst 0, 1) := by decide +kernel
theorem dX_correct_57 : decode bX_correct 57 = .ok (.ireturn, 1) := by decide +kernel
theorem dX_ask_0 : decode bX_ask 0 = .ok (.iload_n 1, 1) := by decide +kernel
theorem dX_ask_1 : decode bX_ask 1 = .ok (.tableswitch 95 0 3 #[31, 47, 63, 79], 31) := by decide +kernel
theorem dX_ask_32 : decode bX_ask 32 = .ok (.aload_n 0, 1) := by decide +kernel
theorem dX_ask_33 : decode bX_ask 33 = .ok (.getfield 12, 3) := by decide +kernel
theorem dX_ask_36 : decode bX_ask 36 = .ok (.aload_n 0, 1) := by decide +kernel
theorem dX_ask_37 : decode bX_ask 37 = .ok (.getfield 12, 3) := by decide +kernel
theorem dX_ask_40 : decode bX_ask 40 = .ok (.getfield 166, 3) := by decide +kernel
theorem dX_ask_43 : decode bX_ask 43 = .ok (.iload_n 2, 1) := by decide +kernel
theorem dX_ask_44 : decode bX_ask 44 = .ok (.invokevirtual 178, 3) := by decide +kernel
theorem dX_ask_47 : decode bX_ask 47 = .ok (.ireturn, 1) := by decide +kernel
theorem dX_ask_48 : decode bX_ask 48 = .ok (.aload_n 0, 1) := by decide +kernel
theorem dX_ask_49 : decode bX_ask 49 = .ok (.getfield 12, 3) := by decide +kernel
theorem dX_ask_52 : decode bX_ask 52 = .ok (.aload_n 0, 1) := by decide +kernel
theorem dX_ask_53 : decode bX_ask 53 = .ok (.getfield 12, 3) := by decide +kernel
theorem dX_ask_56 : decode bX_ask 56 = .ok (.getfield 172, 3) := by decide +kernel
theorem dX_ask_59 : decode bX_ask 59 = .ok (.iload_n 2, 1) := by decide +kernel
theorem dX_ask_60 : decode bX_ask 60 = .ok (.invokevirtual 178, 3) := by decide +kernel
theorem dX_ask_63 : decode bX_ask 63 = .ok (.ireturn, 1) := by decide +kernel
theorem dX_ask_64 : decode bX_ask 64 = .ok (.aload_n 0, 1) := by decide +kernel
theorem dX_ask_65 : decode bX_ask 65 = .ok (.getfield 12, 3) := by decide +kernel
theorem dX_ask_68 : decode bX_ask 68 = .ok (.aload_n 0, 1) := by decide +kernel
theorem dX_ask_69 : decode bX_ask 69 = .ok (.getfield 12, 3) := by decide +kernel
theorem dX_ask_72 : decode bX_ask 72 = .ok (.getfield 163, 3) := by decide +kernel
theorem dX_ask_75 : decode bX_ask 75 = .ok (.iload_n 2, 1) := by decide +kernel
theorem dX_ask_76 : decode bX_ask 76 = .ok (.invokevirtual 178, 3) := by decide +kernel
theorem dX_ask_79 : decode bX_ask 79 = .ok (.ireturn, 1) := by decide +kernel
theorem dX_ask_80 : decode bX_ask 80 = .ok (.aload_n 0, 1) := by decide +kernel
theorem dX_ask_81 : decode bX_ask 81 = .ok (.getfield 12, 3) := by decide +kernel
theorem dX_ask_84 : decode bX_ask 84 = .ok (.aload_n 0, 1) := by decide +kernel
theorem dX_ask_85 : decode bX_ask 85 = .ok (.getfield 12, 3) := by decide +kernel
theorem dX_ask_88 : decode bX_ask 88 = .ok (.getfield 169, 3) := by decide +kernel
theorem dX_ask_91 : decode bX_ask 91 = .ok (.iload_n 2, 1) := by decide +kernel
theorem dX_ask_92 : decode bX_ask 92 = .ok (.invokevirtual 178, 3) := by decide +kernel
theorem dX_ask_95 : decode bX_ask 95 = .ok (.ireturn, 1) := by decide +kernel
theorem dX_ask_96 : decode bX_ask 96 = .ok (.new 92, 3) := by decide +kernel
theorem dX_ask_99 : decode bX_ask 99 = .ok (.dup, 1) := by decide +kernel
theorem dX_ask_100 : decode bX_ask 100 = .ok (.ldc 182, 2) := by decide +kernel
theorem dX_ask_102 : decode bX_ask 102 = .ok (.invokespecial 96, 3) := by decide +kernel
theorem dX_ask_105 : decode bX_ask 105 = .ok (.athrow, 1) := by decide +kernel
theorem k_x77 : (.fieldLink RX 46 RX "sourceCount" "I" : Cond) ∈ TBL := TBL_in (by decide +kernel) (by decide +kernel)
theorem k_x78 : (.fieldLink RX 50 RX "settled" "Z" : Cond) ∈ TBL := TBL_in (by decide +kernel) (by decide +kernel)
theorem k_x79 : (.classLink RX 54 (x_ex 3) : Cond) ∈ TBL := TBL_in (by decide +kernel) (by decide +kernel)
theorem k_x80 : (.initialized (x_ex 3) : Cond) ∈ TBL := TBL_in (by decide +kernel) (by decide +kernel)
theorem k_xa81 : ∀ a ∈ vx_atS RX 58 (x_ex 3) x_up, a ∈ TBX := fun a h => TBX_in ((by decide +kernel : ∀ a ∈ vx_atS RX 58 (x_ex 3) x_up, a ∈ lw_tbl) a h) ((by decide +kernel : ∀ a ∈ vx_atS RX 58 (x_ex 3) x_up, (a.onTables && a.keepsFace) = true) a h)
theorem k_xo82 : ∀ w ∈ Cond.classLink RX 54 (x_ex 3) :: Cond.initialized (x_ex 3) :: vx_atS RX 58 (x_ex 3) x_up, vx_ot w = true := by decide +kernel
theorem k_xs83 : (RX, 56, "no room for a source") ∈ x_strs := by decide +kernel
theorem k_x84 : (.classLink RX 153 (x_ex 0) : Cond) ∈ TBL := TBL_in (by decide +kernel) (by decide +kernel)
theorem k_x85 : (.initialized (x_ex 0) : Cond) ∈ TBL := TBL_in (by decide +kernel) (by decide +kernel)
theorem k_xa86 : ∀ a ∈ vx_atS RX 157 (x_ex 0) x_up, a ∈ TBX := fun a h => TBX_in ((by decide +kernel : ∀ a ∈ vx_atS RX 157 (x_ex 0) x_up, a ∈ lw_tbl) a h) ((by decide +kernel : ∀ a ∈ vx_atS RX 157 (x_ex 0) x_up, (a.onTables && a.keepsFace) = true) a h)
theorem k_xo87 : ∀ w ∈ Cond.classLink RX 153 (x_ex 0) :: Cond.initialized (x_ex 0) :: vx_atS RX 157 (x_ex 0) x_up, vx_ot w = true := by decide +kernel
theorem k_xs88 : (RX, 184, "no such source") ∈ x_strs := by decide +kernel
theorem k_xs89 : (RX, 193, "no such item") ∈ x_strs := by decide +kernel
theorem k_x90 : (.classLink RX 92 (x_ex 1) : Cond) ∈ TBL := TBL_in (by decide +kernel) (by decide +kernel)
theorem k_x91 : (.initialized (x_ex 1) : Cond) ∈ TBL := TBL_in (by decide +kernel) (by decide +kernel)
theorem k_xa92 : ∀ a ∈ vx_atS RX 96 (x_ex 1) x_up, a ∈ TBX := fun a h => TBX_in ((by decide +kernel : ∀ a ∈ vx_atS RX 96 (x_ex 1) x_up, a ∈ lw_tbl) a h) ((by decide +kernel : ∀ a ∈ vx_atS RX 96 (x_ex 1) x_up, (a.onTables && a.keepsFace) = true) a h)
theorem k_xo93 : ∀ w ∈ Cond.classLink RX 92 (x_ex 1) :: Cond.initialized (x_ex 1) :: vx_atS RX 96 (x_ex 1) x_up, vx_ot w = true := by decide +kernel
theorem k_xs94 : (RX, 195, "kind out of range") ∈ x_strs := by decide +kernel
theorem k_xs95 : (RX, 197, "place out of range") ∈ x_strs := by decide +kernel
theorem k_xs96 : (RX, 199, "only an item that is no bag goes into or out of a bag") ∈ x_strs := by decide +kernel
theorem k_x97 : (.code yX_isBag bX_isBag 1 (some .boolean) : Cond) ∈ TBL := TBL_in (by decide +kernel) (by decide +kernel)
theorem k_x98 : (.initialized yX_isBag.cls : Cond) ∈ TBL := TBL_in (by decide +kernel) (by decide +kernel)
theorem k_x99 : (.methodLink RX 150 yX_isBag : Cond) ∈ TBL := TBL_in (by decide +kernel) (by decide +kernel)
theorem k_x100 : (.static yX_isBag : Cond) ∈ TBL := TBL_in (by decide +kernel) (by decide +kernel)
theorem k_x101 : (.constantLong RX 201 (-1000000000) : Cond) ∈ TBL := TBL_in (by decide +kernel) (by decide +kernel)
theorem k_xs102 : (RX, 205, "clock out of range") ∈ x_strs := by decide +kernel
theorem k_x103 : (.constantLong RX 203 1000000000 : Cond) ∈ TBL := TBL_in (by decide +kernel) (by decide +kernel)
theorem k_x104 : (.fieldLink RX 12 RX "events" "LEventOrder$Events;" : Cond) ∈ TBL := TBL_in (by decide +kernel) (by decide +kernel)
theorem k_x105 : (.fieldLink RX 80 REv "count" "I" : Cond) ∈ TBL := TBL_in (by decide +kernel) (by decide +kernel)
theorem k_x106 : (.code yEv_add bEv_add 7 (some .int) : Cond) ∈ TBL := TBL_in (by decide +kernel) (by decide +kernel)
theorem k_x107 : (.initialized yEv_add.cls : Cond) ∈ TBL := TBL_in (by decide +kernel) (by decide +kernel)
theorem k_x108 : (.methodLink RX 85 yEv_add : Cond) ∈ TBL := TBL_in (by decide +kernel) (by decide +kernel)
theorem k_x109 : (.instanceMethod yEv_add : Cond) ∈ TBL := TBL_in (by decide +kernel) (by decide +kernel)
theorem k_x110 : (.selects REv yEv_add yEv_add : Cond) ∈ TBL := TBL_in (by decide +kernel) (by decide +kernel)
theorem k_xs111 : (RX, 83, "no room for an event") ∈ x_strs := by decide +kernel
theorem k_x112 : (.code yEv_has bEv_has 8 (some .boolean) : Cond) ∈ TBL := TBL_in (by decide +kernel) (by decide +kernel)
theorem k_x113 : (.initialized yEv_has.cls : Cond) ∈ TBL := TBL_in (by decide +kernel) (by decide +kernel)
theorem k_x114 : (.methodLink RX 76 yEv_has : Cond) ∈ TBL := TBL_in (by decide +kernel) (by decide +kernel)
theorem k_x115 : (.instanceMethod yEv_has : Cond) ∈ TBL := TBL_in (by decide +kernel) (by decide +kernel)
theorem k_x116 : (.selects REv yEv_has yEv_has : Cond) ∈ TBL := TBL_in (by decide +kernel) (by decide +kernel)
theorem k_x117 : (.code yX_checkClock bX_checkClock 2 none : Cond) ∈ TBL := TBL_in (by decide +kernel) (by decide +kernel)
theorem k_x118 : (.initialized yX_checkClock.cls : Cond) ∈ TBL := TBL_in (by decide +kernel) (by decide +kernel)
theorem k_x119 : (.methodLink RX 72 yX_checkClock : Cond) ∈ TBL := TBL_in (by decide +kernel) (by decide +kernel)
theorem k_x120 : (.static yX_checkClock : Cond) ∈ TBL := TBL_in (by decide +kernel) (by decide +kernel)
theorem k_x121 : (.code yX_checkKindAndPlace bX_checkKindAndPlace 3 none : Cond) ∈ TBL := TBL_in (by decide +kernel) (by decide +kernel)
theorem k_x122 : (.initialized yX_checkKindAndPlace.cls : Cond) ∈ TBL := TBL_in (by decide +kernel) (by decide +kernel)
theorem k_x123 : (.methodLink RX 68 yX_checkKindAndPlace : Cond) ∈ TBL := TBL_in (by decide +kernel) (by decide +kernel)
theorem k_x124 : (.static yX_checkKindAndPlace : Cond) ∈ TBL := TBL_in (by decide +kernel) (by decide +kernel)
theorem k_x125 : (.code yX_checkItem bX_checkItem 1 none : Cond) ∈ TBL := TBL_in (by decide +kernel) (by decide +kernel)
theorem k_x126 : (.initialized yX_checkItem.cls : Cond) ∈ TBL := TBL_in (by decide +kernel) (by decide +kernel)
theorem k_x127 : (.methodLink RX 65 yX_checkItem : Cond) ∈ TBL := TBL_in (by decide +kernel) (by decide +kernel)
theorem k_x128 : (.static yX_checkItem : Cond) ∈ TBL := TBL_in (by decide +kernel) (by decide +kernel)
theorem k_x129 : (.code yX_checkSource bX_checkSource 2 none : Cond) ∈ TBL := TBL_in (by decide +kernel) (by decide +kernel)
theorem k_x130 : (.initialized yX_checkSource.cls : Cond) ∈ TBL := TBL_in (by decide +kernel) (by decide +kernel)
theorem k_x131 : (.methodLink RX 61 yX_checkSource : Cond) ∈ TBL := TBL_in (by decide +kernel) (by decide +kernel)
theorem k_x132 : (.instanceMethod yX_checkSource : Cond) ∈ TBL := TBL_in (by decide +kernel) (by decide +kernel)
theorem k_x133 : (.selects RX yX_checkSource yX_checkSource : Cond) ∈ TBL := TBL_in (by decide +kernel) (by decide +kernel)
theorem k_xs134 : (RX, 186, "no such event") ∈ x_strs := by decide +kernel
theorem k_x135 : (.fieldLink RX 21 RX "needs" "LEventOrder$Needs;" : Cond) ∈ TBL := TBL_in (by decide +kernel) (by decide +kernel)
theorem k_x136 : (.fieldLink RX 97 RNd "count" "I" : Cond) ∈ TBL := TBL_in (by decide +kernel) (by decide +kernel)
theorem k_x137 : (.code yNd_add bNd_add 3 (some .int) : Cond) ∈ TBL := TBL_in (by decide +kernel) (by decide +kernel)
theorem k_x138 : (.initialized yNd_add.cls : Cond) ∈ TBL := TBL_in (by decide +kernel) (by decide +kernel)
theorem k_x139 : (.methodLink RX 100 yNd_add : Cond) ∈ TBL := TBL_in (by decide +kernel) (by decide +kernel)
theorem k_x140 : (.instanceMethod yNd_add : Cond) ∈ TBL := TBL_in (by decide +kernel) (by decide +kernel)
theorem k_x141 : (.selects RNd yNd_add yNd_add : Cond) ∈ TBL := TBL_in (by decide +kernel) (by decide +kernel)
theorem k_xs142 : (RX, 98, "no room for a need") ∈ x_strs := by decide +kernel
theorem k_xs143 : (RX, 94, "an event cannot be before itself") ∈ x_strs := by decide +kernel
theorem k_x144 : (.code yX_checkEvent bX_checkEvent 2 none : Cond) ∈ TBL := TBL_in (by decide +kernel) (by decide +kernel)
theorem k_x145 : (.initialized yX_checkEvent.cls : Cond) ∈ TBL := TBL_in (by decide +kernel) (by decide +kernel)
theorem k_x146 : (.methodLink RX 89 yX_checkEvent : Cond) ∈ TBL := TBL_in (by decide +kernel) (by decide +kernel)
theorem k_x147 : (.instanceMethod yX_checkEvent : Cond) ∈ TBL := TBL_in (by decide +kernel) (by decide +kernel)
theorem k_x148 : (.selects RX yX_checkEvent yX_checkEvent : Cond) ∈ TBL := TBL_in (by decide +kernel) (by decide +kernel)
theorem k_x149 : (.fieldLink RX 28 RX "limits" "LEventOrder$Limits;" : Cond) ∈ TBL := TBL_in (by decide +kernel) (by decide +kernel)
theorem k_x150 : (.fieldLink RX 35 RX "told" "LEventOrder$Ring;" : Cond) ∈ TBL := TBL_in (by decide +kernel) (by decide +kernel)
theorem k_x151 : (.fieldLink RX 119 RRg "length" "I" : Cond) ∈ TBL := TBL_in (by decide +kernel) (by decide +kernel)
theorem k_x152 : (.fieldLink RX 42 RX "timeline" "LEventOrder$Timeline;" : Cond) ∈ TBL := TBL_in (by decide +kernel) (by decide +kernel)
theorem k_x153 : (.fieldLink RX 125 RLi "offsets" "[J" : Cond) ∈ TBL := TBL_in (by decide +kernel) (by decide +kernel)
theorem k_x154 : (.code yTl_lay bTl_lay 5 none : Cond) ∈ TBL := TBL_in (by decide +kernel) (by decide +kernel)
theorem k_x155 : (.initialized yTl_lay.cls : Cond) ∈ TBL := TBL_in (by decide +kernel) (by decide +kernel)
theorem k_x156 : (.methodLink RX 129 yTl_lay : Cond) ∈ TBL := TBL_in (by decide +kernel) (by decide +kernel)
theorem k_x157 : (.instanceMethod yTl_lay : Cond) ∈ TBL := TBL_in (by decide +kernel) (by decide +kernel)
theorem k_x158 : (.selects RTl yTl_lay yTl_lay : Cond) ∈ TBL := TBL_in (by decide +kernel) (by decide +kernel)
theorem k_x159 : (.code yLi_chooseOffsets bLi_chooseOffsets 8 none : Cond) ∈ TBL := TBL_in (by decide +kernel) (by decide +kernel)
theorem k_x160 : (.initialized yLi_chooseOffsets.cls : Cond) ∈ TBL := TBL_in (by decide +kernel) (by decide +kernel)
theorem k_x161 : (.methodLink RX 122 yLi_chooseOffsets : Cond) ∈ TBL := TBL_in (by decide +kernel) (by decide +kernel)
theorem k_x162 : (.instanceMethod yLi_chooseOffsets : Cond) ∈ TBL := TBL_in (by decide +kernel) (by decide +kernel)
theorem k_x163 : (.selects RLi yLi_chooseOffsets yLi_chooseOffsets : Cond) ∈ TBL := TBL_in (by decide +kernel) (by decide +kernel)
theorem k_x164 : (.fieldLink RX 111 RLi "weights" "[[J" : Cond) ∈ TBL := TBL_in (by decide +kernel) (by decide +kernel)
theorem k_x165 : (.code yRg_find bRg_find 6 none : Cond) ∈ TBL := TBL_in (by decide +kernel) (by decide +kernel)
theorem k_x166 : (.initialized yRg_find.cls : Cond) ∈ TBL := TBL_in (by decide +kernel) (by decide +kernel)
theorem k_x167 : (.methodLink RX 115 yRg_find : Cond) ∈ TBL := TBL_in (by decide +kernel) (by decide +kernel)
theorem k_x168 : (.instanceMethod yRg_find : Cond) ∈ TBL := TBL_in (by decide +kernel) (by decide +kernel)
theorem k_x169 : (.selects RRg yRg_find yRg_find : Cond) ∈ TBL := TBL_in (by decide +kernel) (by decide +kernel)
theorem k_x170 : (.code yLi_findBounds bLi_findBounds 4 (some .boolean) : Cond) ∈ TBL := TBL_in (by decide +kernel) (by decide +kernel)
theorem k_x171 : (.initialized yLi_findBounds.cls : Cond) ∈ TBL := TBL_in (by decide +kernel) (by decide +kernel)
theorem k_x172 : (.methodLink RX 107 yLi_findBounds : Cond) ∈ TBL := TBL_in (by decide +kernel) (by decide +kernel)
theorem k_x173 : (.instanceMethod yLi_findBounds : Cond) ∈ TBL := TBL_in (by decide +kernel) (by decide +kernel)
theorem k_x174 : (.selects RLi yLi_findBounds yLi_findBounds : Cond) ∈ TBL := TBL_in (by decide +kernel) (by decide +kernel)
theorem k_x175 : (.code yLi_weigh bLi_weigh 11 none : Cond) ∈ TBL := TBL_in (by decide +kernel) (by decide +kernel)
theorem k_x176 : (.initialized yLi_weigh.cls : Cond) ∈ TBL := TBL_in (by decide +kernel) (by decide +kernel)
theorem k_x177 : (.methodLink RX 103 yLi_weigh : Cond) ∈ TBL := TBL_in (by decide +kernel) (by decide +kernel)
theorem k_x178 : (.instanceMethod yLi_weigh : Cond) ∈ TBL := TBL_in (by decide +kernel) (by decide +kernel)
theorem k_x179 : (.selects RLi yLi_weigh yLi_weigh : Cond) ∈ TBL := TBL_in (by decide +kernel) (by decide +kernel)
theorem k_x180 : (.fieldLink RX 133 RRg "row" "[I" : Cond) ∈ TBL := TBL_in (by decide +kernel) (by decide +kernel)
theorem k_x181 : (.classLink RX 188 (x_ex 2) : Cond) ∈ TBL := TBL_in (by decide +kernel) (by decide +kernel)
theorem k_x182 : (.initialized (x_ex 2) : Cond) ∈ TBL := TBL_in (by decide +kernel) (by decide +kernel)
theorem k_xa183 : ∀ a ∈ vx_atS RX 192 (x_ex 2) x_up, a ∈ TBX := fun a h => TBX_in ((by decide +kernel : ∀ a ∈ vx_atS RX 192 (x_ex 2) x_up, a ∈ lw_tbl) a h) ((by decide +kernel : ∀ a ∈ vx_atS RX 192 (x_ex 2) x_up, (a.onTables && a.keepsFace) = true) a h)
theorem k_xo184 : ∀ w ∈ Cond.classLink RX 188 (x_ex 2) :: Cond.initialized (x_ex 2) :: vx_atS RX 192 (x_ex 2) x_up, vx_ot w = true := by decide +kernel
theorem k_xs185 : (RX, 190, "not settled without a ring") ∈ x_strs := by decide +kernel
theorem k_x186 : (.code yX_checkSettled bX_checkSettled 1 none : Cond) ∈ TBL := TBL_in (by decide +kernel) (by decide +kernel)
theorem k_x187 : (.initialized yX_checkSettled.cls : Cond) ∈ TBL := TBL_in (by decide +kernel) (by decide +kernel)
theorem k_x188 : (.methodLink RX 137 yX_checkSettled : Cond) ∈ TBL := TBL_in (by decide +kernel) (by decide +kernel)
theorem k_x189 : (.instanceMethod yX_checkSettled : Cond) ∈ TBL := TBL_in (by decide +kernel) (by decide +kernel)
theorem k_x190 : (.selects RX yX_checkSettled yX_checkSettled : Cond) ∈ TBL := TBL_in (by decide +kernel) (by decide +kernel)
theorem k_x191 : (.fieldLink RX 140 RLi "bounds" "[[J" : Cond) ∈ TBL := TBL_in (by decide +kernel) (by decide +kernel)
theorem k_x192 : (.fieldLink RX 143 RTl "times" "[J" : Cond) ∈ TBL := TBL_in (by decide +kernel) (by decide +kernel)
theorem k_x193 : (.code yTl_eventOf bTl_eventOf 6 (some .int) : Cond) ∈ TBL := TBL_in (by decide +kernel) (by decide +kernel)
theorem k_x194 : (.initialized yTl_eventOf.cls : Cond) ∈ TBL := TBL_in (by decide +kernel) (by decide +kernel)
theorem k_x195 : (.methodLink RX 146 yTl_eventOf : Cond) ∈ TBL := TBL_in (by decide +kernel) (by decide +kernel)
theorem k_x196 : (.instanceMethod yTl_eventOf : Cond) ∈ TBL := TBL_in (by decide +kernel) (by decide +kernel)
theorem k_x197 : (.selects RTl yTl_eventOf yTl_eventOf : Cond) ∈ TBL := TBL_in (by decide +kernel) (by decide +kernel)
theorem k_xs198 : (RX, 158, "no such item that is no bag") ∈ x_strs := by decide +kernel
theorem k_x199 : (.code yTl_countImplied bTl_countImplied 9 (some .int) : Cond) ∈ TBL := TBL_in (by decide +kernel) (by decide +kernel)
theorem k_x200 : (.initialized yTl_countImplied.cls : Cond) ∈ TBL := TBL_in (by decide +kernel) (by decide +kernel)
theorem k_x201 : (.methodLink RX 160 yTl_countImplied : Cond) ∈ TBL := TBL_in (by decide +kernel) (by decide +kernel)
theorem k_x202 : (.instanceMethod yTl_countImplied : Cond) ∈ TBL := TBL_in (by decide +kernel) (by decide +kernel)
theorem k_x203 : (.selects RTl yTl_countImplied yTl_countImplied : Cond) ∈ TBL := TBL_in (by decide +kernel) (by decide +kernel)
theorem k_xs204 : (RX, 155, "no such bag") ∈ x_strs := by decide +kernel
theorem k_x205 : (.fieldLink RX 163 REv "sources" "[I" : Cond) ∈ TBL := TBL_in (by decide +kernel) (by decide +kernel)
theorem k_x206 : (.fieldLink RX 166 REv "items" "[I" : Cond) ∈ TBL := TBL_in (by decide +kernel) (by decide +kernel)
theorem k_x207 : (.fieldLink RX 169 REv "kinds" "[I" : Cond) ∈ TBL := TBL_in (by decide +kernel) (by decide +kernel)
theorem k_x208 : (.fieldLink RX 172 REv "places" "[I" : Cond) ∈ TBL := TBL_in (by decide +kernel) (by decide +kernel)
theorem k_x209 : (.fieldLink RX 175 REv "clocks" "[J" : Cond) ∈ TBL := TBL_in (by decide +kernel) (by decide +kernel)
theorem k_x210 : (.code yEv_countIn bEv_countIn 5 (some .int) : Cond) ∈ TBL := TBL_in (by decide +kernel) (by decide +kernel)
theorem k_x211 : (.initialized yEv_countIn.cls : Cond) ∈ TBL := TBL_in (by decide +kernel) (by decide +kernel)
theorem k_x212 : (.methodLink RX 178 yEv_countIn : Cond) ∈ TBL := TBL_in (by decide +kernel) (by decide +kernel)
theorem k_x213 : (.instanceMethod yEv_countIn : Cond) ∈ TBL := TBL_in (by decide +kernel) (by decide +kernel)
theorem k_x214 : (.selects REv yEv_countIn yEv_countIn : Cond) ∈ TBL := TBL_in (by decide +kernel) (by decide +kernel)
theorem k_xs215 : (RX, 182, "no such kind of question") ∈ x_strs := by decide +kernel
end
section
/-! EventOrder.source()I -/
abbrev rm_X_source : Room := { frames := 6, cells := 1, slots := 6, locals := 120 }
def X_source_wp (sc : Int32) (sd : Int32) (Qr : Int32 → (Int32 × Int32) → Prop) (Qt : Nat → Prop) : Prop := ((sc < 16 → Qr sc (sc + 1, 0)) ∧ (¬ sc < 16 → Qt 3))
set_option maxHeartbeats 4000000 in
set_option maxRecDepth 100000 in
theorem c_X_source {l : Launch} {D : va_G} {ad : Nat → Nat} {cI cL cO : ClassId} {sc : Int32} {sd : Int32} {src : (Nat → Int32)} {itm : (Nat → Int32)} {knd : (Nat → Int32)} {plc : (Nat → Int32)} {clk : (Nat → Int64)} {ec : Int32} {nf : (Nat → Int32)} {ns : (Nat → Int32)} {nc : Int32} {wt : (Nat → Nat → Int64)} {bd : (Nat → Nat → Int64)} {off : (Nat → Int64)} {row : (Nat → Int32)} {hw : (Nat → Nat → Int64)} {rl : Int32} {tm : (Nat → Int64)} {ord : (Nat → Int32)} {tc : Int32} {Qr : Int32 → (Int32 × Int32) → Prop} {Qt : Nat → Prop} (htr : l.stackTraces = false) (h : X_source_wp sc sd Qr Qt) (sz : Nat) : vx_Met l yX_source (Cond.code yX_source bX_source 2 (some .int) :: TBL) rm_X_source (va_Pc [.ref (ad 0)] (XP D vwCl (tysX cI cL cO) (wX ad cI cL cO sc sd src itm knd plc clk ec nf ns nc wt bd off row hw rl tm ord tc) sz)) (va_Qi Qr (fun u t => XB D vwCl (tysX cI cL cO) (va_A (wX ad cI cL cO sc sd src itm knd plc clk ec nf ns nc wt bd off row hw rl tm ord tc) sz) (wX ad cI cL cO u.1 u.2 src itm knd plc clk ec nf ns nc wt bd off row hw rl tm ord tc) t) (va_A (wX ad cI cL cO sc sd src itm knd plc clk ec nf ns nc wt bd off row hw rl tm ord tc) sz)) (XT D vwCl (tysX cI cL cO) (va_A (wX ad cI cL cO sc sd src itm knd plc clk ec nf ns nc wt bd off row hw rl tm ord tc) sz) (wX ad cI cL cO sc sd src itm knd plc clk ec nf ns nc wt bd off row hw rl tm ord tc) Qt) rm_X_source.cells rm_X_source.slots (va_A (wX ad cI cL cO sc sd src itm knd plc clk ec nf ns nc wt bd off row hw rl tm ord tc) sz) := by
  refine x_met [.ref (ad 0)] TBL_good (by decide) (Nat.le_of_ble_eq_true rfl) ?_
  intro p e s m args below meth c hC hr hlk hnm hnh
  have hret : ∀ (ce sl : Nat), ce ≤ rm_X_source.cells → sl ≤ rm_X_source.slots → ∀ (r : Int32) (u : (Int32 × Int32)), Qr r u → ∀ (pc : Nat) (lv : List (Nat × Value)), decode bX_source pc = .ok (.ireturn, 1) → XW p l e rm_X_source s m args below meth c D vwCl (va_A (wX ad cI cL cO sc sd src itm knd plc clk ec nf ns nc wt bd off row hw rl tm ord tc) sz) 2 (vx_MQ below (va_Qi Qr (fun u t => XB D vwCl (tysX cI cL cO) (va_A (wX ad cI cL cO sc sd src itm knd plc clk ec nf ns nc wt bd off row hw rl tm ord tc) sz) (wX ad cI cL cO u.1 u.2 src itm knd plc clk ec nf ns nc wt bd off row hw rl tm ord tc) t) (va_A (wX ad cI cL cO sc sd src itm knd plc clk ec nf ns nc wt bd off row hw rl tm ord tc) sz)) (XT D vwCl (tysX cI cL cO) (va_A (wX ad cI cL cO sc sd src itm knd plc clk ec nf ns nc wt bd off row hw rl tm ord tc) sz) (wX ad cI cL cO sc sd src itm knd plc clk ec nf ns nc wt bd off row hw rl tm ord tc) Qt) args s rm_X_source.cells rm_X_source.slots (va_A (wX ad cI cL cO sc sd src itm knd plc clk ec nf ns nc wt bd off row hw rl tm ord tc) sz)) ce sl (wX ad cI cL cO u.1 u.2 src itm knd plc clk ec nf ns nc wt bd off row hw rl tm ord tc) pc lv [.int r] := fun ce sl h1 h2 r u hq pc lv hd => x_iret (wf := fun u => (wX ad cI cL cO u.1 u.2 src itm knd plc clk ec nf ns nc wt bd off row hw rl tm ord tc)) hC h1 h2 hr hlk hd hq rfl
  show XW p l e rm_X_source s m args below meth c D vwCl (va_A (wX ad cI cL cO sc sd src itm knd plc clk ec nf ns nc wt bd off row hw rl tm ord tc) sz) 2 _ 0 0 (wX ad cI cL cO sc sd src itm knd plc clk ec nf ns nc wt bd off row hw rl tm ord tc) 0 [(0, .ref (ad 0))] []
  unfold X_source_wp at h
  refine x_aload_n hC dX_source_0 rfl 0 rfl ?_
  refine x_get hC iX 0 wX_0 rfl 5 (by decide) k_x77 rfl rfl dX_source_1 ?_
  refine x_bipush (v := 16) hC dX_source_4 (by decide) ?_
  refine x_icmp_lt (tgt := 19) hC dX_source_6 (by decide) (fun c_1 => ?_) (fun c_1 => ?_)
  · have h := h.1 c_1
    refine x_aload_n hC dX_source_19 rfl 0 rfl ?_
    refine x_get hC iX 0 wX_0 rfl 5 (by decide) k_x77 rfl rfl dX_source_20 ?_
    refine x_istore_n (lv' := [(1, .int sc), (0, .ref (ad 0))]) hC dX_source_23 rfl (by decide) rfl ?_
    refine x_aload_n hC dX_source_24 rfl 1 rfl ?_
    refine x_dup hC dX_source_25 rfl ?_
    refine x_get hC iX 0 wX_0 rfl 5 (by decide) k_x77 rfl rfl dX_source_26 ?_
    refine x_iconst (v := 1) hC dX_source_29 (by decide) ?_
    refine x_iadd hC dX_source_30 ?_
    refine x_put (ty := .int) (ws' := (wX ad cI cL cO (sc + 1) sd src itm knd plc clk ec nf ns nc wt bd off row hw rl tm ord tc)) hC iX 0 wX_0 rfl 5 (by decide) k_x77 rfl tX tX_ok nX rfl (by decide +kernel) rfl rfl (Nat.le_of_ble_eq_true rfl) rfl dX_source_31 ?_
    refine x_aload_n hC dX_source_34 rfl 1 rfl ?_
    refine x_iconst (v := 0) hC dX_source_35 (by decide) ?_
    refine x_put (ty := .boolean) (ws' := (wX ad cI cL cO (sc + 1) 0 src itm knd plc clk ec nf ns nc wt bd off row hw rl tm ord tc)) hC iX 0 wX_0 rfl 6 (by decide) k_x78 rfl tX tX_ok nX rfl (by decide +kernel) rfl rfl (Nat.le_of_ble_eq_true rfl) rfl dX_source_36 ?_
    refine x_iload_n hC dX_source_39 rfl 0 rfl ?_
    exact hret _ _ (by decide) (by decide) sc (sc + 1, 0) h _ _ dX_source_40
  · have h := h.2 c_1
    exact x_throw hC 3 rfl htr hlk hnh dX_source_9 dX_source_12 dX_source_13 dX_source_15 dX_source_18 k_x79 k_x80 (by decide +kernel) x_up_fit k_xa81 k_xo82 k_xs83 (by decide) (by decide) ⟨by decide, by decide⟩ (by decide) (by decide) h

/-! EventOrder.checkSource(I)V -/
abbrev rm_X_checkSource : Room := { frames := 6, cells := 1, slots := 6, locals := 120 }
def X_checkSource_wp (sc : Int32) (a1 : Int32) (Qr : Unit → Prop) (Qt : Nat → Prop) : Prop := ((a1 < 0 → Qt 0) ∧ (¬ a1 < 0 → ((a1 < sc → Qr ()) ∧ (¬ a1 < sc → Qt 0))))
set_option maxHeartbeats 4000000 in
set_option maxRecDepth 100000 in
theorem c_X_checkSource {l : Launch} {D : va_G} {ad : Nat → Nat} {cI cL cO : ClassId} {sc : Int32} {sd : Int32} {src : (Nat → Int32)} {itm : (Nat → Int32)} {knd : (Nat → Int32)} {plc : (Nat → Int32)} {clk : (Nat → Int64)} {ec : Int32} {nf : (Nat → Int32)} {ns : (Nat → Int32)} {nc : Int32} {wt : (Nat → Nat → Int64)} {bd : (Nat → Nat → Int64)} {off : (Nat → Int64)} {row : (Nat → Int32)} {hw : (Nat → Nat → Int64)} {rl : Int32} {tm : (Nat → Int64)} {ord : (Nat → Int32)} {tc : Int32} {a1 : Int32} {Qr : Unit → Prop} {Qt : Nat → Prop} (htr : l.stackTraces = false) (h : X_checkSource_wp sc a1 Qr Qt) (sz : Nat) : vx_Met l yX_checkSource (Cond.code yX_checkSource bX_checkSource 2 none :: TBL) rm_X_checkSource (va_Pc [.ref (ad 0), .int a1] (XP D vwCl (tysX cI cL cO) (wX ad cI cL cO sc sd src itm knd plc clk ec nf ns nc wt bd off row hw rl tm ord tc) sz)) (va_Qv Qr (fun u t => XB D vwCl (tysX cI cL cO) (va_A (wX ad cI cL cO sc sd src itm knd plc clk ec nf ns nc wt bd off row hw rl tm ord tc) sz) (wX ad cI cL cO sc sd src itm knd plc clk ec nf ns nc wt bd off row hw rl tm ord tc) t) (va_A (wX ad cI cL cO sc sd src itm knd plc clk ec nf ns nc wt bd off row hw rl tm ord tc) sz)) (XT D vwCl (tysX cI cL cO) (va_A (wX ad cI cL cO sc sd src itm knd plc clk ec nf ns nc wt bd off row hw rl tm ord tc) sz) (wX ad cI cL cO sc sd src itm knd plc clk ec nf ns nc wt bd off row hw rl tm ord tc) Qt) rm_X_checkSource.cells rm_X_checkSource.slots (va_A (wX ad cI cL cO sc sd src itm knd plc clk ec nf ns nc wt bd off row hw rl tm ord tc) sz) := by
  refine x_met [.ref (ad 0), .int a1] TBL_good (by decide) (Nat.le_of_ble_eq_true rfl) ?_
  intro p e s m args below meth c hC hr hlk hnm hnh
  have hret : ∀ (ce sl : Nat), ce ≤ rm_X_checkSource.cells → sl ≤ rm_X_checkSource.slots → ∀ (u : Unit), Qr u → ∀ (pc : Nat) (lv : List (Nat × Value)), decode bX_checkSource pc = .ok (.return_, 1) → XW p l e rm_X_checkSource s m args below meth c D vwCl (va_A (wX ad cI cL cO sc sd src itm knd plc clk ec nf ns nc wt bd off row hw rl tm ord tc) sz) 2 (vx_MQ below (va_Qv Qr (fun u t => XB D vwCl (tysX cI cL cO) (va_A (wX ad cI cL cO sc sd src itm knd plc clk ec nf ns nc wt bd off row hw rl tm ord tc) sz) (wX ad cI cL cO sc sd src itm knd plc clk ec nf ns nc wt bd off row hw rl tm ord tc) t) (va_A (wX ad cI cL cO sc sd src itm knd plc clk ec nf ns nc wt bd off row hw rl tm ord tc) sz)) (XT D vwCl (tysX cI cL cO) (va_A (wX ad cI cL cO sc sd src itm knd plc clk ec nf ns nc wt bd off row hw rl tm ord tc) sz) (wX ad cI cL cO sc sd src itm knd plc clk ec nf ns nc wt bd off row hw rl tm ord tc) Qt) args s rm_X_checkSource.cells rm_X_checkSource.slots (va_A (wX ad cI cL cO sc sd src itm knd plc clk ec nf ns nc wt bd off row hw rl tm ord tc) sz)) ce sl (wX ad cI cL cO sc sd src itm knd plc clk ec nf ns nc wt bd off row hw rl tm ord tc) pc lv [] := fun ce sl h1 h2 u hq pc lv hd => x_vret (wf := fun u => (wX ad cI cL cO sc sd src itm knd plc clk ec nf ns nc wt bd off row hw rl tm ord tc)) hC h1 h2 hr hlk hd hq rfl
  show XW p l e rm_X_checkSource s m args below meth c D vwCl (va_A (wX ad cI cL cO sc sd src itm knd plc clk ec nf ns nc wt bd off row hw rl tm ord tc) sz) 2 _ 0 0 (wX ad cI cL cO sc sd src itm knd plc clk ec nf ns nc wt bd off row hw rl tm ord tc) 0 [(0, .ref (ad 0)), (1, .int a1)] []
  unfold X_checkSource_wp at h
  refine x_iload_n hC dX_checkSource_0 rfl 1 rfl ?_
  refine x_if_lt (tgt := 12) hC dX_checkSource_1 (by decide) (fun c_1 => ?_) (fun c_1 => ?_)
  · have h := h.1 c_1
    exact x_throw hC 0 rfl htr hlk hnh dX_checkSource_12 dX_checkSource_15 dX_checkSource_16 dX_checkSource_18 dX_checkSource_21 k_x84 k_x85 (by decide +kernel) x_up_fit k_xa86 k_xo87 k_xs88 (by decide) (by decide) ⟨by decide, by decide⟩ (by decide) (by decide) h
  · have h := h.2 c_1
    refine x_iload_n hC dX_checkSource_4 rfl 1 rfl ?_
    refine x_aload_n hC dX_checkSource_5 rfl 0 rfl ?_
    refine x_get hC iX 0 wX_0 rfl 5 (by decide) k_x77 rfl rfl dX_checkSource_6 ?_
    refine x_icmp_lt (tgt := 22) hC dX_checkSource_9 (by decide) (fun c_2 => ?_) (fun c_2 => ?_)
    · have h := h.1 c_2
      exact hret _ _ (by decide) (by decide) () h _ _ dX_checkSource_22
    · have h := h.2 c_2
      exact x_throw hC 0 rfl htr hlk hnh dX_checkSource_12 dX_checkSource_15 dX_checkSource_16 dX_checkSource_18 dX_checkSource_21 k_x84 k_x85 (by decide +kernel) x_up_fit k_xa86 k_xo87 k_xs88 (by decide) (by decide) ⟨by decide, by decide⟩ (by decide) (by decide) h

/-! EventOrder.checkItem(I)V -/
abbrev rm_X_checkItem : Room := { frames := 6, cells := 1, slots := 6, locals := 120 }
def X_checkItem_wp (a0 : Int32) (Qr : Unit → Prop) (Qt : Nat → Prop) : Prop := ((a0 < 0 → Qt 0) ∧ (¬ a0 < 0 → ((a0 < 200 → Qr ()) ∧ (¬ a0 < 200 → Qt 0))))
set_option maxHeartbeats 4000000 in
set_option maxRecDepth 100000 in
theorem c_X_checkItem {l : Launch} {D : va_G} {ad : Nat → Nat} {cI cL cO : ClassId} {sc : Int32} {sd : Int32} {src : (Nat → Int32)} {itm : (Nat → Int32)} {knd : (Nat → Int32)} {plc : (Nat → Int32)} {clk : (Nat → Int64)} {ec : Int32} {nf : (Nat → Int32)} {ns : (Nat → Int32)} {nc : Int32} {wt : (Nat → Nat → Int64)} {bd : (Nat → Nat → Int64)} {off : (Nat → Int64)} {row : (Nat → Int32)} {hw : (Nat → Nat → Int64)} {rl : Int32} {tm : (Nat → Int64)} {ord : (Nat → Int32)} {tc : Int32} {a0 : Int32} {Qr : Unit → Prop} {Qt : Nat → Prop} (htr : l.stackTraces = false) (h : X_checkItem_wp a0 Qr Qt) (sz : Nat) : vx_Met l yX_checkItem (Cond.code yX_checkItem bX_checkItem 1 none :: TBL) rm_X_checkItem (va_Pc [.int a0] (XP D vwCl (tysX cI cL cO) (wX ad cI cL cO sc sd src itm knd plc clk ec nf ns nc wt bd off row hw rl tm ord tc) sz)) (va_Qv Qr (fun u t => XB D vwCl (tysX cI cL cO) (va_A (wX ad cI cL cO sc sd src itm knd plc clk ec nf ns nc wt bd off row hw rl tm ord tc) sz) (wX ad cI cL cO sc sd src itm knd plc clk ec nf ns nc wt bd off row hw rl tm ord tc) t) (va_A (wX ad cI cL cO sc sd src itm knd plc clk ec nf ns nc wt bd off row hw rl tm ord tc) sz)) (XT D vwCl (tysX cI cL cO) (va_A (wX ad cI cL cO sc sd src itm knd plc clk ec nf ns nc wt bd off row hw rl tm ord tc) sz) (wX ad cI cL cO sc sd src itm knd plc clk ec nf ns nc wt bd off row hw rl tm ord tc) Qt) rm_X_checkItem.cells rm_X_checkItem.slots (va_A (wX ad cI cL cO sc sd src itm knd plc clk ec nf ns nc wt bd off row hw rl tm ord tc) sz) := by
  refine x_met [.int a0] TBL_good (by decide) (Nat.le_of_ble_eq_true rfl) ?_
  intro p e s m args below meth c hC hr hlk hnm hnh
  have hret : ∀ (ce sl : Nat), ce ≤ rm_X_checkItem.cells → sl ≤ rm_X_checkItem.slots → ∀ (u : Unit), Qr u → ∀ (pc : Nat) (lv : List (Nat × Value)), decode bX_checkItem pc = .ok (.return_, 1) → XW p l e rm_X_checkItem s m args below meth c D vwCl (va_A (wX ad cI cL cO sc sd src itm knd plc clk ec nf ns nc wt bd off row hw rl tm ord tc) sz) 1 (vx_MQ below (va_Qv Qr (fun u t => XB D vwCl (tysX cI cL cO) (va_A (wX ad cI cL cO sc sd src itm knd plc clk ec nf ns nc wt bd off row hw rl tm ord tc) sz) (wX ad cI cL cO sc sd src itm knd plc clk ec nf ns nc wt bd off row hw rl tm ord tc) t) (va_A (wX ad cI cL cO sc sd src itm knd plc clk ec nf ns nc wt bd off row hw rl tm ord tc) sz)) (XT D vwCl (tysX cI cL cO) (va_A (wX ad cI cL cO sc sd src itm knd plc clk ec nf ns nc wt bd off row hw rl tm ord tc) sz) (wX ad cI cL cO sc sd src itm knd plc clk ec nf ns nc wt bd off row hw rl tm ord tc) Qt) args s rm_X_checkItem.cells rm_X_checkItem.slots (va_A (wX ad cI cL cO sc sd src itm knd plc clk ec nf ns nc wt bd off row hw rl tm ord tc) sz)) ce sl (wX ad cI cL cO sc sd src itm knd plc clk ec nf ns nc wt bd off row hw rl tm ord tc) pc lv [] := fun ce sl h1 h2 u hq pc lv hd => x_vret (wf := fun u => (wX ad cI cL cO sc sd src itm knd plc clk ec nf ns nc wt bd off row hw rl tm ord tc)) hC h1 h2 hr hlk hd hq rfl
  show XW p l e rm_X_checkItem s m args below meth c D vwCl (va_A (wX ad cI cL cO sc sd src itm knd plc clk ec nf ns nc wt bd off row hw rl tm ord tc) sz) 1 _ 0 0 (wX ad cI cL cO sc sd src itm knd plc clk ec nf ns nc wt bd off row hw rl tm ord tc) 0 [(0, .int a0)] []
  unfold X_checkItem_wp at h
  refine x_iload_n hC dX_checkItem_0 rfl 0 rfl ?_
  refine x_if_lt (tgt := 11) hC dX_checkItem_1 (by decide) (fun c_1 => ?_) (fun c_1 => ?_)
  · have h := h.1 c_1
    exact x_throw hC 0 rfl htr hlk hnh dX_checkItem_11 dX_checkItem_14 dX_checkItem_15 dX_checkItem_17 dX_checkItem_20 k_x84 k_x85 (by decide +kernel) x_up_fit k_xa86 k_xo87 k_xs89 (by decide) (by decide) ⟨by decide, by decide⟩ (by decide) (by decide) h
  · have h := h.2 c_1
    refine x_iload_n hC dX_checkItem_4 rfl 0 rfl ?_
    refine x_sipush (v := 200) hC dX_checkItem_5 (by decide) ?_
    refine x_icmp_lt (tgt := 21) hC dX_checkItem_8 (by decide) (fun c_2 => ?_) (fun c_2 => ?_)
    · have h := h.1 c_2
      exact hret _ _ (by decide) (by decide) () h _ _ dX_checkItem_21
    · have h := h.2 c_2
      exact x_throw hC 0 rfl htr hlk hnh dX_checkItem_11 dX_checkItem_14 dX_checkItem_15 dX_checkItem_17 dX_checkItem_20 k_x84 k_x85 (by decide +kernel) x_up_fit k_xa86 k_xo87 k_xs89 (by decide) (by decide) ⟨by decide, by decide⟩ (by decide) (by decide) h

/-! EventOrder.isBag(I)Z -/
abbrev rm_X_isBag : Room := { frames := 0, cells := 0, slots := 0, locals := 0 }
def X_isBag_wp (a0 : Int32) (Qr : Int32 → Unit → Prop) : Prop := ((a0 < 100 → Qr 0 ()) ∧ (¬ a0 < 100 → ((200 ≤ a0 → Qr 0 ()) ∧ (¬ 200 ≤ a0 → Qr 1 ()))))
set_option maxHeartbeats 4000000 in
set_option maxRecDepth 100000 in
theorem c_X_isBag {l : Launch} {D : va_G} {ad : Nat → Nat} {cI cL cO : ClassId} {sc : Int32} {sd : Int32} {src : (Nat → Int32)} {itm : (Nat → Int32)} {knd : (Nat → Int32)} {plc : (Nat → Int32)} {clk : (Nat → Int64)} {ec : Int32} {nf : (Nat → Int32)} {ns : (Nat → Int32)} {nc : Int32} {wt : (Nat → Nat → Int64)} {bd : (Nat → Nat → Int64)} {off : (Nat → Int64)} {row : (Nat → Int32)} {hw : (Nat → Nat → Int64)} {rl : Int32} {tm : (Nat → Int64)} {ord : (Nat → Int32)} {tc : Int32} {a0 : Int32} {Qr : Int32 → Unit → Prop} (h : X_isBag_wp a0 Qr) (sz : Nat) : vx_Met l yX_isBag (Cond.code yX_isBag bX_isBag 1 (some .boolean) :: TBL) rm_X_isBag (va_Pc [.int a0] (XP D vwCl (tysX cI cL cO) (wX ad cI cL cO sc sd src itm knd plc clk ec nf ns nc wt bd off row hw rl tm ord tc) sz)) (va_Qi Qr (fun u t => XB D vwCl (tysX cI cL cO) (va_A (wX ad cI cL cO sc sd src itm knd plc clk ec nf ns nc wt bd off row hw rl tm ord tc) sz) (wX ad cI cL cO sc sd src itm knd plc clk ec nf ns nc wt bd off row hw rl tm ord tc) t) (va_A (wX ad cI cL cO sc sd src itm knd plc clk ec nf ns nc wt bd off row hw rl tm ord tc) sz)) (XT D vwCl (tysX cI cL cO) (va_A (wX ad cI cL cO sc sd src itm knd plc clk ec nf ns nc wt bd off row hw rl tm ord tc) sz) (wX ad cI cL cO sc sd src itm knd plc clk ec nf ns nc wt bd off row hw rl tm ord tc) (fun _ => False)) rm_X_isBag.cells rm_X_isBag.slots (va_A (wX ad cI cL cO sc sd src itm knd plc clk ec nf ns nc wt bd off row hw rl tm ord tc) sz) := by
  refine x_met [.int a0] TBL_good (by decide) (Nat.le_of_ble_eq_true rfl) ?_
  intro p e s m args below meth c hC hr hlk hnm hnh
  have hret : ∀ (ce sl : Nat), ce ≤ rm_X_isBag.cells → sl ≤ rm_X_isBag.slots → ∀ (r : Int32) (u : Unit), x_bool r → Qr r u → ∀ (pc : Nat) (lv : List (Nat × Value)), decode bX_isBag pc = .ok (.ireturn, 1) → XW p l e rm_X_isBag s m args below meth c D vwCl (va_A (wX ad cI cL cO sc sd src itm knd plc clk ec nf ns nc wt bd off row hw rl tm ord tc) sz) 1 (vx_MQ below (va_Qi Qr (fun u t => XB D vwCl (tysX cI cL cO) (va_A (wX ad cI cL cO sc sd src itm knd plc clk ec nf ns nc wt bd off row hw rl tm ord tc) sz) (wX ad cI cL cO sc sd src itm knd plc clk ec nf ns nc wt bd off row hw rl tm ord tc) t) (va_A (wX ad cI cL cO sc sd src itm knd plc clk ec nf ns nc wt bd off row hw rl tm ord tc) sz)) (XT D vwCl (tysX cI cL cO) (va_A (wX ad cI cL cO sc sd src itm knd plc clk ec nf ns nc wt bd off row hw rl tm ord tc) sz) (wX ad cI cL cO sc sd src itm knd plc clk ec nf ns nc wt bd off row hw rl tm ord tc) (fun _ => False)) args s rm_X_isBag.cells rm_X_isBag.slots (va_A (wX ad cI cL cO sc sd src itm knd plc clk ec nf ns nc wt bd off row hw rl tm ord tc) sz)) ce sl (wX ad cI cL cO sc sd src itm knd plc clk ec nf ns nc wt bd off row hw rl tm ord tc) pc lv [.int r] := fun ce sl h1 h2 r u hb9 hq pc lv hd => x_zret (wf := fun u => (wX ad cI cL cO sc sd src itm knd plc clk ec nf ns nc wt bd off row hw rl tm ord tc)) hC h1 h2 hr hlk hb9 hd hq rfl
  show XW p l e rm_X_isBag s m args below meth c D vwCl (va_A (wX ad cI cL cO sc sd src itm knd plc clk ec nf ns nc wt bd off row hw rl tm ord tc) sz) 1 _ 0 0 (wX ad cI cL cO sc sd src itm knd plc clk ec nf ns nc wt bd off row hw rl tm ord tc) 0 [(0, .int a0)] []
  unfold X_isBag_wp at h
  refine x_iload_n hC dX_isBag_0 rfl 0 rfl ?_
  refine x_bipush (v := 100) hC dX_isBag_1 (by decide) ?_
  refine x_icmp_lt (tgt := 17) hC dX_isBag_3 (by decide) (fun c_1 => ?_) (fun c_1 => ?_)
  · have h := h.1 c_1
    refine x_iconst (v := 0) hC dX_isBag_17 (by decide) ?_
    exact hret _ _ (by decide) (by decide) 0 () (Or.inl rfl) h _ _ dX_isBag_18
  · have h := h.2 c_1
    refine x_iload_n hC dX_isBag_6 rfl 0 rfl ?_
    refine x_sipush (v := 200) hC dX_isBag_7 (by decide) ?_
    refine x_icmp_ge (tgt := 17) hC dX_isBag_10 (by decide) (fun c_2 => ?_) (fun c_2 => ?_)
    · have h := h.1 c_2
      refine x_iconst (v := 0) hC dX_isBag_17 (by decide) ?_
      exact hret _ _ (by decide) (by decide) 0 () (Or.inl rfl) h _ _ dX_isBag_18
    · have h := h.2 c_2
      refine x_iconst (v := 1) hC dX_isBag_13 (by decide) ?_
      refine x_goto (tgt := 18) hC dX_isBag_14 (by decide) ?_
      exact hret _ _ (by decide) (by decide) 1 () (Or.inr rfl) h _ _ dX_isBag_18

/-! EventOrder.checkKindAndPlace(III)V -/
abbrev rm_X_checkKindAndPlace : Room := { frames := 6, cells := 1, slots := 6, locals := 120 }
def X_checkKindAndPlace_wp (a0 : Int32) (a1 : Int32) (a2 : Int32) (Qr : Unit → Prop) (Qt : Nat → Prop) : Prop := ((a1 < 0 → Qt 1) ∧ (¬ a1 < 0 → ((a1 < 8 → ((a2 < 0 → Qt 1) ∧ (¬ a2 < 0 → ((a2 < 200 → ((a1 = 1 → X_isBag_wp a0 (fun (r_6 : Int32) (u_7 : Unit) => ((¬ r_6 = 0 → Qt 1) ∧ (r_6 = 0 → X_isBag_wp a2 (fun (r_9 : Int32) (u_10 : Unit) => ((¬ r_9 = 0 → Qr ()) ∧ (r_9 = 0 → Qt 1))))))) ∧ (¬ a1 = 1 → ((¬ a1 = 2 → Qr ()) ∧ (a1 = 2 → X_isBag_wp a0 (fun (r_13 : Int32) (u_14 : Unit) => ((¬ r_13 = 0 → Qt 1) ∧ (r_13 = 0 → X_isBag_wp a2 (fun (r_16 : Int32) (u_17 : Unit) => ((¬ r_16 = 0 → Qr ()) ∧ (r_16 = 0 → Qt 1))))))))))) ∧ (¬ a2 < 200 → Qt 1))))) ∧ (¬ a1 < 8 → Qt 1))))
set_option maxHeartbeats 4000000 in
set_option maxRecDepth 100000 in
theorem c_X_checkKindAndPlace {l : Launch} {D : va_G} {ad : Nat → Nat} {cI cL cO : ClassId} {sc : Int32} {sd : Int32} {src : (Nat → Int32)} {itm : (Nat → Int32)} {knd : (Nat → Int32)} {plc : (Nat → Int32)} {clk : (Nat → Int64)} {ec : Int32} {nf : (Nat → Int32)} {ns : (Nat → Int32)} {nc : Int32} {wt : (Nat → Nat → Int64)} {bd : (Nat → Nat → Int64)} {off : (Nat → Int64)} {row : (Nat → Int32)} {hw : (Nat → Nat → Int64)} {rl : Int32} {tm : (Nat → Int64)} {ord : (Nat → Int32)} {tc : Int32} {a0 : Int32} {a1 : Int32} {a2 : Int32} {Qr : Unit → Prop} {Qt : Nat → Prop} (htr : l.stackTraces = false) (h : X_checkKindAndPlace_wp a0 a1 a2 Qr Qt) (sz : Nat) : vx_Met l yX_checkKindAndPlace (Cond.code yX_checkKindAndPlace bX_checkKindAndPlace 3 none :: TBL) rm_X_checkKindAndPlace (va_Pc [.int a0, .int a1, .int a2] (XP D vwCl (tysX cI cL cO) (wX ad cI cL cO sc sd src itm knd plc clk ec nf ns nc wt bd off row hw rl tm ord tc) sz)) (va_Qv Qr (fun u t => XB D vwCl (tysX cI cL cO) (va_A (wX ad cI cL cO sc sd src itm knd plc clk ec nf ns nc wt bd off row hw rl tm ord tc) sz) (wX ad cI cL cO sc sd src itm knd plc clk ec nf ns nc wt bd off row hw rl tm ord tc) t) (va_A (wX ad cI cL cO sc sd src itm knd plc clk ec nf ns nc wt bd off row hw rl tm ord tc) sz)) (XT D vwCl (tysX cI cL cO) (va_A (wX ad cI cL cO sc sd src itm knd plc clk ec nf ns nc wt bd off row hw rl tm ord tc) sz) (wX ad cI cL cO sc sd src itm knd plc clk ec nf ns nc wt bd off row hw rl tm ord tc) Qt) rm_X_checkKindAndPlace.cells rm_X_checkKindAndPlace.slots (va_A (wX ad cI cL cO sc sd src itm knd plc clk ec nf ns nc wt bd off row hw rl tm ord tc) sz) := by
  refine x_met [.int a0, .int a1, .int a2] TBL_good (by decide) (Nat.le_of_ble_eq_true rfl) ?_
  intro p e s m args below meth c hC hr hlk hnm hnh
  have hret : ∀ (ce sl : Nat), ce ≤ rm_X_checkKindAndPlace.cells → sl ≤ rm_X_checkKindAndPlace.slots → ∀ (u : Unit), Qr u → ∀ (pc : Nat) (lv : List (Nat × Value)), decode bX_checkKindAndPlace pc = .ok (.return_, 1) → XW p l e rm_X_checkKindAndPlace s m args below meth c D vwCl (va_A (wX ad cI cL cO sc sd src itm knd plc clk ec nf ns nc wt bd off row hw rl tm ord tc) sz) 3 (vx_MQ below (va_Qv Qr (fun u t => XB D vwCl (tysX cI cL cO) (va_A (wX ad cI cL cO sc sd src itm knd plc clk ec nf ns nc wt bd off row hw rl tm ord tc) sz) (wX ad cI cL cO sc sd src itm knd plc clk ec nf ns nc wt bd off row hw rl tm ord tc) t) (va_A (wX ad cI cL cO sc sd src itm knd plc clk ec nf ns nc wt bd off row hw rl tm ord tc) sz)) (XT D vwCl (tysX cI cL cO) (va_A (wX ad cI cL cO sc sd src itm knd plc clk ec nf ns nc wt bd off row hw rl tm ord tc) sz) (wX ad cI cL cO sc sd src itm knd plc clk ec nf ns nc wt bd off row hw rl tm ord tc) Qt) args s rm_X_checkKindAndPlace.cells rm_X_checkKindAndPlace.slots (va_A (wX ad cI cL cO sc sd src itm knd plc clk ec nf ns nc wt bd off row hw rl tm ord tc) sz)) ce sl (wX ad cI cL cO sc sd src itm knd plc clk ec nf ns nc wt bd off row hw rl tm ord tc) pc lv [] := fun ce sl h1 h2 u hq pc lv hd => x_vret (wf := fun u => (wX ad cI cL cO sc sd src itm knd plc clk ec nf ns nc wt bd off row hw rl tm ord tc)) hC h1 h2 hr hlk hd hq rfl
  show XW p l e rm_X_checkKindAndPlace s m args below meth c D vwCl (va_A (wX ad cI cL cO sc sd src itm knd plc clk ec nf ns nc wt bd off row hw rl tm ord tc) sz) 3 _ 0 0 (wX ad cI cL cO sc sd src itm knd plc clk ec nf ns nc wt bd off row hw rl tm ord tc) 0 [(0, .int a0), (1, .int a1), (2, .int a2)] []
  unfold X_checkKindAndPlace_wp at h
  refine x_iload_n hC dX_checkKindAndPlace_0 rfl 1 rfl ?_
  refine x_if_lt (tgt := 10) hC dX_checkKindAndPlace_1 (by decide) (fun c_1 => ?_) (fun c_1 => ?_)
  · have h := h.1 c_1
    exact x_throw hC 1 rfl htr hlk hnh dX_checkKindAndPlace_10 dX_checkKindAndPlace_13 dX_checkKindAndPlace_14 dX_checkKindAndPlace_16 dX_checkKindAndPlace_19 k_x90 k_x91 (by decide +kernel) x_up_fit k_xa92 k_xo93 k_xs94 (by decide) (by decide) ⟨by decide, by decide⟩ (by decide) (by decide) h
  · have h := h.2 c_1
    refine x_iload_n hC dX_checkKindAndPlace_4 rfl 1 rfl ?_
    refine x_bipush (v := 8) hC dX_checkKindAndPlace_5 (by decide) ?_
    refine x_icmp_lt (tgt := 20) hC dX_checkKindAndPlace_7 (by decide) (fun c_2 => ?_) (fun c_2 => ?_)
    · have h := h.1 c_2
      refine x_iload_n hC dX_checkKindAndPlace_20 rfl 2 rfl ?_
      refine x_if_lt (tgt := 31) hC dX_checkKindAndPlace_21 (by decide) (fun c_3 => ?_) (fun c_3 => ?_)
      · have h := h.1 c_3
        exact x_throw hC 1 rfl htr hlk hnh dX_checkKindAndPlace_31 dX_checkKindAndPlace_34 dX_checkKindAndPlace_35 dX_checkKindAndPlace_37 dX_checkKindAndPlace_40 k_x90 k_x91 (by decide +kernel) x_up_fit k_xa92 k_xo93 k_xs95 (by decide) (by decide) ⟨by decide, by decide⟩ (by decide) (by decide) h
      · have h := h.2 c_3
        refine x_iload_n hC dX_checkKindAndPlace_24 rfl 2 rfl ?_
        refine x_sipush (v := 200) hC dX_checkKindAndPlace_25 (by decide) ?_
        refine x_icmp_lt (tgt := 41) hC dX_checkKindAndPlace_28 (by decide) (fun c_4 => ?_) (fun c_4 => ?_)
        · have h := h.1 c_4
          refine x_iload_n hC dX_checkKindAndPlace_41 rfl 1 rfl ?_
          refine x_iconst (v := 1) hC dX_checkKindAndPlace_42 (by decide) ?_
          refine x_icmp_eq (tgt := 51) hC dX_checkKindAndPlace_43 (by decide) (fun c_5 => ?_) (fun c_5 => ?_)
          · have h := h.1 c_5
            refine x_iload_n hC dX_checkKindAndPlace_51 rfl 0 rfl ?_
            refine x_callSi (S := Unit) (wf := fun u => (wX ad cI cL cO sc sd src itm knd plc clk ec nf ns nc wt bd off row hw rl tm ord tc)) hC [.int a0] (fun sz => c_X_isBag h sz) (by decide) (by decide) k_x97 k_x98 k_x99 (by decide) 1 rfl (by decide +kernel) ⟨by decide, by decide⟩ (Nat.le_of_ble_eq_true rfl) k_x100 rfl dX_checkKindAndPlace_52 (fun _ h9 => h9) (fun r_6 u_7 h => ?_)
            refine x_if_ne (tgt := 65) hC dX_checkKindAndPlace_55 (by decide) (fun c_8 => ?_) (fun c_8 => ?_)
            · have h := h.1 c_8
              exact x_throw hC 1 rfl htr hlk hnh dX_checkKindAndPlace_65 dX_checkKindAndPlace_68 dX_checkKindAndPlace_69 dX_checkKindAndPlace_71 dX_checkKindAndPlace_74 k_x90 k_x91 (by decide +kernel) x_up_fit k_xa92 k_xo93 k_xs96 (by decide) (by decide) ⟨by decide, by decide⟩ (by decide) (by decide) h
            · have h := h.2 c_8
              refine x_iload_n hC dX_checkKindAndPlace_58 rfl 2 rfl ?_
              refine x_callSi (S := Unit) (wf := fun u => (wX ad cI cL cO sc sd src itm knd plc clk ec nf ns nc wt bd off row hw rl tm ord tc)) hC [.int a2] (fun sz => c_X_isBag h sz) (by decide) (by decide) k_x97 k_x98 k_x99 (by decide) 1 rfl (by decide +kernel) ⟨by decide, by decide⟩ (Nat.le_of_ble_eq_true rfl) k_x100 rfl dX_checkKindAndPlace_59 (fun _ h9 => h9) (fun r_9 u_10 h => ?_)
              refine x_if_ne (tgt := 75) hC dX_checkKindAndPlace_62 (by decide) (fun c_11 => ?_) (fun c_11 => ?_)
              · have h := h.1 c_11
                exact hret _ _ (by decide) (by decide) () h _ _ dX_checkKindAndPlace_75
              · have h := h.2 c_11
                exact x_throw hC 1 rfl htr hlk hnh dX_checkKindAndPlace_65 dX_checkKindAndPlace_68 dX_checkKindAndPlace_69 dX_checkKindAndPlace_71 dX_checkKindAndPlace_74 k_x90 k_x91 (by decide +kernel) x_up_fit k_xa92 k_xo93 k_xs96 (by decide) (by decide) ⟨by decide, by decide⟩ (by decide) (by decide) h
          · have h := h.2 c_5
            refine x_iload_n hC dX_checkKindAndPlace_46 rfl 1 rfl ?_
            refine x_iconst (v := 2) hC dX_checkKindAndPlace_47 (by decide) ?_
            refine x_icmp_ne (tgt := 75) hC dX_checkKindAndPlace_48 (by decide) (fun c_12 => ?_) (fun c_12 => ?_)
            · have h := h.1 c_12
              exact hret _ _ (by decide) (by decide) () h _ _ dX_checkKindAndPlace_75
            · have h := h.2 c_12
              refine x_iload_n hC dX_checkKindAndPlace_51 rfl 0 rfl ?_
              refine x_callSi (S := Unit) (wf := fun u => (wX ad cI cL cO sc sd src itm knd plc clk ec nf ns nc wt bd off row hw rl tm ord tc)) hC [.int a0] (fun sz => c_X_isBag h sz) (by decide) (by decide) k_x97 k_x98 k_x99 (by decide) 1 rfl (by decide +kernel) ⟨by decide, by decide⟩ (Nat.le_of_ble_eq_true rfl) k_x100 rfl dX_checkKindAndPlace_52 (fun _ h9 => h9) (fun r_13 u_14 h => ?_)
              refine x_if_ne (tgt := 65) hC dX_checkKindAndPlace_55 (by decide) (fun c_15 => ?_) (fun c_15 => ?_)
              · have h := h.1 c_15
                exact x_throw hC 1 rfl htr hlk hnh dX_checkKindAndPlace_65 dX_checkKindAndPlace_68 dX_checkKindAndPlace_69 dX_checkKindAndPlace_71 dX_checkKindAndPlace_74 k_x90 k_x91 (by decide +kernel) x_up_fit k_xa92 k_xo93 k_xs96 (by decide) (by decide) ⟨by decide, by decide⟩ (by decide) (by decide) h
              · have h := h.2 c_15
                refine x_iload_n hC dX_checkKindAndPlace_58 rfl 2 rfl ?_
                refine x_callSi (S := Unit) (wf := fun u => (wX ad cI cL cO sc sd src itm knd plc clk ec nf ns nc wt bd off row hw rl tm ord tc)) hC [.int a2] (fun sz => c_X_isBag h sz) (by decide) (by decide) k_x97 k_x98 k_x99 (by decide) 1 rfl (by decide +kernel) ⟨by decide, by decide⟩ (Nat.le_of_ble_eq_true rfl) k_x100 rfl dX_checkKindAndPlace_59 (fun _ h9 => h9) (fun r_16 u_17 h => ?_)
                refine x_if_ne (tgt := 75) hC dX_checkKindAndPlace_62 (by decide) (fun c_18 => ?_) (fun c_18 => ?_)
                · have h := h.1 c_18
                  exact hret _ _ (by decide) (by decide) () h _ _ dX_checkKindAndPlace_75
                · have h := h.2 c_18
                  exact x_throw hC 1 rfl htr hlk hnh dX_checkKindAndPlace_65 dX_checkKindAndPlace_68 dX_checkKindAndPlace_69 dX_checkKindAndPlace_71 dX_checkKindAndPlace_74 k_x90 k_x91 (by decide +kernel) x_up_fit k_xa92 k_xo93 k_xs96 (by decide) (by decide) ⟨by decide, by decide⟩ (by decide) (by decide) h
        · have h := h.2 c_4
          exact x_throw hC 1 rfl htr hlk hnh dX_checkKindAndPlace_31 dX_checkKindAndPlace_34 dX_checkKindAndPlace_35 dX_checkKindAndPlace_37 dX_checkKindAndPlace_40 k_x90 k_x91 (by decide +kernel) x_up_fit k_xa92 k_xo93 k_xs95 (by decide) (by decide) ⟨by decide, by decide⟩ (by decide) (by decide) h
    · have h := h.2 c_2
      exact x_throw hC 1 rfl htr hlk hnh dX_checkKindAndPlace_10 dX_checkKindAndPlace_13 dX_checkKindAndPlace_14 dX_checkKindAndPlace_16 dX_checkKindAndPlace_19 k_x90 k_x91 (by decide +kernel) x_up_fit k_xa92 k_xo93 k_xs94 (by decide) (by decide) ⟨by decide, by decide⟩ (by decide) (by decide) h

/-! EventOrder.checkClock(J)V -/
abbrev rm_X_checkClock : Room := { frames := 6, cells := 1, slots := 6, locals := 120 }
def X_checkClock_wp (a0 : Int64) (Qr : Unit → Prop) (Qt : Nat → Prop) : Prop := ((a0 < (-1000000000) → Qt 1) ∧ (¬ a0 < (-1000000000) → ((a0 ≤ 1000000000 → Qr ()) ∧ (¬ a0 ≤ 1000000000 → Qt 1))))
set_option maxHeartbeats 4000000 in
set_option maxRecDepth 100000 in
theorem c_X_checkClock {l : Launch} {D : va_G} {ad : Nat → Nat} {cI cL cO : ClassId} {sc : Int32} {sd : Int32} {src : (Nat → Int32)} {itm : (Nat → Int32)} {knd : (Nat → Int32)} {plc : (Nat → Int32)} {clk : (Nat → Int64)} {ec : Int32} {nf : (Nat → Int32)} {ns : (Nat → Int32)} {nc : Int32} {wt : (Nat → Nat → Int64)} {bd : (Nat → Nat → Int64)} {off : (Nat → Int64)} {row : (Nat → Int32)} {hw : (Nat → Nat → Int64)} {rl : Int32} {tm : (Nat → Int64)} {ord : (Nat → Int32)} {tc : Int32} {a0 : Int64} {Qr : Unit → Prop} {Qt : Nat → Prop} (htr : l.stackTraces = false) (h : X_checkClock_wp a0 Qr Qt) (sz : Nat) : vx_Met l yX_checkClock (Cond.code yX_checkClock bX_checkClock 2 none :: TBL) rm_X_checkClock (va_Pc [.long a0] (XP D vwCl (tysX cI cL cO) (wX ad cI cL cO sc sd src itm knd plc clk ec nf ns nc wt bd off row hw rl tm ord tc) sz)) (va_Qv Qr (fun u t => XB D vwCl (tysX cI cL cO) (va_A (wX ad cI cL cO sc sd src itm knd plc clk ec nf ns nc wt bd off row hw rl tm ord tc) sz) (wX ad cI cL cO sc sd src itm knd plc clk ec nf ns nc wt bd off row hw rl tm ord tc) t) (va_A (wX ad cI cL cO sc sd src itm knd plc clk ec nf ns nc wt bd off row hw rl tm ord tc) sz)) (XT D vwCl (tysX cI cL cO) (va_A (wX ad cI cL cO sc sd src itm knd plc clk ec nf ns nc wt bd off row hw rl tm ord tc) sz) (wX ad cI cL cO sc sd src itm knd plc clk ec nf ns nc wt bd off row hw rl tm ord tc) Qt) rm_X_checkClock.cells rm_X_checkClock.slots (va_A (wX ad cI cL cO sc sd src itm knd plc clk ec nf ns nc wt bd off row hw rl tm ord tc) sz) := by
  refine x_met [.long a0] TBL_good (by decide) (Nat.le_of_ble_eq_true rfl) ?_
  intro p e s m args below meth c hC hr hlk hnm hnh
  have hret : ∀ (ce sl : Nat), ce ≤ rm_X_checkClock.cells → sl ≤ rm_X_checkClock.slots → ∀ (u : Unit), Qr u → ∀ (pc : Nat) (lv : List (Nat × Value)), decode bX_checkClock pc = .ok (.return_, 1) → XW p l e rm_X_checkClock s m args below meth c D vwCl (va_A (wX ad cI cL cO sc sd src itm knd plc clk ec nf ns nc wt bd off row hw rl tm ord tc) sz) 2 (vx_MQ below (va_Qv Qr (fun u t => XB D vwCl (tysX cI cL cO) (va_A (wX ad cI cL cO sc sd src itm knd plc clk ec nf ns nc wt bd off row hw rl tm ord tc) sz) (wX ad cI cL cO sc sd src itm knd plc clk ec nf ns nc wt bd off row hw rl tm ord tc) t) (va_A (wX ad cI cL cO sc sd src itm knd plc clk ec nf ns nc wt bd off row hw rl tm ord tc) sz)) (XT D vwCl (tysX cI cL cO) (va_A (wX ad cI cL cO sc sd src itm knd plc clk ec nf ns nc wt bd off row hw rl tm ord tc) sz) (wX ad cI cL cO sc sd src itm knd plc clk ec nf ns nc wt bd off row hw rl tm ord tc) Qt) args s rm_X_checkClock.cells rm_X_checkClock.slots (va_A (wX ad cI cL cO sc sd src itm knd plc clk ec nf ns nc wt bd off row hw rl tm ord tc) sz)) ce sl (wX ad cI cL cO sc sd src itm knd plc clk ec nf ns nc wt bd off row hw rl tm ord tc) pc lv [] := fun ce sl h1 h2 u hq pc lv hd => x_vret (wf := fun u => (wX ad cI cL cO sc sd src itm knd plc clk ec nf ns nc wt bd off row hw rl tm ord tc)) hC h1 h2 hr hlk hd hq rfl
  show XW p l e rm_X_checkClock s m args below meth c D vwCl (va_A (wX ad cI cL cO sc sd src itm knd plc clk ec nf ns nc wt bd off row hw rl tm ord tc) sz) 2 _ 0 0 (wX ad cI cL cO sc sd src itm knd plc clk ec nf ns nc wt bd off row hw rl tm ord tc) 0 [(0, .long a0)] []
  unfold X_checkClock_wp at h
  refine x_lload_n hC dX_checkClock_0 rfl 0 rfl ?_
  refine x_ldc2 (v := -1000000000) hC k_x101 dX_checkClock_1 ?_
  refine x_lcmp_lt (tgt := 16) hC dX_checkClock_4 dX_checkClock_5 (by decide) (fun c_1 => ?_) (fun c_1 => ?_)
  · have h := h.1 c_1
    exact x_throw hC 1 rfl htr hlk hnh dX_checkClock_16 dX_checkClock_19 dX_checkClock_20 dX_checkClock_22 dX_checkClock_25 k_x90 k_x91 (by decide +kernel) x_up_fit k_xa92 k_xo93 k_xs102 (by decide) (by decide) ⟨by decide, by decide⟩ (by decide) (by decide) h
  · have h := h.2 c_1
    refine x_lload_n hC dX_checkClock_8 rfl 0 rfl ?_
    refine x_ldc2 (v := 1000000000) hC k_x103 dX_checkClock_9 ?_
    refine x_lcmp_le (tgt := 26) hC dX_checkClock_12 dX_checkClock_13 (by decide) (fun c_2 => ?_) (fun c_2 => ?_)
    · have h := h.1 c_2
      exact hret _ _ (by decide) (by decide) () h _ _ dX_checkClock_26
    · have h := h.2 c_2
      exact x_throw hC 1 rfl htr hlk hnh dX_checkClock_16 dX_checkClock_19 dX_checkClock_20 dX_checkClock_22 dX_checkClock_25 k_x90 k_x91 (by decide +kernel) x_up_fit k_xa92 k_xo93 k_xs102 (by decide) (by decide) ⟨by decide, by decide⟩ (by decide) (by decide) h

/-! EventOrder.event(IIIIJ)I -/
abbrev rm_X_event : Room := { frames := 7, cells := 5, slots := 30, locals := 142 }
def X_event_wp (sc : Int32) (sd : Int32) (src : (Nat → Int32)) (itm : (Nat → Int32)) (knd : (Nat → Int32)) (plc : (Nat → Int32)) (clk : (Nat → Int64)) (ec : Int32) (a1 : Int32) (a2 : Int32) (a3 : Int32) (a4 : Int32) (a5 : Int64) (Qr : Int32 → (Int32 × (Nat → Int32) × (Nat → Int32) × (Nat → Int32) × (Nat → Int32) × (Nat → Int64) × Int32) → Prop) (Qt : Nat → Prop) : Prop := X_checkSource_wp sc a1 (fun (u_2 : Unit) => X_checkItem_wp a2 (fun (u_4 : Unit) => X_checkKindAndPlace_wp a2 a3 a4 (fun (u_6 : Unit) => X_checkClock_wp a5 (fun (u_8 : Unit) => Events_has_wp src itm knd plc clk ec a1 a2 a3 a4 a5 (fun (r_9 : Int32) (u_10 : Unit) => ((r_9 = 0 → ((ec < 300 → Events_add_wp src itm knd plc clk ec a1 a2 a3 a4 a5 (fun (r_13 : Int32) (u_14 : ((Nat → Int32) × (Nat → Int32) × (Nat → Int32) × (Nat → Int32) × (Nat → Int64) × Int32)) => Qr r_13 (0, u_14.1, u_14.2.1, u_14.2.2.1, u_14.2.2.2.1, u_14.2.2.2.2.1, u_14.2.2.2.2.2))) ∧ (¬ ec < 300 → Qt 3))) ∧ (¬ r_9 = 0 → Qr 0 (sd, src, itm, knd, plc, clk, ec))))) Qt) Qt) Qt) Qt
set_option maxHeartbeats 4000000 in
set_option maxRecDepth 100000 in
theorem c_X_event {l : Launch} {D : va_G} {ad : Nat → Nat} {cI cL cO : ClassId} {sc : Int32} {sd : Int32} {src : (Nat → Int32)} {itm : (Nat → Int32)} {knd : (Nat → Int32)} {plc : (Nat → Int32)} {clk : (Nat → Int64)} {ec : Int32} {nf : (Nat → Int32)} {ns : (Nat → Int32)} {nc : Int32} {wt : (Nat → Nat → Int64)} {bd : (Nat → Nat → Int64)} {off : (Nat → Int64)} {row : (Nat → Int32)} {hw : (Nat → Nat → Int64)} {rl : Int32} {tm : (Nat → Int64)} {ord : (Nat → Int32)} {tc : Int32} {a1 : Int32} {a2 : Int32} {a3 : Int32} {a4 : Int32} {a5 : Int64} {Qr : Int32 → (Int32 × (Nat → Int32) × (Nat → Int32) × (Nat → Int32) × (Nat → Int32) × (Nat → Int64) × Int32) → Prop} {Qt : Nat → Prop} (htr : l.stackTraces = false) (h : X_event_wp sc sd src itm knd plc clk ec a1 a2 a3 a4 a5 Qr Qt) (sz : Nat) : vx_Met l yX_event (Cond.code yX_event bX_event 7 (some .int) :: TBL) rm_X_event (va_Pc [.ref (ad 0), .int a1, .int a2, .int a3, .int a4, .long a5] (XP D vwCl (tysX cI cL cO) (wX ad cI cL cO sc sd src itm knd plc clk ec nf ns nc wt bd off row hw rl tm ord tc) sz)) (va_Qi Qr (fun u t => XB D vwCl (tysX cI cL cO) (va_A (wX ad cI cL cO sc sd src itm knd plc clk ec nf ns nc wt bd off row hw rl tm ord tc) sz) (wX ad cI cL cO sc u.1 u.2.1 u.2.2.1 u.2.2.2.1 u.2.2.2.2.1 u.2.2.2.2.2.1 u.2.2.2.2.2.2 nf ns nc wt bd off row hw rl tm ord tc) t) (va_A (wX ad cI cL cO sc sd src itm knd plc clk ec nf ns nc wt bd off row hw rl tm ord tc) sz)) (XT D vwCl (tysX cI cL cO) (va_A (wX ad cI cL cO sc sd src itm knd plc clk ec nf ns nc wt bd off row hw rl tm ord tc) sz) (wX ad cI cL cO sc sd src itm knd plc clk ec nf ns nc wt bd off row hw rl tm ord tc) Qt) rm_X_event.cells rm_X_event.slots (va_A (wX ad cI cL cO sc sd src itm knd plc clk ec nf ns nc wt bd off row hw rl tm ord tc) sz) := by
  refine x_met [.ref (ad 0), .int a1, .int a2, .int a3, .int a4, .long a5] TBL_good (by decide) (Nat.le_of_ble_eq_true rfl) ?_
  intro p e s m args below meth c hC hr hlk hnm hnh
  have hret : ∀ (ce sl : Nat), ce ≤ rm_X_event.cells → sl ≤ rm_X_event.slots → ∀ (r : Int32) (u : (Int32 × (Nat → Int32) × (Nat → Int32) × (Nat → Int32) × (Nat → Int32) × (Nat → Int64) × Int32)), Qr r u → ∀ (pc : Nat) (lv : List (Nat × Value)), decode bX_event pc = .ok (.ireturn, 1) → XW p l e rm_X_event s m args below meth c D vwCl (va_A (wX ad cI cL cO sc sd src itm knd plc clk ec nf ns nc wt bd off row hw rl tm ord tc) sz) 7 (vx_MQ below (va_Qi Qr (fun u t => XB D vwCl (tysX cI cL cO) (va_A (wX ad cI cL cO sc sd src itm knd plc clk ec nf ns nc wt bd off row hw rl tm ord tc) sz) (wX ad cI cL cO sc u.1 u.2.1 u.2.2.1 u.2.2.2.1 u.2.2.2.2.1 u.2.2.2.2.2.1 u.2.2.2.2.2.2 nf ns nc wt bd off row hw rl tm ord tc) t) (va_A (wX ad cI cL cO sc sd src itm knd plc clk ec nf ns nc wt bd off row hw rl tm ord tc) sz)) (XT D vwCl (tysX cI cL cO) (va_A (wX ad cI cL cO sc sd src itm knd plc clk ec nf ns nc wt bd off row hw rl tm ord tc) sz) (wX ad cI cL cO sc sd src itm knd plc clk ec nf ns nc wt bd off row hw rl tm ord tc) Qt) args s rm_X_event.cells rm_X_event.slots (va_A (wX ad cI cL cO sc sd src itm knd plc clk ec nf ns nc wt bd off row hw rl tm ord tc) sz)) ce sl (wX ad cI cL cO sc u.1 u.2.1 u.2.2.1 u.2.2.2.1 u.2.2.2.2.1 u.2.2.2.2.2.1 u.2.2.2.2.2.2 nf ns nc wt bd off row hw rl tm ord tc) pc lv [.int r] := fun ce sl h1 h2 r u hq pc lv hd => x_iret (wf := fun u => (wX ad cI cL cO sc u.1 u.2.1 u.2.2.1 u.2.2.2.1 u.2.2.2.2.1 u.2.2.2.2.2.1 u.2.2.2.2.2.2 nf ns nc wt bd off row hw rl tm ord tc)) hC h1 h2 hr hlk hd hq rfl
  show XW p l e rm_X_event s m args below meth c D vwCl (va_A (wX ad cI cL cO sc sd src itm knd plc clk ec nf ns nc wt bd off row hw rl tm ord tc) sz) 7 _ 0 0 (wX ad cI cL cO sc sd src itm knd plc clk ec nf ns nc wt bd off row hw rl tm ord tc) 0 [(0, .ref (ad 0)), (1, .int a1), (2, .int a2), (3, .int a3), (4, .int a4), (5, .long a5)] []
  unfold X_event_wp at h
  refine x_aload_n hC dX_event_0 rfl 0 rfl ?_
  refine x_iload_n hC dX_event_1 rfl 1 rfl ?_
  refine x_callVvT (S := Unit) (wf := fun u => (wX ad cI cL cO sc sd src itm knd plc clk ec nf ns nc wt bd off row hw rl tm ord tc)) hC (by decide) (by decide) [.int a1] (fun sz => c_X_checkSource htr h sz) (by decide) (by decide) k_x129 k_x130 k_x131 (by decide) 1 rfl (by decide +kernel) ⟨by decide, by decide⟩ (Nat.le_of_ble_eq_true rfl) k_x132 k_x133 wX_0 rfl rfl dX_event_2 hlk hnh (fun _ h9 => h9) (fun u_2 h => ?_)
  refine x_iload_n hC dX_event_5 rfl 2 rfl ?_
  refine x_callSvT (S := Unit) (wf := fun u => (wX ad cI cL cO sc sd src itm knd plc clk ec nf ns nc wt bd off row hw rl tm ord tc)) hC (by decide) (by decide) [.int a2] (fun sz => c_X_checkItem htr h sz) (by decide) (by decide) k_x125 k_x126 k_x127 (by decide) 1 rfl (by decide +kernel) ⟨by decide, by decide⟩ (Nat.le_of_ble_eq_true rfl) k_x128 rfl dX_event_6 hlk hnh (fun _ h9 => h9) (fun u_4 h => ?_)
  refine x_iload_n hC dX_event_9 rfl 2 rfl ?_
  refine x_iload_n hC dX_event_10 rfl 3 rfl ?_
  refine x_iload hC dX_event_11 4 rfl ?_
  refine x_callSvT (S := Unit) (wf := fun u => (wX ad cI cL cO sc sd src itm knd plc clk ec nf ns nc wt bd off row hw rl tm ord tc)) hC (by decide) (by decide) [.int a2, .int a3, .int a4] (fun sz => c_X_checkKindAndPlace htr h sz) (by decide) (by decide) k_x121 k_x122 k_x123 (by decide) 3 rfl (by decide +kernel) ⟨by decide, by decide⟩ (Nat.le_of_ble_eq_true rfl) k_x124 rfl dX_event_13 hlk hnh (fun _ h9 => h9) (fun u_6 h => ?_)
  refine x_lload hC dX_event_16 5 rfl ?_
  refine x_callSvT (S := Unit) (wf := fun u => (wX ad cI cL cO sc sd src itm knd plc clk ec nf ns nc wt bd off row hw rl tm ord tc)) hC (by decide) (by decide) [.long a5] (fun sz => c_X_checkClock htr h sz) (by decide) (by decide) k_x117 k_x118 k_x119 (by decide) 1 rfl (by decide +kernel) ⟨by decide, by decide⟩ (Nat.le_of_ble_eq_true rfl) k_x120 rfl dX_event_18 hlk hnh (fun _ h9 => h9) (fun u_8 h => ?_)
  refine x_aload_n hC dX_event_21 rfl 0 rfl ?_
  refine x_get hC iX 0 wX_0 rfl 0 (by decide) k_x104 rfl rfl dX_event_22 ?_
  refine x_iload_n hC dX_event_25 rfl 1 rfl ?_
  refine x_iload_n hC dX_event_26 rfl 2 rfl ?_
  refine x_iload_n hC dX_event_27 rfl 3 rfl ?_
  refine x_iload hC dX_event_28 4 rfl ?_
  refine x_lload hC dX_event_30 5 rfl ?_
  refine x_callVi (S := Unit) (wf := fun u => (wX ad cI cL cO sc sd src itm knd plc clk ec nf ns nc wt bd off row hw rl tm ord tc)) hC [.int a1, .int a2, .int a3, .int a4, .long a5] (fun sz => c_Events_has h sz) (by decide) (by decide) k_x112 k_x113 k_x114 (by decide) 5 rfl (by decide +kernel) ⟨by decide, by decide⟩ (Nat.le_of_ble_eq_true rfl) k_x115 k_x116 wX_1 rfl rfl dX_event_32 (fun _ h9 => h9) (fun r_9 u_10 h => ?_)
  refine x_if_eq (tgt := 40) hC dX_event_35 (by decide) (fun c_11 => ?_) (fun c_11 => ?_)
  · have h := h.1 c_11
    refine x_aload_n hC dX_event_40 rfl 0 rfl ?_
    refine x_get hC iX 0 wX_0 rfl 0 (by decide) k_x104 rfl rfl dX_event_41 ?_
    refine x_get hC iEv 1 wX_1 rfl 5 (by decide) k_x105 rfl rfl dX_event_44 ?_
    refine x_sipush (v := 300) hC dX_event_47 (by decide) ?_
    refine x_icmp_lt (tgt := 63) hC dX_event_50 (by decide) (fun c_12 => ?_) (fun c_12 => ?_)
    · have h := h.1 c_12
      refine x_aload_n hC dX_event_63 rfl 0 rfl ?_
      refine x_iconst (v := 0) hC dX_event_64 (by decide) ?_
      refine x_put (ty := .boolean) (ws' := (wX ad cI cL cO sc 0 src itm knd plc clk ec nf ns nc wt bd off row hw rl tm ord tc)) hC iX 0 wX_0 rfl 6 (by decide) k_x78 rfl tX tX_ok nX rfl (by decide +kernel) rfl rfl (Nat.le_of_ble_eq_true rfl) rfl dX_event_65 ?_
      refine x_aload_n hC dX_event_68 rfl 0 rfl ?_
      refine x_get hC iX 0 wX_0 rfl 0 (by decide) k_x104 rfl rfl dX_event_69 ?_
      refine x_iload_n hC dX_event_72 rfl 1 rfl ?_
      refine x_iload_n hC dX_event_73 rfl 2 rfl ?_
      refine x_iload_n hC dX_event_74 rfl 3 rfl ?_
      refine x_iload hC dX_event_75 4 rfl ?_
      refine x_lload hC dX_event_77 5 rfl ?_
      refine x_callVi (S := ((Nat → Int32) × (Nat → Int32) × (Nat → Int32) × (Nat → Int32) × (Nat → Int64) × Int32)) (wf := fun u => (wX ad cI cL cO sc 0 u.1 u.2.1 u.2.2.1 u.2.2.2.1 u.2.2.2.2.1 u.2.2.2.2.2 nf ns nc wt bd off row hw rl tm ord tc)) hC [.int a1, .int a2, .int a3, .int a4, .long a5] (fun sz => c_Events_add h sz) (by decide) (by decide) k_x106 k_x107 k_x108 (by decide) 5 rfl (by decide +kernel) ⟨by decide, by decide⟩ (Nat.le_of_ble_eq_true rfl) k_x109 k_x110 wX_1 rfl rfl dX_event_79 (fun _ h9 => h9) (fun r_13 u_14 h => ?_)
      exact hret _ _ (by decide) (by decide) r_13 (0, u_14.1, u_14.2.1, u_14.2.2.1, u_14.2.2.2.1, u_14.2.2.2.2.1, u_14.2.2.2.2.2) h _ _ dX_event_82
    · have h := h.2 c_12
      exact x_throw hC 3 rfl htr hlk hnh dX_event_53 dX_event_56 dX_event_57 dX_event_59 dX_event_62 k_x79 k_x80 (by decide +kernel) x_up_fit k_xa81 k_xo82 k_xs111 (by decide) (by decide) ⟨by decide, by decide⟩ (by decide) (by decide) h
  · have h := h.2 c_11
    refine x_iconst (v := 0) hC dX_event_38 (by decide) ?_
    exact hret _ _ (by decide) (by decide) 0 (sd, src, itm, knd, plc, clk, ec) h _ _ dX_event_39

/-! EventOrder.checkEvent(I)V -/
abbrev rm_X_checkEvent : Room := { frames := 6, cells := 1, slots := 6, locals := 120 }
def X_checkEvent_wp (ec : Int32) (a1 : Int32) (Qr : Unit → Prop) (Qt : Nat → Prop) : Prop := ((a1 < 1 → Qt 0) ∧ (¬ a1 < 1 → ((a1 ≤ ec → Qr ()) ∧ (¬ a1 ≤ ec → Qt 0))))
set_option maxHeartbeats 4000000 in
set_option maxRecDepth 100000 in
theorem c_X_checkEvent {l : Launch} {D : va_G} {ad : Nat → Nat} {cI cL cO : ClassId} {sc : Int32} {sd : Int32} {src : (Nat → Int32)} {itm : (Nat → Int32)} {knd : (Nat → Int32)} {plc : (Nat → Int32)} {clk : (Nat → Int64)} {ec : Int32} {nf : (Nat → Int32)} {ns : (Nat → Int32)} {nc : Int32} {wt : (Nat → Nat → Int64)} {bd : (Nat → Nat → Int64)} {off : (Nat → Int64)} {row : (Nat → Int32)} {hw : (Nat → Nat → Int64)} {rl : Int32} {tm : (Nat → Int64)} {ord : (Nat → Int32)} {tc : Int32} {a1 : Int32} {Qr : Unit → Prop} {Qt : Nat → Prop} (htr : l.stackTraces = false) (h : X_checkEvent_wp ec a1 Qr Qt) (sz : Nat) : vx_Met l yX_checkEvent (Cond.code yX_checkEvent bX_checkEvent 2 none :: TBL) rm_X_checkEvent (va_Pc [.ref (ad 0), .int a1] (XP D vwCl (tysX cI cL cO) (wX ad cI cL cO sc sd src itm knd plc clk ec nf ns nc wt bd off row hw rl tm ord tc) sz)) (va_Qv Qr (fun u t => XB D vwCl (tysX cI cL cO) (va_A (wX ad cI cL cO sc sd src itm knd plc clk ec nf ns nc wt bd off row hw rl tm ord tc) sz) (wX ad cI cL cO sc sd src itm knd plc clk ec nf ns nc wt bd off row hw rl tm ord tc) t) (va_A (wX ad cI cL cO sc sd src itm knd plc clk ec nf ns nc wt bd off row hw rl tm ord tc) sz)) (XT D vwCl (tysX cI cL cO) (va_A (wX ad cI cL cO sc sd src itm knd plc clk ec nf ns nc wt bd off row hw rl tm ord tc) sz) (wX ad cI cL cO sc sd src itm knd plc clk ec nf ns nc wt bd off row hw rl tm ord tc) Qt) rm_X_checkEvent.cells rm_X_checkEvent.slots (va_A (wX ad cI cL cO sc sd src itm knd plc clk ec nf ns nc wt bd off row hw rl tm ord tc) sz) := by
  refine x_met [.ref (ad 0), .int a1] TBL_good (by decide) (Nat.le_of_ble_eq_true rfl) ?_
  intro p e s m args below meth c hC hr hlk hnm hnh
  have hret : ∀ (ce sl : Nat), ce ≤ rm_X_checkEvent.cells → sl ≤ rm_X_checkEvent.slots → ∀ (u : Unit), Qr u → ∀ (pc : Nat) (lv : List (Nat × Value)), decode bX_checkEvent pc = .ok (.return_, 1) → XW p l e rm_X_checkEvent s m args below meth c D vwCl (va_A (wX ad cI cL cO sc sd src itm knd plc clk ec nf ns nc wt bd off row hw rl tm ord tc) sz) 2 (vx_MQ below (va_Qv Qr (fun u t => XB D vwCl (tysX cI cL cO) (va_A (wX ad cI cL cO sc sd src itm knd plc clk ec nf ns nc wt bd off row hw rl tm ord tc) sz) (wX ad cI cL cO sc sd src itm knd plc clk ec nf ns nc wt bd off row hw rl tm ord tc) t) (va_A (wX ad cI cL cO sc sd src itm knd plc clk ec nf ns nc wt bd off row hw rl tm ord tc) sz)) (XT D vwCl (tysX cI cL cO) (va_A (wX ad cI cL cO sc sd src itm knd plc clk ec nf ns nc wt bd off row hw rl tm ord tc) sz) (wX ad cI cL cO sc sd src itm knd plc clk ec nf ns nc wt bd off row hw rl tm ord tc) Qt) args s rm_X_checkEvent.cells rm_X_checkEvent.slots (va_A (wX ad cI cL cO sc sd src itm knd plc clk ec nf ns nc wt bd off row hw rl tm ord tc) sz)) ce sl (wX ad cI cL cO sc sd src itm knd plc clk ec nf ns nc wt bd off row hw rl tm ord tc) pc lv [] := fun ce sl h1 h2 u hq pc lv hd => x_vret (wf := fun u => (wX ad cI cL cO sc sd src itm knd plc clk ec nf ns nc wt bd off row hw rl tm ord tc)) hC h1 h2 hr hlk hd hq rfl
  show XW p l e rm_X_checkEvent s m args below meth c D vwCl (va_A (wX ad cI cL cO sc sd src itm knd plc clk ec nf ns nc wt bd off row hw rl tm ord tc) sz) 2 _ 0 0 (wX ad cI cL cO sc sd src itm knd plc clk ec nf ns nc wt bd off row hw rl tm ord tc) 0 [(0, .ref (ad 0)), (1, .int a1)] []
  unfold X_checkEvent_wp at h
  refine x_iload_n hC dX_checkEvent_0 rfl 1 rfl ?_
  refine x_iconst (v := 1) hC dX_checkEvent_1 (by decide) ?_
  refine x_icmp_lt (tgt := 16) hC dX_checkEvent_2 (by decide) (fun c_1 => ?_) (fun c_1 => ?_)
  · have h := h.1 c_1
    exact x_throw hC 0 rfl htr hlk hnh dX_checkEvent_16 dX_checkEvent_19 dX_checkEvent_20 dX_checkEvent_22 dX_checkEvent_25 k_x84 k_x85 (by decide +kernel) x_up_fit k_xa86 k_xo87 k_xs134 (by decide) (by decide) ⟨by decide, by decide⟩ (by decide) (by decide) h
  · have h := h.2 c_1
    refine x_iload_n hC dX_checkEvent_5 rfl 1 rfl ?_
    refine x_aload_n hC dX_checkEvent_6 rfl 0 rfl ?_
    refine x_get hC iX 0 wX_0 rfl 0 (by decide) k_x104 rfl rfl dX_checkEvent_7 ?_
    refine x_get hC iEv 1 wX_1 rfl 5 (by decide) k_x105 rfl rfl dX_checkEvent_10 ?_
    refine x_icmp_le (tgt := 26) hC dX_checkEvent_13 (by decide) (fun c_2 => ?_) (fun c_2 => ?_)
    · have h := h.1 c_2
      exact hret _ _ (by decide) (by decide) () h _ _ dX_checkEvent_26
    · have h := h.2 c_2
      exact x_throw hC 0 rfl htr hlk hnh dX_checkEvent_16 dX_checkEvent_19 dX_checkEvent_20 dX_checkEvent_22 dX_checkEvent_25 k_x84 k_x85 (by decide +kernel) x_up_fit k_xa86 k_xo87 k_xs134 (by decide) (by decide) ⟨by decide, by decide⟩ (by decide) (by decide) h

/-! EventOrder.need(II)I -/
abbrev rm_X_need : Room := { frames := 7, cells := 3, slots := 18, locals := 141 }
def X_need_wp (sd : Int32) (ec : Int32) (nf : (Nat → Int32)) (ns : (Nat → Int32)) (nc : Int32) (a1 : Int32) (a2 : Int32) (Qr : Int32 → (Int32 × (Nat → Int32) × (Nat → Int32) × Int32) → Prop) (Qt : Nat → Prop) : Prop := X_checkEvent_wp ec a1 (fun (u_2 : Unit) => X_checkEvent_wp ec a2 (fun (u_4 : Unit) => ((¬ a1 = a2 → ((nc < 300 → Needs_add_wp nf ns nc a1 a2 (fun (r_7 : Int32) (u_8 : ((Nat → Int32) × (Nat → Int32) × Int32)) => Qr r_7 (0, u_8.1, u_8.2.1, u_8.2.2))) ∧ (¬ nc < 300 → Qt 3))) ∧ (a1 = a2 → Qt 1))) Qt) Qt
set_option maxHeartbeats 4000000 in
set_option maxRecDepth 100000 in
theorem c_X_need {l : Launch} {D : va_G} {ad : Nat → Nat} {cI cL cO : ClassId} {sc : Int32} {sd : Int32} {src : (Nat → Int32)} {itm : (Nat → Int32)} {knd : (Nat → Int32)} {plc : (Nat → Int32)} {clk : (Nat → Int64)} {ec : Int32} {nf : (Nat → Int32)} {ns : (Nat → Int32)} {nc : Int32} {wt : (Nat → Nat → Int64)} {bd : (Nat → Nat → Int64)} {off : (Nat → Int64)} {row : (Nat → Int32)} {hw : (Nat → Nat → Int64)} {rl : Int32} {tm : (Nat → Int64)} {ord : (Nat → Int32)} {tc : Int32} {a1 : Int32} {a2 : Int32} {Qr : Int32 → (Int32 × (Nat → Int32) × (Nat → Int32) × Int32) → Prop} {Qt : Nat → Prop} (htr : l.stackTraces = false) (h : X_need_wp sd ec nf ns nc a1 a2 Qr Qt) (sz : Nat) : vx_Met l yX_need (Cond.code yX_need bX_need 3 (some .int) :: TBL) rm_X_need (va_Pc [.ref (ad 0), .int a1, .int a2] (XP D vwCl (tysX cI cL cO) (wX ad cI cL cO sc sd src itm knd plc clk ec nf ns nc wt bd off row hw rl tm ord tc) sz)) (va_Qi Qr (fun u t => XB D vwCl (tysX cI cL cO) (va_A (wX ad cI cL cO sc sd src itm knd plc clk ec nf ns nc wt bd off row hw rl tm ord tc) sz) (wX ad cI cL cO sc u.1 src itm knd plc clk ec u.2.1 u.2.2.1 u.2.2.2 wt bd off row hw rl tm ord tc) t) (va_A (wX ad cI cL cO sc sd src itm knd plc clk ec nf ns nc wt bd off row hw rl tm ord tc) sz)) (XT D vwCl (tysX cI cL cO) (va_A (wX ad cI cL cO sc sd src itm knd plc clk ec nf ns nc wt bd off row hw rl tm ord tc) sz) (wX ad cI cL cO sc sd src itm knd plc clk ec nf ns nc wt bd off row hw rl tm ord tc) Qt) rm_X_need.cells rm_X_need.slots (va_A (wX ad cI cL cO sc sd src itm knd plc clk ec nf ns nc wt bd off row hw rl tm ord tc) sz) := by
  refine x_met [.ref (ad 0), .int a1, .int a2] TBL_good (by decide) (Nat.le_of_ble_eq_true rfl) ?_
  intro p e s m args below meth c hC hr hlk hnm hnh
  have hret : ∀ (ce sl : Nat), ce ≤ rm_X_need.cells → sl ≤ rm_X_need.slots → ∀ (r : Int32) (u : (Int32 × (Nat → Int32) × (Nat → Int32) × Int32)), Qr r u → ∀ (pc : Nat) (lv : List (Nat × Value)), decode bX_need pc = .ok (.ireturn, 1) → XW p l e rm_X_need s m args below meth c D vwCl (va_A (wX ad cI cL cO sc sd src itm knd plc clk ec nf ns nc wt bd off row hw rl tm ord tc) sz) 3 (vx_MQ below (va_Qi Qr (fun u t => XB D vwCl (tysX cI cL cO) (va_A (wX ad cI cL cO sc sd src itm knd plc clk ec nf ns nc wt bd off row hw rl tm ord tc) sz) (wX ad cI cL cO sc u.1 src itm knd plc clk ec u.2.1 u.2.2.1 u.2.2.2 wt bd off row hw rl tm ord tc) t) (va_A (wX ad cI cL cO sc sd src itm knd plc clk ec nf ns nc wt bd off row hw rl tm ord tc) sz)) (XT D vwCl (tysX cI cL cO) (va_A (wX ad cI cL cO sc sd src itm knd plc clk ec nf ns nc wt bd off row hw rl tm ord tc) sz) (wX ad cI cL cO sc sd src itm knd plc clk ec nf ns nc wt bd off row hw rl tm ord tc) Qt) args s rm_X_need.cells rm_X_need.slots (va_A (wX ad cI cL cO sc sd src itm knd plc clk ec nf ns nc wt bd off row hw rl tm ord tc) sz)) ce sl (wX ad cI cL cO sc u.1 src itm knd plc clk ec u.2.1 u.2.2.1 u.2.2.2 wt bd off row hw rl tm ord tc) pc lv [.int r] := fun ce sl h1 h2 r u hq pc lv hd => x_iret (wf := fun u => (wX ad cI cL cO sc u.1 src itm knd plc clk ec u.2.1 u.2.2.1 u.2.2.2 wt bd off row hw rl tm ord tc)) hC h1 h2 hr hlk hd hq rfl
  show XW p l e rm_X_need s m args below meth c D vwCl (va_A (wX ad cI cL cO sc sd src itm knd plc clk ec nf ns nc wt bd off row hw rl tm ord tc) sz) 3 _ 0 0 (wX ad cI cL cO sc sd src itm knd plc clk ec nf ns nc wt bd off row hw rl tm ord tc) 0 [(0, .ref (ad 0)), (1, .int a1), (2, .int a2)] []
  unfold X_need_wp at h
  refine x_aload_n hC dX_need_0 rfl 0 rfl ?_
  refine x_iload_n hC dX_need_1 rfl 1 rfl ?_
  refine x_callVvT (S := Unit) (wf := fun u => (wX ad cI cL cO sc sd src itm knd plc clk ec nf ns nc wt bd off row hw rl tm ord tc)) hC (by decide) (by decide) [.int a1] (fun sz => c_X_checkEvent htr h sz) (by decide) (by decide) k_x144 k_x145 k_x146 (by decide) 1 rfl (by decide +kernel) ⟨by decide, by decide⟩ (Nat.le_of_ble_eq_true rfl) k_x147 k_x148 wX_0 rfl rfl dX_need_2 hlk hnh (fun _ h9 => h9) (fun u_2 h => ?_)
  refine x_aload_n hC dX_need_5 rfl 0 rfl ?_
  refine x_iload_n hC dX_need_6 rfl 2 rfl ?_
  refine x_callVvT (S := Unit) (wf := fun u => (wX ad cI cL cO sc sd src itm knd plc clk ec nf ns nc wt bd off row hw rl tm ord tc)) hC (by decide) (by decide) [.int a2] (fun sz => c_X_checkEvent htr h sz) (by decide) (by decide) k_x144 k_x145 k_x146 (by decide) 1 rfl (by decide +kernel) ⟨by decide, by decide⟩ (Nat.le_of_ble_eq_true rfl) k_x147 k_x148 wX_0 rfl rfl dX_need_7 hlk hnh (fun _ h9 => h9) (fun u_4 h => ?_)
  refine x_iload_n hC dX_need_10 rfl 1 rfl ?_
  refine x_iload_n hC dX_need_11 rfl 2 rfl ?_
  refine x_icmp_ne (tgt := 25) hC dX_need_12 (by decide) (fun c_5 => ?_) (fun c_5 => ?_)
  · have h := h.1 c_5
    refine x_aload_n hC dX_need_25 rfl 0 rfl ?_
    refine x_get hC iX 0 wX_0 rfl 1 (by decide) k_x135 rfl rfl dX_need_26 ?_
    refine x_get hC iNd 7 wX_7 rfl 2 (by decide) k_x136 rfl rfl dX_need_29 ?_
    refine x_sipush (v := 300) hC dX_need_32 (by decide) ?_
    refine x_icmp_lt (tgt := 48) hC dX_need_35 (by decide) (fun c_6 => ?_) (fun c_6 => ?_)
    · have h := h.1 c_6
      refine x_aload_n hC dX_need_48 rfl 0 rfl ?_
      refine x_iconst (v := 0) hC dX_need_49 (by decide) ?_
      refine x_put (ty := .boolean) (ws' := (wX ad cI cL cO sc 0 src itm knd plc clk ec nf ns nc wt bd off row hw rl tm ord tc)) hC iX 0 wX_0 rfl 6 (by decide) k_x78 rfl tX tX_ok nX rfl (by decide +kernel) rfl rfl (Nat.le_of_ble_eq_true rfl) rfl dX_need_50 ?_
      refine x_aload_n hC dX_need_53 rfl 0 rfl ?_
      refine x_get hC iX 0 wX_0 rfl 1 (by decide) k_x135 rfl rfl dX_need_54 ?_
      refine x_iload_n hC dX_need_57 rfl 1 rfl ?_
      refine x_iload_n hC dX_need_58 rfl 2 rfl ?_
      refine x_callVi (S := ((Nat → Int32) × (Nat → Int32) × Int32)) (wf := fun u => (wX ad cI cL cO sc 0 src itm knd plc clk ec u.1 u.2.1 u.2.2 wt bd off row hw rl tm ord tc)) hC [.int a1, .int a2] (fun sz => c_Needs_add h sz) (by decide) (by decide) k_x137 k_x138 k_x139 (by decide) 2 rfl (by decide +kernel) ⟨by decide, by decide⟩ (Nat.le_of_ble_eq_true rfl) k_x140 k_x141 wX_7 rfl rfl dX_need_59 (fun _ h9 => h9) (fun r_7 u_8 h => ?_)
      exact hret _ _ (by decide) (by decide) r_7 (0, u_8.1, u_8.2.1, u_8.2.2) h _ _ dX_need_62
    · have h := h.2 c_6
      exact x_throw hC 3 rfl htr hlk hnh dX_need_38 dX_need_41 dX_need_42 dX_need_44 dX_need_47 k_x79 k_x80 (by decide +kernel) x_up_fit k_xa81 k_xo82 k_xs142 (by decide) (by decide) ⟨by decide, by decide⟩ (by decide) (by decide) h
  · have h := h.2 c_5
    exact x_throw hC 1 rfl htr hlk hnh dX_need_15 dX_need_18 dX_need_19 dX_need_21 dX_need_24 k_x90 k_x91 (by decide +kernel) x_up_fit k_xa92 k_xo93 k_xs143 (by decide) (by decide) ⟨by decide, by decide⟩ (by decide) (by decide) h

/-! EventOrder.settle()I -/
abbrev rm_X_settle : Room := { frames := 4, cells := 0, slots := 0, locals := 116 }
def X_settle_wp (sc : Int32) (sd : Int32) (src : (Nat → Int32)) (plc : (Nat → Int32)) (clk : (Nat → Int64)) (ec : Int32) (nf : (Nat → Int32)) (ns : (Nat → Int32)) (nc : Int32) (wt : (Nat → Nat → Int64)) (bd : (Nat → Nat → Int64)) (off : (Nat → Int64)) (row : (Nat → Int32)) (hw : (Nat → Nat → Int64)) (rl : Int32) (tm : (Nat → Int64)) (ord : (Nat → Int32)) (tc : Int32) (Qr : Int32 → (Int32 × (Nat → Nat → Int64) × (Nat → Nat → Int64) × (Nat → Int64) × (Nat → Int32) × (Nat → Nat → Int64) × Int32 × (Nat → Int64) × (Nat → Int32) × Int32) → Prop) : Prop := Limits_weigh_1_7_wp src clk nf ns nc wt sc (fun (u_2 : (Nat → Nat → Int64)) => Limits_findBounds_wp u_2 bd sc (fun (r_3 : Int32) (u_4 : (Nat → Nat → Int64)) => x_bool r_3 ∧ ((¬ r_3 = 0 → Limits_chooseOffsets_wp u_4 off sc (fun (u_8 : (Nat → Int64)) => Timeline_lay_1_13_wp src plc clk ec u_8 tm ord tc (fun (u_10 : ((Nat → Int64) × (Nat → Int32) × Int32)) => Qr 1 (r_3, u_2, u_4, u_8, row, hw, 0, u_10.1, u_10.2.1, u_10.2.2)))) ∧ (r_3 = 0 → Ring_find_11_wp u_2 row hw rl sc (fun (u_12 : ((Nat → Int32) × (Nat → Nat → Int64) × Int32)) => Qr (-u_12.2.2) (r_3, u_2, u_4, off, u_12.1, u_12.2.1, u_12.2.2, tm, ord, tc))))))
set_option maxHeartbeats 4000000 in
set_option maxRecDepth 100000 in
theorem c_X_settle {l : Launch} {D : va_G} {ad : Nat → Nat} {cI cL cO : ClassId} {sc : Int32} {sd : Int32} {src : (Nat → Int32)} {itm : (Nat → Int32)} {knd : (Nat → Int32)} {plc : (Nat → Int32)} {clk : (Nat → Int64)} {ec : Int32} {nf : (Nat → Int32)} {ns : (Nat → Int32)} {nc : Int32} {wt : (Nat → Nat → Int64)} {bd : (Nat → Nat → Int64)} {off : (Nat → Int64)} {row : (Nat → Int32)} {hw : (Nat → Nat → Int64)} {rl : Int32} {tm : (Nat → Int64)} {ord : (Nat → Int32)} {tc : Int32} {Qr : Int32 → (Int32 × (Nat → Nat → Int64) × (Nat → Nat → Int64) × (Nat → Int64) × (Nat → Int32) × (Nat → Nat → Int64) × Int32 × (Nat → Int64) × (Nat → Int32) × Int32) → Prop} (h : X_settle_wp sc sd src plc clk ec nf ns nc wt bd off row hw rl tm ord tc Qr) (sz : Nat) : vx_Met l yX_settle (Cond.code yX_settle bX_settle 1 (some .int) :: TBL) rm_X_settle (va_Pc [.ref (ad 0)] (XP D vwCl (tysX cI cL cO) (wX ad cI cL cO sc sd src itm knd plc clk ec nf ns nc wt bd off row hw rl tm ord tc) sz)) (va_Qi Qr (fun u t => XB D vwCl (tysX cI cL cO) (va_A (wX ad cI cL cO sc sd src itm knd plc clk ec nf ns nc wt bd off row hw rl tm ord tc) sz) (wX ad cI cL cO sc u.1 src itm knd plc clk ec nf ns nc u.2.1 u.2.2.1 u.2.2.2.1 u.2.2.2.2.1 u.2.2.2.2.2.1 u.2.2.2.2.2.2.1 u.2.2.2.2.2.2.2.1 u.2.2.2.2.2.2.2.2.1 u.2.2.2.2.2.2.2.2.2) t) (va_A (wX ad cI cL cO sc sd src itm knd plc clk ec nf ns nc wt bd off row hw rl tm ord tc) sz)) (XT D vwCl (tysX cI cL cO) (va_A (wX ad cI cL cO sc sd src itm knd plc clk ec nf ns nc wt bd off row hw rl tm ord tc) sz) (wX ad cI cL cO sc sd src itm knd plc clk ec nf ns nc wt bd off row hw rl tm ord tc) (fun _ => False)) rm_X_settle.cells rm_X_settle.slots (va_A (wX ad cI cL cO sc sd src itm knd plc clk ec nf ns nc wt bd off row hw rl tm ord tc) sz) := by
  refine x_met [.ref (ad 0)] TBL_good (by decide) (Nat.le_of_ble_eq_true rfl) ?_
  intro p e s m args below meth c hC hr hlk hnm hnh
  have hret : ∀ (ce sl : Nat), ce ≤ rm_X_settle.cells → sl ≤ rm_X_settle.slots → ∀ (r : Int32) (u : (Int32 × (Nat → Nat → Int64) × (Nat → Nat → Int64) × (Nat → Int64) × (Nat → Int32) × (Nat → Nat → Int64) × Int32 × (Nat → Int64) × (Nat → Int32) × Int32)), Qr r u → ∀ (pc : Nat) (lv : List (Nat × Value)), decode bX_settle pc = .ok (.ireturn, 1) → XW p l e rm_X_settle s m args below meth c D vwCl (va_A (wX ad cI cL cO sc sd src itm knd plc clk ec nf ns nc wt bd off row hw rl tm ord tc) sz) 1 (vx_MQ below (va_Qi Qr (fun u t => XB D vwCl (tysX cI cL cO) (va_A (wX ad cI cL cO sc sd src itm knd plc clk ec nf ns nc wt bd off row hw rl tm ord tc) sz) (wX ad cI cL cO sc u.1 src itm knd plc clk ec nf ns nc u.2.1 u.2.2.1 u.2.2.2.1 u.2.2.2.2.1 u.2.2.2.2.2.1 u.2.2.2.2.2.2.1 u.2.2.2.2.2.2.2.1 u.2.2.2.2.2.2.2.2.1 u.2.2.2.2.2.2.2.2.2) t) (va_A (wX ad cI cL cO sc sd src itm knd plc clk ec nf ns nc wt bd off row hw rl tm ord tc) sz)) (XT D vwCl (tysX cI cL cO) (va_A (wX ad cI cL cO sc sd src itm knd plc clk ec nf ns nc wt bd off row hw rl tm ord tc) sz) (wX ad cI cL cO sc sd src itm knd plc clk ec nf ns nc wt bd off row hw rl tm ord tc) (fun _ => False)) args s rm_X_settle.cells rm_X_settle.slots (va_A (wX ad cI cL cO sc sd src itm knd plc clk ec nf ns nc wt bd off row hw rl tm ord tc) sz)) ce sl (wX ad cI cL cO sc u.1 src itm knd plc clk ec nf ns nc u.2.1 u.2.2.1 u.2.2.2.1 u.2.2.2.2.1 u.2.2.2.2.2.1 u.2.2.2.2.2.2.1 u.2.2.2.2.2.2.2.1 u.2.2.2.2.2.2.2.2.1 u.2.2.2.2.2.2.2.2.2) pc lv [.int r] := fun ce sl h1 h2 r u hq pc lv hd => x_iret (wf := fun u => (wX ad cI cL cO sc u.1 src itm knd plc clk ec nf ns nc u.2.1 u.2.2.1 u.2.2.2.1 u.2.2.2.2.1 u.2.2.2.2.2.1 u.2.2.2.2.2.2.1 u.2.2.2.2.2.2.2.1 u.2.2.2.2.2.2.2.2.1 u.2.2.2.2.2.2.2.2.2)) hC h1 h2 hr hlk hd hq rfl
  show XW p l e rm_X_settle s m args below meth c D vwCl (va_A (wX ad cI cL cO sc sd src itm knd plc clk ec nf ns nc wt bd off row hw rl tm ord tc) sz) 1 _ 0 0 (wX ad cI cL cO sc sd src itm knd plc clk ec nf ns nc wt bd off row hw rl tm ord tc) 0 [(0, .ref (ad 0))] []
  unfold X_settle_wp at h
  refine x_aload_n hC dX_settle_0 rfl 0 rfl ?_
  refine x_get hC iX 0 wX_0 rfl 2 (by decide) k_x149 rfl rfl dX_settle_1 ?_
  refine x_aload_n hC dX_settle_4 rfl 0 rfl ?_
  refine x_get hC iX 0 wX_0 rfl 5 (by decide) k_x77 rfl rfl dX_settle_5 ?_
  refine x_aload_n hC dX_settle_8 rfl 0 rfl ?_
  refine x_get hC iX 0 wX_0 rfl 0 (by decide) k_x104 rfl rfl dX_settle_9 ?_
  refine x_aload_n hC dX_settle_12 rfl 0 rfl ?_
  refine x_get hC iX 0 wX_0 rfl 1 (by decide) k_x135 rfl rfl dX_settle_13 ?_
  refine x_callVv (S := (Nat → Nat → Int64)) (wf := fun u => (wX ad cI cL cO sc sd src itm knd plc clk ec nf ns nc u bd off row hw rl tm ord tc)) hC [.int sc, .ref (ad 1), .ref (ad 7)] (fun sz => c_Limits_weigh_1_7 h sz) (by decide) (by decide) k_x175 k_x176 k_x177 (by decide) 3 rfl (by decide +kernel) ⟨by decide, by decide⟩ (Nat.le_of_ble_eq_true rfl) k_x178 k_x179 wX_10 rfl rfl dX_settle_16 (fun _ h9 => h9) (fun u_2 h => ?_)
  refine x_aload_n hC dX_settle_19 rfl 0 rfl ?_
  refine x_aload_n hC dX_settle_20 rfl 0 rfl ?_
  refine x_get hC iX 0 wX_0 rfl 2 (by decide) k_x149 rfl rfl dX_settle_21 ?_
  refine x_aload_n hC dX_settle_24 rfl 0 rfl ?_
  refine x_get hC iX 0 wX_0 rfl 5 (by decide) k_x77 rfl rfl dX_settle_25 ?_
  refine x_callVi (S := (Nat → Nat → Int64)) (wf := fun u => (wX ad cI cL cO sc sd src itm knd plc clk ec nf ns nc u_2 u off row hw rl tm ord tc)) hC [.int sc] (fun sz => c_Limits_findBounds h sz) (by decide) (by decide) k_x170 k_x171 k_x172 (by decide) 1 rfl (by decide +kernel) ⟨by decide, by decide⟩ (Nat.le_of_ble_eq_true rfl) k_x173 k_x174 wX_10 rfl rfl dX_settle_28 (fun _ h9 => h9) (fun r_3 u_4 h => ?_)
  obtain ⟨hb_5, h⟩ := h
  refine x_put (ty := .boolean) (ws' := (wX ad cI cL cO sc r_3 src itm knd plc clk ec nf ns nc u_2 u_4 off row hw rl tm ord tc)) hC iX 0 wX_0 rfl 6 (by decide) k_x78 rfl tX tX_ok nX rfl (by decide +kernel) (x_bool_nar hb_5) (x_bool_fit hb_5) (Nat.le_of_ble_eq_true rfl) rfl dX_settle_31 ?_
  refine x_aload_n hC dX_settle_34 rfl 0 rfl ?_
  refine x_get hC iX 0 wX_0 rfl 6 (by decide) k_x78 rfl rfl dX_settle_35 ?_
  refine x_if_ne (tgt := 68) hC dX_settle_38 (by decide) (fun c_6 => ?_) (fun c_6 => ?_)
  · have h := h.1 c_6
    refine x_aload_n hC dX_settle_68 rfl 0 rfl ?_
    refine x_get hC iX 0 wX_0 rfl 3 (by decide) k_x150 rfl rfl dX_settle_69 ?_
    refine x_iconst (v := 0) hC dX_settle_72 (by decide) ?_
    refine x_put (ty := .int) (ws' := (wX ad cI cL cO sc r_3 src itm knd plc clk ec nf ns nc u_2 u_4 off row hw 0 tm ord tc)) hC iRg 14 wX_14 rfl 2 (by decide) k_x151 rfl tRg tRg_ok nRg rfl (by decide +kernel) rfl rfl (Nat.le_of_ble_eq_true rfl) rfl dX_settle_73 ?_
    refine x_aload_n hC dX_settle_76 rfl 0 rfl ?_
    refine x_get hC iX 0 wX_0 rfl 2 (by decide) k_x149 rfl rfl dX_settle_77 ?_
    refine x_aload_n hC dX_settle_80 rfl 0 rfl ?_
    refine x_get hC iX 0 wX_0 rfl 5 (by decide) k_x77 rfl rfl dX_settle_81 ?_
    refine x_callVv (S := (Nat → Int64)) (wf := fun u => (wX ad cI cL cO sc r_3 src itm knd plc clk ec nf ns nc u_2 u_4 u row hw 0 tm ord tc)) hC [.int sc] (fun sz => c_Limits_chooseOffsets h sz) (by decide) (by decide) k_x159 k_x160 k_x161 (by decide) 1 rfl (by decide +kernel) ⟨by decide, by decide⟩ (Nat.le_of_ble_eq_true rfl) k_x162 k_x163 wX_10 rfl rfl dX_settle_84 (fun _ h9 => h9) (fun u_8 h => ?_)
    refine x_aload_n hC dX_settle_87 rfl 0 rfl ?_
    refine x_get hC iX 0 wX_0 rfl 4 (by decide) k_x152 rfl rfl dX_settle_88 ?_
    refine x_aload_n hC dX_settle_91 rfl 0 rfl ?_
    refine x_get hC iX 0 wX_0 rfl 0 (by decide) k_x104 rfl rfl dX_settle_92 ?_
    refine x_aload_n hC dX_settle_95 rfl 0 rfl ?_
    refine x_get hC iX 0 wX_0 rfl 2 (by decide) k_x149 rfl rfl dX_settle_96 ?_
    refine x_get hC iLi 10 wX_10 rfl 2 (by decide) k_x153 rfl rfl dX_settle_99 ?_
    refine x_callVv (S := ((Nat → Int64) × (Nat → Int32) × Int32)) (wf := fun u => (wX ad cI cL cO sc r_3 src itm knd plc clk ec nf ns nc u_2 u_4 u_8 row hw 0 u.1 u.2.1 u.2.2)) hC [.ref (ad 1), .ref (ad 13)] (fun sz => c_Timeline_lay_1_13 h sz) (by decide) (by decide) k_x154 k_x155 k_x156 (by decide) 2 rfl (by decide +kernel) ⟨by decide, by decide⟩ (Nat.le_of_ble_eq_true rfl) k_x157 k_x158 wX_17 rfl rfl dX_settle_102 (fun _ h9 => h9) (fun u_10 h => ?_)
    refine x_iconst (v := 1) hC dX_settle_105 (by decide) ?_
    exact hret _ _ (by decide) (by decide) 1 (r_3, u_2, u_4, u_8, row, hw, 0, u_10.1, u_10.2.1, u_10.2.2) h _ _ dX_settle_106
  · have h := h.2 c_6
    refine x_aload_n hC dX_settle_41 rfl 0 rfl ?_
    refine x_get hC iX 0 wX_0 rfl 3 (by decide) k_x150 rfl rfl dX_settle_42 ?_
    refine x_aload_n hC dX_settle_45 rfl 0 rfl ?_
    refine x_get hC iX 0 wX_0 rfl 5 (by decide) k_x77 rfl rfl dX_settle_46 ?_
    refine x_aload_n hC dX_settle_49 rfl 0 rfl ?_
    refine x_get hC iX 0 wX_0 rfl 2 (by decide) k_x149 rfl rfl dX_settle_50 ?_
    refine x_get hC iLi 10 wX_10 rfl 0 (by decide) k_x164 rfl rfl dX_settle_53 ?_
    refine x_callVv (S := ((Nat → Int32) × (Nat → Nat → Int64) × Int32)) (wf := fun u => (wX ad cI cL cO sc r_3 src itm knd plc clk ec nf ns nc u_2 u_4 off u.1 u.2.1 u.2.2 tm ord tc)) hC [.int sc, .ref (ad 11)] (fun sz => c_Ring_find_11 h sz) (by decide) (by decide) k_x165 k_x166 k_x167 (by decide) 2 rfl (by decide +kernel) ⟨by decide, by decide⟩ (Nat.le_of_ble_eq_true rfl) k_x168 k_x169 wX_14 rfl rfl dX_settle_56 (fun _ h9 => h9) (fun u_12 h => ?_)
    refine x_aload_n hC dX_settle_59 rfl 0 rfl ?_
    refine x_get hC iX 0 wX_0 rfl 3 (by decide) k_x150 rfl rfl dX_settle_60 ?_
    refine x_get hC iRg 14 wX_14 rfl 2 (by decide) k_x151 rfl rfl dX_settle_63 ?_
    refine x_ineg hC dX_settle_66 ?_
    exact hret _ _ (by decide) (by decide) (-u_12.2.2) (r_3, u_2, u_4, off, u_12.1, u_12.2.1, u_12.2.2, tm, ord, tc) h _ _ dX_settle_67

/-! EventOrder.ring(I)I -/
abbrev rm_X_ring : Room := { frames := 0, cells := 0, slots := 0, locals := 0 }
def X_ring_wp (row : (Nat → Int32)) (rl : Int32) (a1 : Int32) (Qr : Int32 → Unit → Prop) : Prop := ((a1 < 0 → Qr (-1) ()) ∧ (¬ a1 < 0 → ((a1 < rl → vp_in a1 16 ∧ Qr (row a1.toNatClampNeg) ()) ∧ (¬ a1 < rl → Qr (-1) ()))))
set_option maxHeartbeats 4000000 in
set_option maxRecDepth 100000 in
theorem c_X_ring {l : Launch} {D : va_G} {ad : Nat → Nat} {cI cL cO : ClassId} {sc : Int32} {sd : Int32} {src : (Nat → Int32)} {itm : (Nat → Int32)} {knd : (Nat → Int32)} {plc : (Nat → Int32)} {clk : (Nat → Int64)} {ec : Int32} {nf : (Nat → Int32)} {ns : (Nat → Int32)} {nc : Int32} {wt : (Nat → Nat → Int64)} {bd : (Nat → Nat → Int64)} {off : (Nat → Int64)} {row : (Nat → Int32)} {hw : (Nat → Nat → Int64)} {rl : Int32} {tm : (Nat → Int64)} {ord : (Nat → Int32)} {tc : Int32} {a1 : Int32} {Qr : Int32 → Unit → Prop} (h : X_ring_wp row rl a1 Qr) (sz : Nat) : vx_Met l yX_ring (Cond.code yX_ring bX_ring 2 (some .int) :: TBL) rm_X_ring (va_Pc [.ref (ad 0), .int a1] (XP D vwCl (tysX cI cL cO) (wX ad cI cL cO sc sd src itm knd plc clk ec nf ns nc wt bd off row hw rl tm ord tc) sz)) (va_Qi Qr (fun u t => XB D vwCl (tysX cI cL cO) (va_A (wX ad cI cL cO sc sd src itm knd plc clk ec nf ns nc wt bd off row hw rl tm ord tc) sz) (wX ad cI cL cO sc sd src itm knd plc clk ec nf ns nc wt bd off row hw rl tm ord tc) t) (va_A (wX ad cI cL cO sc sd src itm knd plc clk ec nf ns nc wt bd off row hw rl tm ord tc) sz)) (XT D vwCl (tysX cI cL cO) (va_A (wX ad cI cL cO sc sd src itm knd plc clk ec nf ns nc wt bd off row hw rl tm ord tc) sz) (wX ad cI cL cO sc sd src itm knd plc clk ec nf ns nc wt bd off row hw rl tm ord tc) (fun _ => False)) rm_X_ring.cells rm_X_ring.slots (va_A (wX ad cI cL cO sc sd src itm knd plc clk ec nf ns nc wt bd off row hw rl tm ord tc) sz) := by
  refine x_met [.ref (ad 0), .int a1] TBL_good (by decide) (Nat.le_of_ble_eq_true rfl) ?_
  intro p e s m args below meth c hC hr hlk hnm hnh
  have hret : ∀ (ce sl : Nat), ce ≤ rm_X_ring.cells → sl ≤ rm_X_ring.slots → ∀ (r : Int32) (u : Unit), Qr r u → ∀ (pc : Nat) (lv : List (Nat × Value)), decode bX_ring pc = .ok (.ireturn, 1) → XW p l e rm_X_ring s m args below meth c D vwCl (va_A (wX ad cI cL cO sc sd src itm knd plc clk ec nf ns nc wt bd off row hw rl tm ord tc) sz) 2 (vx_MQ below (va_Qi Qr (fun u t => XB D vwCl (tysX cI cL cO) (va_A (wX ad cI cL cO sc sd src itm knd plc clk ec nf ns nc wt bd off row hw rl tm ord tc) sz) (wX ad cI cL cO sc sd src itm knd plc clk ec nf ns nc wt bd off row hw rl tm ord tc) t) (va_A (wX ad cI cL cO sc sd src itm knd plc clk ec nf ns nc wt bd off row hw rl tm ord tc) sz)) (XT D vwCl (tysX cI cL cO) (va_A (wX ad cI cL cO sc sd src itm knd plc clk ec nf ns nc wt bd off row hw rl tm ord tc) sz) (wX ad cI cL cO sc sd src itm knd plc clk ec nf ns nc wt bd off row hw rl tm ord tc) (fun _ => False)) args s rm_X_ring.cells rm_X_ring.slots (va_A (wX ad cI cL cO sc sd src itm knd plc clk ec nf ns nc wt bd off row hw rl tm ord tc) sz)) ce sl (wX ad cI cL cO sc sd src itm knd plc clk ec nf ns nc wt bd off row hw rl tm ord tc) pc lv [.int r] := fun ce sl h1 h2 r u hq pc lv hd => x_iret (wf := fun u => (wX ad cI cL cO sc sd src itm knd plc clk ec nf ns nc wt bd off row hw rl tm ord tc)) hC h1 h2 hr hlk hd hq rfl
  show XW p l e rm_X_ring s m args below meth c D vwCl (va_A (wX ad cI cL cO sc sd src itm knd plc clk ec nf ns nc wt bd off row hw rl tm ord tc) sz) 2 _ 0 0 (wX ad cI cL cO sc sd src itm knd plc clk ec nf ns nc wt bd off row hw rl tm ord tc) 0 [(0, .ref (ad 0)), (1, .int a1)] []
  unfold X_ring_wp at h
  refine x_iload_n hC dX_ring_0 rfl 1 rfl ?_
  refine x_if_lt (tgt := 15) hC dX_ring_1 (by decide) (fun c_1 => ?_) (fun c_1 => ?_)
  · have h := h.1 c_1
    refine x_iconst (v := -1) hC dX_ring_15 (by decide) ?_
    exact hret _ _ (by decide) (by decide) (-1) () h _ _ dX_ring_16
  · have h := h.2 c_1
    refine x_iload_n hC dX_ring_4 rfl 1 rfl ?_
    refine x_aload_n hC dX_ring_5 rfl 0 rfl ?_
    refine x_get hC iX 0 wX_0 rfl 3 (by decide) k_x150 rfl rfl dX_ring_6 ?_
    refine x_get hC iRg 14 wX_14 rfl 2 (by decide) k_x151 rfl rfl dX_ring_9 ?_
    refine x_icmp_lt (tgt := 17) hC dX_ring_12 (by decide) (fun c_2 => ?_) (fun c_2 => ?_)
    · have h := h.1 c_2
      refine x_aload_n hC dX_ring_17 rfl 0 rfl ?_
      refine x_get hC iX 0 wX_0 rfl 3 (by decide) k_x150 rfl rfl dX_ring_18 ?_
      refine x_get hC iRg 14 wX_14 rfl 0 (by decide) k_x180 rfl rfl dX_ring_21 ?_
      refine x_iload_n hC dX_ring_24 rfl 1 rfl ?_
      obtain ⟨hb_3, h⟩ := h
      refine x_iald hC 15 0 wX_15 rfl hb_3 dX_ring_25 ?_
      exact hret _ _ (by decide) (by decide) (row a1.toNatClampNeg) () h _ _ dX_ring_26
    · have h := h.2 c_2
      refine x_iconst (v := -1) hC dX_ring_15 (by decide) ?_
      exact hret _ _ (by decide) (by decide) (-1) () h _ _ dX_ring_16

/-! EventOrder.checkSettled()V -/
abbrev rm_X_checkSettled : Room := { frames := 6, cells := 1, slots := 6, locals := 120 }
def X_checkSettled_wp (sd : Int32) (Qr : Unit → Prop) (Qt : Nat → Prop) : Prop := ((¬ sd = 0 → Qr ()) ∧ (sd = 0 → Qt 2))
set_option maxHeartbeats 4000000 in
set_option maxRecDepth 100000 in
theorem c_X_checkSettled {l : Launch} {D : va_G} {ad : Nat → Nat} {cI cL cO : ClassId} {sc : Int32} {sd : Int32} {src : (Nat → Int32)} {itm : (Nat → Int32)} {knd : (Nat → Int32)} {plc : (Nat → Int32)} {clk : (Nat → Int64)} {ec : Int32} {nf : (Nat → Int32)} {ns : (Nat → Int32)} {nc : Int32} {wt : (Nat → Nat → Int64)} {bd : (Nat → Nat → Int64)} {off : (Nat → Int64)} {row : (Nat → Int32)} {hw : (Nat → Nat → Int64)} {rl : Int32} {tm : (Nat → Int64)} {ord : (Nat → Int32)} {tc : Int32} {Qr : Unit → Prop} {Qt : Nat → Prop} (htr : l.stackTraces = false) (h : X_checkSettled_wp sd Qr Qt) (sz : Nat) : vx_Met l yX_checkSettled (Cond.code yX_checkSettled bX_checkSettled 1 none :: TBL) rm_X_checkSettled (va_Pc [.ref (ad 0)] (XP D vwCl (tysX cI cL cO) (wX ad cI cL cO sc sd src itm knd plc clk ec nf ns nc wt bd off row hw rl tm ord tc) sz)) (va_Qv Qr (fun u t => XB D vwCl (tysX cI cL cO) (va_A (wX ad cI cL cO sc sd src itm knd plc clk ec nf ns nc wt bd off row hw rl tm ord tc) sz) (wX ad cI cL cO sc sd src itm knd plc clk ec nf ns nc wt bd off row hw rl tm ord tc) t) (va_A (wX ad cI cL cO sc sd src itm knd plc clk ec nf ns nc wt bd off row hw rl tm ord tc) sz)) (XT D vwCl (tysX cI cL cO) (va_A (wX ad cI cL cO sc sd src itm knd plc clk ec nf ns nc wt bd off row hw rl tm ord tc) sz) (wX ad cI cL cO sc sd src itm knd plc clk ec nf ns nc wt bd off row hw rl tm ord tc) Qt) rm_X_checkSettled.cells rm_X_checkSettled.slots (va_A (wX ad cI cL cO sc sd src itm knd plc clk ec nf ns nc wt bd off row hw rl tm ord tc) sz) := by
  refine x_met [.ref (ad 0)] TBL_good (by decide) (Nat.le_of_ble_eq_true rfl) ?_
  intro p e s m args below meth c hC hr hlk hnm hnh
  have hret : ∀ (ce sl : Nat), ce ≤ rm_X_checkSettled.cells → sl ≤ rm_X_checkSettled.slots → ∀ (u : Unit), Qr u → ∀ (pc : Nat) (lv : List (Nat × Value)), decode bX_checkSettled pc = .ok (.return_, 1) → XW p l e rm_X_checkSettled s m args below meth c D vwCl (va_A (wX ad cI cL cO sc sd src itm knd plc clk ec nf ns nc wt bd off row hw rl tm ord tc) sz) 1 (vx_MQ below (va_Qv Qr (fun u t => XB D vwCl (tysX cI cL cO) (va_A (wX ad cI cL cO sc sd src itm knd plc clk ec nf ns nc wt bd off row hw rl tm ord tc) sz) (wX ad cI cL cO sc sd src itm knd plc clk ec nf ns nc wt bd off row hw rl tm ord tc) t) (va_A (wX ad cI cL cO sc sd src itm knd plc clk ec nf ns nc wt bd off row hw rl tm ord tc) sz)) (XT D vwCl (tysX cI cL cO) (va_A (wX ad cI cL cO sc sd src itm knd plc clk ec nf ns nc wt bd off row hw rl tm ord tc) sz) (wX ad cI cL cO sc sd src itm knd plc clk ec nf ns nc wt bd off row hw rl tm ord tc) Qt) args s rm_X_checkSettled.cells rm_X_checkSettled.slots (va_A (wX ad cI cL cO sc sd src itm knd plc clk ec nf ns nc wt bd off row hw rl tm ord tc) sz)) ce sl (wX ad cI cL cO sc sd src itm knd plc clk ec nf ns nc wt bd off row hw rl tm ord tc) pc lv [] := fun ce sl h1 h2 u hq pc lv hd => x_vret (wf := fun u => (wX ad cI cL cO sc sd src itm knd plc clk ec nf ns nc wt bd off row hw rl tm ord tc)) hC h1 h2 hr hlk hd hq rfl
  show XW p l e rm_X_checkSettled s m args below meth c D vwCl (va_A (wX ad cI cL cO sc sd src itm knd plc clk ec nf ns nc wt bd off row hw rl tm ord tc) sz) 1 _ 0 0 (wX ad cI cL cO sc sd src itm knd plc clk ec nf ns nc wt bd off row hw rl tm ord tc) 0 [(0, .ref (ad 0))] []
  unfold X_checkSettled_wp at h
  refine x_aload_n hC dX_checkSettled_0 rfl 0 rfl ?_
  refine x_get hC iX 0 wX_0 rfl 6 (by decide) k_x78 rfl rfl dX_checkSettled_1 ?_
  refine x_if_ne (tgt := 17) hC dX_checkSettled_4 (by decide) (fun c_1 => ?_) (fun c_1 => ?_)
  · have h := h.1 c_1
    exact hret _ _ (by decide) (by decide) () h _ _ dX_checkSettled_17
  · have h := h.2 c_1
    exact x_throw hC 2 rfl htr hlk hnh dX_checkSettled_7 dX_checkSettled_10 dX_checkSettled_11 dX_checkSettled_13 dX_checkSettled_16 k_x181 k_x182 (by decide +kernel) x_up_fit k_xa183 k_xo184 k_xs185 (by decide) (by decide) ⟨by decide, by decide⟩ (by decide) (by decide) h

/-! EventOrder.offset(I)J -/
abbrev rm_X_offset : Room := { frames := 7, cells := 2, slots := 12, locals := 141 }
def X_offset_wp (sc : Int32) (sd : Int32) (off : (Nat → Int64)) (a1 : Int32) (Qr : Int64 → Unit → Prop) (Qt : Nat → Prop) : Prop := X_checkSource_wp sc a1 (fun (u_2 : Unit) => X_checkSettled_wp sd (fun (u_4 : Unit) => vp_in a1 16 ∧ Qr (off a1.toNatClampNeg) ()) Qt) Qt
set_option maxHeartbeats 4000000 in
set_option maxRecDepth 100000 in
theorem c_X_offset {l : Launch} {D : va_G} {ad : Nat → Nat} {cI cL cO : ClassId} {sc : Int32} {sd : Int32} {src : (Nat → Int32)} {itm : (Nat → Int32)} {knd : (Nat → Int32)} {plc : (Nat → Int32)} {clk : (Nat → Int64)} {ec : Int32} {nf : (Nat → Int32)} {ns : (Nat → Int32)} {nc : Int32} {wt : (Nat → Nat → Int64)} {bd : (Nat → Nat → Int64)} {off : (Nat → Int64)} {row : (Nat → Int32)} {hw : (Nat → Nat → Int64)} {rl : Int32} {tm : (Nat → Int64)} {ord : (Nat → Int32)} {tc : Int32} {a1 : Int32} {Qr : Int64 → Unit → Prop} {Qt : Nat → Prop} (htr : l.stackTraces = false) (h : X_offset_wp sc sd off a1 Qr Qt) (sz : Nat) : vx_Met l yX_offset (Cond.code yX_offset bX_offset 2 (some .long) :: TBL) rm_X_offset (va_Pc [.ref (ad 0), .int a1] (XP D vwCl (tysX cI cL cO) (wX ad cI cL cO sc sd src itm knd plc clk ec nf ns nc wt bd off row hw rl tm ord tc) sz)) (va_Ql Qr (fun u t => XB D vwCl (tysX cI cL cO) (va_A (wX ad cI cL cO sc sd src itm knd plc clk ec nf ns nc wt bd off row hw rl tm ord tc) sz) (wX ad cI cL cO sc sd src itm knd plc clk ec nf ns nc wt bd off row hw rl tm ord tc) t) (va_A (wX ad cI cL cO sc sd src itm knd plc clk ec nf ns nc wt bd off row hw rl tm ord tc) sz)) (XT D vwCl (tysX cI cL cO) (va_A (wX ad cI cL cO sc sd src itm knd plc clk ec nf ns nc wt bd off row hw rl tm ord tc) sz) (wX ad cI cL cO sc sd src itm knd plc clk ec nf ns nc wt bd off row hw rl tm ord tc) Qt) rm_X_offset.cells rm_X_offset.slots (va_A (wX ad cI cL cO sc sd src itm knd plc clk ec nf ns nc wt bd off row hw rl tm ord tc) sz) := by
  refine x_met [.ref (ad 0), .int a1] TBL_good (by decide) (Nat.le_of_ble_eq_true rfl) ?_
  intro p e s m args below meth c hC hr hlk hnm hnh
  have hret : ∀ (ce sl : Nat), ce ≤ rm_X_offset.cells → sl ≤ rm_X_offset.slots → ∀ (r : Int64) (u : Unit), Qr r u → ∀ (pc : Nat) (lv : List (Nat × Value)), decode bX_offset pc = .ok (.lreturn, 1) → XW p l e rm_X_offset s m args below meth c D vwCl (va_A (wX ad cI cL cO sc sd src itm knd plc clk ec nf ns nc wt bd off row hw rl tm ord tc) sz) 2 (vx_MQ below (va_Ql Qr (fun u t => XB D vwCl (tysX cI cL cO) (va_A (wX ad cI cL cO sc sd src itm knd plc clk ec nf ns nc wt bd off row hw rl tm ord tc) sz) (wX ad cI cL cO sc sd src itm knd plc clk ec nf ns nc wt bd off row hw rl tm ord tc) t) (va_A (wX ad cI cL cO sc sd src itm knd plc clk ec nf ns nc wt bd off row hw rl tm ord tc) sz)) (XT D vwCl (tysX cI cL cO) (va_A (wX ad cI cL cO sc sd src itm knd plc clk ec nf ns nc wt bd off row hw rl tm ord tc) sz) (wX ad cI cL cO sc sd src itm knd plc clk ec nf ns nc wt bd off row hw rl tm ord tc) Qt) args s rm_X_offset.cells rm_X_offset.slots (va_A (wX ad cI cL cO sc sd src itm knd plc clk ec nf ns nc wt bd off row hw rl tm ord tc) sz)) ce sl (wX ad cI cL cO sc sd src itm knd plc clk ec nf ns nc wt bd off row hw rl tm ord tc) pc lv [.long r] := fun ce sl h1 h2 r u hq pc lv hd => x_lret (wf := fun u => (wX ad cI cL cO sc sd src itm knd plc clk ec nf ns nc wt bd off row hw rl tm ord tc)) hC h1 h2 hr hlk hd hq rfl
  show XW p l e rm_X_offset s m args below meth c D vwCl (va_A (wX ad cI cL cO sc sd src itm knd plc clk ec nf ns nc wt bd off row hw rl tm ord tc) sz) 2 _ 0 0 (wX ad cI cL cO sc sd src itm knd plc clk ec nf ns nc wt bd off row hw rl tm ord tc) 0 [(0, .ref (ad 0)), (1, .int a1)] []
  unfold X_offset_wp at h
  refine x_aload_n hC dX_offset_0 rfl 0 rfl ?_
  refine x_iload_n hC dX_offset_1 rfl 1 rfl ?_
  refine x_callVvT (S := Unit) (wf := fun u => (wX ad cI cL cO sc sd src itm knd plc clk ec nf ns nc wt bd off row hw rl tm ord tc)) hC (by decide) (by decide) [.int a1] (fun sz => c_X_checkSource htr h sz) (by decide) (by decide) k_x129 k_x130 k_x131 (by decide) 1 rfl (by decide +kernel) ⟨by decide, by decide⟩ (Nat.le_of_ble_eq_true rfl) k_x132 k_x133 wX_0 rfl rfl dX_offset_2 hlk hnh (fun _ h9 => h9) (fun u_2 h => ?_)
  refine x_aload_n hC dX_offset_5 rfl 0 rfl ?_
  refine x_callVvT (S := Unit) (wf := fun u => (wX ad cI cL cO sc sd src itm knd plc clk ec nf ns nc wt bd off row hw rl tm ord tc)) hC (by decide) (by decide) [] (fun sz => c_X_checkSettled htr h sz) (by decide) (by decide) k_x186 k_x187 k_x188 (by decide) 0 rfl (by decide +kernel) ⟨by decide, by decide⟩ (Nat.le_of_ble_eq_true rfl) k_x189 k_x190 wX_0 rfl rfl dX_offset_6 hlk hnh (fun _ h9 => h9) (fun u_4 h => ?_)
  refine x_aload_n hC dX_offset_9 rfl 0 rfl ?_
  refine x_get hC iX 0 wX_0 rfl 2 (by decide) k_x149 rfl rfl dX_offset_10 ?_
  refine x_get hC iLi 10 wX_10 rfl 2 (by decide) k_x153 rfl rfl dX_offset_13 ?_
  refine x_iload_n hC dX_offset_16 rfl 1 rfl ?_
  obtain ⟨hb_5, h⟩ := h
  refine x_lald hC 13 1 wX_13 rfl hb_5 dX_offset_17 ?_
  exact hret _ _ (by decide) (by decide) (off a1.toNatClampNeg) () h _ _ dX_offset_18

/-! EventOrder.bound(II)J -/
abbrev rm_X_bound : Room := { frames := 7, cells := 3, slots := 18, locals := 141 }
def X_bound_wp (sc : Int32) (sd : Int32) (bd : (Nat → Nat → Int64)) (a1 : Int32) (a2 : Int32) (Qr : Int64 → Unit → Prop) (Qt : Nat → Prop) : Prop := X_checkSource_wp sc a1 (fun (u_2 : Unit) => X_checkSource_wp sc a2 (fun (u_4 : Unit) => X_checkSettled_wp sd (fun (u_6 : Unit) => vp_in a1 16 ∧ vp_in a2 16 ∧ Qr ((bd a1.toNatClampNeg) a2.toNatClampNeg) ()) Qt) Qt) Qt
set_option maxHeartbeats 4000000 in
set_option maxRecDepth 100000 in
theorem c_X_bound {l : Launch} {D : va_G} {ad : Nat → Nat} {cI cL cO : ClassId} {sc : Int32} {sd : Int32} {src : (Nat → Int32)} {itm : (Nat → Int32)} {knd : (Nat → Int32)} {plc : (Nat → Int32)} {clk : (Nat → Int64)} {ec : Int32} {nf : (Nat → Int32)} {ns : (Nat → Int32)} {nc : Int32} {wt : (Nat → Nat → Int64)} {bd : (Nat → Nat → Int64)} {off : (Nat → Int64)} {row : (Nat → Int32)} {hw : (Nat → Nat → Int64)} {rl : Int32} {tm : (Nat → Int64)} {ord : (Nat → Int32)} {tc : Int32} {a1 : Int32} {a2 : Int32} {Qr : Int64 → Unit → Prop} {Qt : Nat → Prop} (htr : l.stackTraces = false) (h : X_bound_wp sc sd bd a1 a2 Qr Qt) (sz : Nat) : vx_Met l yX_bound (Cond.code yX_bound bX_bound 3 (some .long) :: TBL) rm_X_bound (va_Pc [.ref (ad 0), .int a1, .int a2] (XP D vwCl (tysX cI cL cO) (wX ad cI cL cO sc sd src itm knd plc clk ec nf ns nc wt bd off row hw rl tm ord tc) sz)) (va_Ql Qr (fun u t => XB D vwCl (tysX cI cL cO) (va_A (wX ad cI cL cO sc sd src itm knd plc clk ec nf ns nc wt bd off row hw rl tm ord tc) sz) (wX ad cI cL cO sc sd src itm knd plc clk ec nf ns nc wt bd off row hw rl tm ord tc) t) (va_A (wX ad cI cL cO sc sd src itm knd plc clk ec nf ns nc wt bd off row hw rl tm ord tc) sz)) (XT D vwCl (tysX cI cL cO) (va_A (wX ad cI cL cO sc sd src itm knd plc clk ec nf ns nc wt bd off row hw rl tm ord tc) sz) (wX ad cI cL cO sc sd src itm knd plc clk ec nf ns nc wt bd off row hw rl tm ord tc) Qt) rm_X_bound.cells rm_X_bound.slots (va_A (wX ad cI cL cO sc sd src itm knd plc clk ec nf ns nc wt bd off row hw rl tm ord tc) sz) := by
  refine x_met [.ref (ad 0), .int a1, .int a2] TBL_good (by decide) (Nat.le_of_ble_eq_true rfl) ?_
  intro p e s m args below meth c hC hr hlk hnm hnh
  have hret : ∀ (ce sl : Nat), ce ≤ rm_X_bound.cells → sl ≤ rm_X_bound.slots → ∀ (r : Int64) (u : Unit), Qr r u → ∀ (pc : Nat) (lv : List (Nat × Value)), decode bX_bound pc = .ok (.lreturn, 1) → XW p l e rm_X_bound s m args below meth c D vwCl (va_A (wX ad cI cL cO sc sd src itm knd plc clk ec nf ns nc wt bd off row hw rl tm ord tc) sz) 3 (vx_MQ below (va_Ql Qr (fun u t => XB D vwCl (tysX cI cL cO) (va_A (wX ad cI cL cO sc sd src itm knd plc clk ec nf ns nc wt bd off row hw rl tm ord tc) sz) (wX ad cI cL cO sc sd src itm knd plc clk ec nf ns nc wt bd off row hw rl tm ord tc) t) (va_A (wX ad cI cL cO sc sd src itm knd plc clk ec nf ns nc wt bd off row hw rl tm ord tc) sz)) (XT D vwCl (tysX cI cL cO) (va_A (wX ad cI cL cO sc sd src itm knd plc clk ec nf ns nc wt bd off row hw rl tm ord tc) sz) (wX ad cI cL cO sc sd src itm knd plc clk ec nf ns nc wt bd off row hw rl tm ord tc) Qt) args s rm_X_bound.cells rm_X_bound.slots (va_A (wX ad cI cL cO sc sd src itm knd plc clk ec nf ns nc wt bd off row hw rl tm ord tc) sz)) ce sl (wX ad cI cL cO sc sd src itm knd plc clk ec nf ns nc wt bd off row hw rl tm ord tc) pc lv [.long r] := fun ce sl h1 h2 r u hq pc lv hd => x_lret (wf := fun u => (wX ad cI cL cO sc sd src itm knd plc clk ec nf ns nc wt bd off row hw rl tm ord tc)) hC h1 h2 hr hlk hd hq rfl
  show XW p l e rm_X_bound s m args below meth c D vwCl (va_A (wX ad cI cL cO sc sd src itm knd plc clk ec nf ns nc wt bd off row hw rl tm ord tc) sz) 3 _ 0 0 (wX ad cI cL cO sc sd src itm knd plc clk ec nf ns nc wt bd off row hw rl tm ord tc) 0 [(0, .ref (ad 0)), (1, .int a1), (2, .int a2)] []
  unfold X_bound_wp at h
  refine x_aload_n hC dX_bound_0 rfl 0 rfl ?_
  refine x_iload_n hC dX_bound_1 rfl 1 rfl ?_
  refine x_callVvT (S := Unit) (wf := fun u => (wX ad cI cL cO sc sd src itm knd plc clk ec nf ns nc wt bd off row hw rl tm ord tc)) hC (by decide) (by decide) [.int a1] (fun sz => c_X_checkSource htr h sz) (by decide) (by decide) k_x129 k_x130 k_x131 (by decide) 1 rfl (by decide +kernel) ⟨by decide, by decide⟩ (Nat.le_of_ble_eq_true rfl) k_x132 k_x133 wX_0 rfl rfl dX_bound_2 hlk hnh (fun _ h9 => h9) (fun u_2 h => ?_)
  refine x_aload_n hC dX_bound_5 rfl 0 rfl ?_
  refine x_iload_n hC dX_bound_6 rfl 2 rfl ?_
  refine x_callVvT (S := Unit) (wf := fun u => (wX ad cI cL cO sc sd src itm knd plc clk ec nf ns nc wt bd off row hw rl tm ord tc)) hC (by decide) (by decide) [.int a2] (fun sz => c_X_checkSource htr h sz) (by decide) (by decide) k_x129 k_x130 k_x131 (by decide) 1 rfl (by decide +kernel) ⟨by decide, by decide⟩ (Nat.le_of_ble_eq_true rfl) k_x132 k_x133 wX_0 rfl rfl dX_bound_7 hlk hnh (fun _ h9 => h9) (fun u_4 h => ?_)
  refine x_aload_n hC dX_bound_10 rfl 0 rfl ?_
  refine x_callVvT (S := Unit) (wf := fun u => (wX ad cI cL cO sc sd src itm knd plc clk ec nf ns nc wt bd off row hw rl tm ord tc)) hC (by decide) (by decide) [] (fun sz => c_X_checkSettled htr h sz) (by decide) (by decide) k_x186 k_x187 k_x188 (by decide) 0 rfl (by decide +kernel) ⟨by decide, by decide⟩ (Nat.le_of_ble_eq_true rfl) k_x189 k_x190 wX_0 rfl rfl dX_bound_11 hlk hnh (fun _ h9 => h9) (fun u_6 h => ?_)
  refine x_aload_n hC dX_bound_14 rfl 0 rfl ?_
  refine x_get hC iX 0 wX_0 rfl 2 (by decide) k_x149 rfl rfl dX_bound_15 ?_
  refine x_get hC iLi 10 wX_10 rfl 1 (by decide) k_x191 rfl rfl dX_bound_18 ?_
  refine x_iload_n hC dX_bound_21 rfl 1 rfl ?_
  obtain ⟨hb_7, h⟩ := h
  refine x_aald (y := ad (36 + a1.toNatClampNeg)) hC 12 2 wX_12 rfl rfl hb_7 rfl dX_bound_22 ?_
  refine x_iload_n hC dX_bound_23 rfl 2 rfl ?_
  obtain ⟨hb_8, h⟩ := h
  refine x_lald hC (36 + a1.toNatClampNeg) 1 (wX_bd (x_in_lt hb_7)) rfl hb_8 dX_bound_24 ?_
  exact hret _ _ (by decide) (by decide) ((bd a1.toNatClampNeg) a2.toNatClampNeg) () h _ _ dX_bound_25

/-! EventOrder.corrected(I)J -/
abbrev rm_X_corrected : Room := { frames := 7, cells := 2, slots := 12, locals := 141 }
def X_corrected_wp (sd : Int32) (ec : Int32) (tm : (Nat → Int64)) (a1 : Int32) (Qr : Int64 → Unit → Prop) (Qt : Nat → Prop) : Prop := X_checkEvent_wp ec a1 (fun (u_2 : Unit) => X_checkSettled_wp sd (fun (u_4 : Unit) => vp_in a1 301 ∧ Qr (tm a1.toNatClampNeg) ()) Qt) Qt
set_option maxHeartbeats 4000000 in
set_option maxRecDepth 100000 in
theorem c_X_corrected {l : Launch} {D : va_G} {ad : Nat → Nat} {cI cL cO : ClassId} {sc : Int32} {sd : Int32} {src : (Nat → Int32)} {itm : (Nat → Int32)} {knd : (Nat → Int32)} {plc : (Nat → Int32)} {clk : (Nat → Int64)} {ec : Int32} {nf : (Nat → Int32)} {ns : (Nat → Int32)} {nc : Int32} {wt : (Nat → Nat → Int64)} {bd : (Nat → Nat → Int64)} {off : (Nat → Int64)} {row : (Nat → Int32)} {hw : (Nat → Nat → Int64)} {rl : Int32} {tm : (Nat → Int64)} {ord : (Nat → Int32)} {tc : Int32} {a1 : Int32} {Qr : Int64 → Unit → Prop} {Qt : Nat → Prop} (htr : l.stackTraces = false) (h : X_corrected_wp sd ec tm a1 Qr Qt) (sz : Nat) : vx_Met l yX_corrected (Cond.code yX_corrected bX_corrected 2 (some .long) :: TBL) rm_X_corrected (va_Pc [.ref (ad 0), .int a1] (XP D vwCl (tysX cI cL cO) (wX ad cI cL cO sc sd src itm knd plc clk ec nf ns nc wt bd off row hw rl tm ord tc) sz)) (va_Ql Qr (fun u t => XB D vwCl (tysX cI cL cO) (va_A (wX ad cI cL cO sc sd src itm knd plc clk ec nf ns nc wt bd off row hw rl tm ord tc) sz) (wX ad cI cL cO sc sd src itm knd plc clk ec nf ns nc wt bd off row hw rl tm ord tc) t) (va_A (wX ad cI cL cO sc sd src itm knd plc clk ec nf ns nc wt bd off row hw rl tm ord tc) sz)) (XT D vwCl (tysX cI cL cO) (va_A (wX ad cI cL cO sc sd src itm knd plc clk ec nf ns nc wt bd off row hw rl tm ord tc) sz) (wX ad cI cL cO sc sd src itm knd plc clk ec nf ns nc wt bd off row hw rl tm ord tc) Qt) rm_X_corrected.cells rm_X_corrected.slots (va_A (wX ad cI cL cO sc sd src itm knd plc clk ec nf ns nc wt bd off row hw rl tm ord tc) sz) := by
  refine x_met [.ref (ad 0), .int a1] TBL_good (by decide) (Nat.le_of_ble_eq_true rfl) ?_
  intro p e s m args below meth c hC hr hlk hnm hnh
  have hret : ∀ (ce sl : Nat), ce ≤ rm_X_corrected.cells → sl ≤ rm_X_corrected.slots → ∀ (r : Int64) (u : Unit), Qr r u → ∀ (pc : Nat) (lv : List (Nat × Value)), decode bX_corrected pc = .ok (.lreturn, 1) → XW p l e rm_X_corrected s m args below meth c D vwCl (va_A (wX ad cI cL cO sc sd src itm knd plc clk ec nf ns nc wt bd off row hw rl tm ord tc) sz) 2 (vx_MQ below (va_Ql Qr (fun u t => XB D vwCl (tysX cI cL cO) (va_A (wX ad cI cL cO sc sd src itm knd plc clk ec nf ns nc wt bd off row hw rl tm ord tc) sz) (wX ad cI cL cO sc sd src itm knd plc clk ec nf ns nc wt bd off row hw rl tm ord tc) t) (va_A (wX ad cI cL cO sc sd src itm knd plc clk ec nf ns nc wt bd off row hw rl tm ord tc) sz)) (XT D vwCl (tysX cI cL cO) (va_A (wX ad cI cL cO sc sd src itm knd plc clk ec nf ns nc wt bd off row hw rl tm ord tc) sz) (wX ad cI cL cO sc sd src itm knd plc clk ec nf ns nc wt bd off row hw rl tm ord tc) Qt) args s rm_X_corrected.cells rm_X_corrected.slots (va_A (wX ad cI cL cO sc sd src itm knd plc clk ec nf ns nc wt bd off row hw rl tm ord tc) sz)) ce sl (wX ad cI cL cO sc sd src itm knd plc clk ec nf ns nc wt bd off row hw rl tm ord tc) pc lv [.long r] := fun ce sl h1 h2 r u hq pc lv hd => x_lret (wf := fun u => (wX ad cI cL cO sc sd src itm knd plc clk ec nf ns nc wt bd off row hw rl tm ord tc)) hC h1 h2 hr hlk hd hq rfl
  show XW p l e rm_X_corrected s m args below meth c D vwCl (va_A (wX ad cI cL cO sc sd src itm knd plc clk ec nf ns nc wt bd off row hw rl tm ord tc) sz) 2 _ 0 0 (wX ad cI cL cO sc sd src itm knd plc clk ec nf ns nc wt bd off row hw rl tm ord tc) 0 [(0, .ref (ad 0)), (1, .int a1)] []
  unfold X_corrected_wp at h
  refine x_aload_n hC dX_corrected_0 rfl 0 rfl ?_
  refine x_iload_n hC dX_corrected_1 rfl 1 rfl ?_
  refine x_callVvT (S := Unit) (wf := fun u => (wX ad cI cL cO sc sd src itm knd plc clk ec nf ns nc wt bd off row hw rl tm ord tc)) hC (by decide) (by decide) [.int a1] (fun sz => c_X_checkEvent htr h sz) (by decide) (by decide) k_x144 k_x145 k_x146 (by decide) 1 rfl (by decide +kernel) ⟨by decide, by decide⟩ (Nat.le_of_ble_eq_true rfl) k_x147 k_x148 wX_0 rfl rfl dX_corrected_2 hlk hnh (fun _ h9 => h9) (fun u_2 h => ?_)
  refine x_aload_n hC dX_corrected_5 rfl 0 rfl ?_
  refine x_callVvT (S := Unit) (wf := fun u => (wX ad cI cL cO sc sd src itm knd plc clk ec nf ns nc wt bd off row hw rl tm ord tc)) hC (by decide) (by decide) [] (fun sz => c_X_checkSettled htr h sz) (by decide) (by decide) k_x186 k_x187 k_x188 (by decide) 0 rfl (by decide +kernel) ⟨by decide, by decide⟩ (Nat.le_of_ble_eq_true rfl) k_x189 k_x190 wX_0 rfl rfl dX_corrected_6 hlk hnh (fun _ h9 => h9) (fun u_4 h => ?_)
  refine x_aload_n hC dX_corrected_9 rfl 0 rfl ?_
  refine x_get hC iX 0 wX_0 rfl 4 (by decide) k_x152 rfl rfl dX_corrected_10 ?_
  refine x_get hC iTl 17 wX_17 rfl 0 (by decide) k_x192 rfl rfl dX_corrected_13 ?_
  refine x_iload_n hC dX_corrected_16 rfl 1 rfl ?_
  obtain ⟨hb_5, h⟩ := h
  refine x_lald hC 18 1 wX_18 rfl hb_5 dX_corrected_17 ?_
  exact hret _ _ (by decide) (by decide) (tm a1.toNatClampNeg) () h _ _ dX_corrected_18

/-! EventOrder.ordered(II)I -/
abbrev rm_X_ordered : Room := { frames := 7, cells := 2, slots := 12, locals := 140 }
def X_ordered_wp (sd : Int32) (itm : (Nat → Int32)) (ord : (Nat → Int32)) (tc : Int32) (a1 : Int32) (a2 : Int32) (Qr : Int32 → Unit → Prop) (Qt : Nat → Prop) : Prop := X_checkItem_wp a1 (fun (u_2 : Unit) => X_checkSettled_wp sd (fun (u_4 : Unit) => Timeline_eventOf_1_wp itm ord tc a1 a2 (fun (r_5 : Int32) (u_6 : Unit) => Qr r_5 ())) Qt) Qt
set_option maxHeartbeats 4000000 in
set_option maxRecDepth 100000 in
theorem c_X_ordered {l : Launch} {D : va_G} {ad : Nat → Nat} {cI cL cO : ClassId} {sc : Int32} {sd : Int32} {src : (Nat → Int32)} {itm : (Nat → Int32)} {knd : (Nat → Int32)} {plc : (Nat → Int32)} {clk : (Nat → Int64)} {ec : Int32} {nf : (Nat → Int32)} {ns : (Nat → Int32)} {nc : Int32} {wt : (Nat → Nat → Int64)} {bd : (Nat → Nat → Int64)} {off : (Nat → Int64)} {row : (Nat → Int32)} {hw : (Nat → Nat → Int64)} {rl : Int32} {tm : (Nat → Int64)} {ord : (Nat → Int32)} {tc : Int32} {a1 : Int32} {a2 : Int32} {Qr : Int32 → Unit → Prop} {Qt : Nat → Prop} (htr : l.stackTraces = false) (h : X_ordered_wp sd itm ord tc a1 a2 Qr Qt) (sz : Nat) : vx_Met l yX_ordered (Cond.code yX_ordered bX_ordered 3 (some .int) :: TBL) rm_X_ordered (va_Pc [.ref (ad 0), .int a1, .int a2] (XP D vwCl (tysX cI cL cO) (wX ad cI cL cO sc sd src itm knd plc clk ec nf ns nc wt bd off row hw rl tm ord tc) sz)) (va_Qi Qr (fun u t => XB D vwCl (tysX cI cL cO) (va_A (wX ad cI cL cO sc sd src itm knd plc clk ec nf ns nc wt bd off row hw rl tm ord tc) sz) (wX ad cI cL cO sc sd src itm knd plc clk ec nf ns nc wt bd off row hw rl tm ord tc) t) (va_A (wX ad cI cL cO sc sd src itm knd plc clk ec nf ns nc wt bd off row hw rl tm ord tc) sz)) (XT D vwCl (tysX cI cL cO) (va_A (wX ad cI cL cO sc sd src itm knd plc clk ec nf ns nc wt bd off row hw rl tm ord tc) sz) (wX ad cI cL cO sc sd src itm knd plc clk ec nf ns nc wt bd off row hw rl tm ord tc) Qt) rm_X_ordered.cells rm_X_ordered.slots (va_A (wX ad cI cL cO sc sd src itm knd plc clk ec nf ns nc wt bd off row hw rl tm ord tc) sz) := by
  refine x_met [.ref (ad 0), .int a1, .int a2] TBL_good (by decide) (Nat.le_of_ble_eq_true rfl) ?_
  intro p e s m args below meth c hC hr hlk hnm hnh
  have hret : ∀ (ce sl : Nat), ce ≤ rm_X_ordered.cells → sl ≤ rm_X_ordered.slots → ∀ (r : Int32) (u : Unit), Qr r u → ∀ (pc : Nat) (lv : List (Nat × Value)), decode bX_ordered pc = .ok (.ireturn, 1) → XW p l e rm_X_ordered s m args below meth c D vwCl (va_A (wX ad cI cL cO sc sd src itm knd plc clk ec nf ns nc wt bd off row hw rl tm ord tc) sz) 3 (vx_MQ below (va_Qi Qr (fun u t => XB D vwCl (tysX cI cL cO) (va_A (wX ad cI cL cO sc sd src itm knd plc clk ec nf ns nc wt bd off row hw rl tm ord tc) sz) (wX ad cI cL cO sc sd src itm knd plc clk ec nf ns nc wt bd off row hw rl tm ord tc) t) (va_A (wX ad cI cL cO sc sd src itm knd plc clk ec nf ns nc wt bd off row hw rl tm ord tc) sz)) (XT D vwCl (tysX cI cL cO) (va_A (wX ad cI cL cO sc sd src itm knd plc clk ec nf ns nc wt bd off row hw rl tm ord tc) sz) (wX ad cI cL cO sc sd src itm knd plc clk ec nf ns nc wt bd off row hw rl tm ord tc) Qt) args s rm_X_ordered.cells rm_X_ordered.slots (va_A (wX ad cI cL cO sc sd src itm knd plc clk ec nf ns nc wt bd off row hw rl tm ord tc) sz)) ce sl (wX ad cI cL cO sc sd src itm knd plc clk ec nf ns nc wt bd off row hw rl tm ord tc) pc lv [.int r] := fun ce sl h1 h2 r u hq pc lv hd => x_iret (wf := fun u => (wX ad cI cL cO sc sd src itm knd plc clk ec nf ns nc wt bd off row hw rl tm ord tc)) hC h1 h2 hr hlk hd hq rfl
  show XW p l e rm_X_ordered s m args below meth c D vwCl (va_A (wX ad cI cL cO sc sd src itm knd plc clk ec nf ns nc wt bd off row hw rl tm ord tc) sz) 3 _ 0 0 (wX ad cI cL cO sc sd src itm knd plc clk ec nf ns nc wt bd off row hw rl tm ord tc) 0 [(0, .ref (ad 0)), (1, .int a1), (2, .int a2)] []
  unfold X_ordered_wp at h
  refine x_iload_n hC dX_ordered_0 rfl 1 rfl ?_
  refine x_callSvT (S := Unit) (wf := fun u => (wX ad cI cL cO sc sd src itm knd plc clk ec nf ns nc wt bd off row hw rl tm ord tc)) hC (by decide) (by decide) [.int a1] (fun sz => c_X_checkItem htr h sz) (by decide) (by decide) k_x125 k_x126 k_x127 (by decide) 1 rfl (by decide +kernel) ⟨by decide, by decide⟩ (Nat.le_of_ble_eq_true rfl) k_x128 rfl dX_ordered_1 hlk hnh (fun _ h9 => h9) (fun u_2 h => ?_)
  refine x_aload_n hC dX_ordered_4 rfl 0 rfl ?_
  refine x_callVvT (S := Unit) (wf := fun u => (wX ad cI cL cO sc sd src itm knd plc clk ec nf ns nc wt bd off row hw rl tm ord tc)) hC (by decide) (by decide) [] (fun sz => c_X_checkSettled htr h sz) (by decide) (by decide) k_x186 k_x187 k_x188 (by decide) 0 rfl (by decide +kernel) ⟨by decide, by decide⟩ (Nat.le_of_ble_eq_true rfl) k_x189 k_x190 wX_0 rfl rfl dX_ordered_5 hlk hnh (fun _ h9 => h9) (fun u_4 h => ?_)
  refine x_aload_n hC dX_ordered_8 rfl 0 rfl ?_
  refine x_get hC iX 0 wX_0 rfl 4 (by decide) k_x152 rfl rfl dX_ordered_9 ?_
  refine x_aload_n hC dX_ordered_12 rfl 0 rfl ?_
  refine x_get hC iX 0 wX_0 rfl 0 (by decide) k_x104 rfl rfl dX_ordered_13 ?_
  refine x_iload_n hC dX_ordered_16 rfl 1 rfl ?_
  refine x_iload_n hC dX_ordered_17 rfl 2 rfl ?_
  refine x_callVi (S := Unit) (wf := fun u => (wX ad cI cL cO sc sd src itm knd plc clk ec nf ns nc wt bd off row hw rl tm ord tc)) hC [.ref (ad 1), .int a1, .int a2] (fun sz => c_Timeline_eventOf_1 h sz) (by decide) (by decide) k_x193 k_x194 k_x195 (by decide) 3 rfl (by decide +kernel) ⟨by decide, by decide⟩ (Nat.le_of_ble_eq_true rfl) k_x196 k_x197 wX_17 rfl rfl dX_ordered_18 (fun _ h9 => h9) (fun r_5 u_6 h => ?_)
  exact hret _ _ (by decide) (by decide) r_5 () h _ _ dX_ordered_21

/-! EventOrder.implied(II)I -/
abbrev rm_X_implied : Room := { frames := 7, cells := 1, slots := 6, locals := 140 }
def X_implied_wp (sd : Int32) (itm : (Nat → Int32)) (knd : (Nat → Int32)) (plc : (Nat → Int32)) (tm : (Nat → Int64)) (ord : (Nat → Int32)) (tc : Int32) (a1 : Int32) (a2 : Int32) (Qr : Int32 → Unit → Prop) (Qt : Nat → Prop) : Prop := X_isBag_wp a1 (fun (r_1 : Int32) (u_2 : Unit) => ((¬ r_1 = 0 → ((a2 < 0 → Qt 0) ∧ (¬ a2 < 0 → ((a2 < 100 → X_checkSettled_wp sd (fun (u_7 : Unit) => Timeline_countImplied_1_wp itm knd plc tm ord tc a1 a2 (fun (r_8 : Int32) (u_9 : Unit) => Qr r_8 ())) Qt) ∧ (¬ a2 < 100 → Qt 0))))) ∧ (r_1 = 0 → Qt 0)))
set_option maxHeartbeats 4000000 in
set_option maxRecDepth 100000 in
theorem c_X_implied {l : Launch} {D : va_G} {ad : Nat → Nat} {cI cL cO : ClassId} {sc : Int32} {sd : Int32} {src : (Nat → Int32)} {itm : (Nat → Int32)} {knd : (Nat → Int32)} {plc : (Nat → Int32)} {clk : (Nat → Int64)} {ec : Int32} {nf : (Nat → Int32)} {ns : (Nat → Int32)} {nc : Int32} {wt : (Nat → Nat → Int64)} {bd : (Nat → Nat → Int64)} {off : (Nat → Int64)} {row : (Nat → Int32)} {hw : (Nat → Nat → Int64)} {rl : Int32} {tm : (Nat → Int64)} {ord : (Nat → Int32)} {tc : Int32} {a1 : Int32} {a2 : Int32} {Qr : Int32 → Unit → Prop} {Qt : Nat → Prop} (htr : l.stackTraces = false) (h : X_implied_wp sd itm knd plc tm ord tc a1 a2 Qr Qt) (sz : Nat) : vx_Met l yX_implied (Cond.code yX_implied bX_implied 3 (some .int) :: TBL) rm_X_implied (va_Pc [.ref (ad 0), .int a1, .int a2] (XP D vwCl (tysX cI cL cO) (wX ad cI cL cO sc sd src itm knd plc clk ec nf ns nc wt bd off row hw rl tm ord tc) sz)) (va_Qi Qr (fun u t => XB D vwCl (tysX cI cL cO) (va_A (wX ad cI cL cO sc sd src itm knd plc clk ec nf ns nc wt bd off row hw rl tm ord tc) sz) (wX ad cI cL cO sc sd src itm knd plc clk ec nf ns nc wt bd off row hw rl tm ord tc) t) (va_A (wX ad cI cL cO sc sd src itm knd plc clk ec nf ns nc wt bd off row hw rl tm ord tc) sz)) (XT D vwCl (tysX cI cL cO) (va_A (wX ad cI cL cO sc sd src itm knd plc clk ec nf ns nc wt bd off row hw rl tm ord tc) sz) (wX ad cI cL cO sc sd src itm knd plc clk ec nf ns nc wt bd off row hw rl tm ord tc) Qt) rm_X_implied.cells rm_X_implied.slots (va_A (wX ad cI cL cO sc sd src itm knd plc clk ec nf ns nc wt bd off row hw rl tm ord tc) sz) := by
  refine x_met [.ref (ad 0), .int a1, .int a2] TBL_good (by decide) (Nat.le_of_ble_eq_true rfl) ?_
  intro p e s m args below meth c hC hr hlk hnm hnh
  have hret : ∀ (ce sl : Nat), ce ≤ rm_X_implied.cells → sl ≤ rm_X_implied.slots → ∀ (r : Int32) (u : Unit), Qr r u → ∀ (pc : Nat) (lv : List (Nat × Value)), decode bX_implied pc = .ok (.ireturn, 1) → XW p l e rm_X_implied s m args below meth c D vwCl (va_A (wX ad cI cL cO sc sd src itm knd plc clk ec nf ns nc wt bd off row hw rl tm ord tc) sz) 3 (vx_MQ below (va_Qi Qr (fun u t => XB D vwCl (tysX cI cL cO) (va_A (wX ad cI cL cO sc sd src itm knd plc clk ec nf ns nc wt bd off row hw rl tm ord tc) sz) (wX ad cI cL cO sc sd src itm knd plc clk ec nf ns nc wt bd off row hw rl tm ord tc) t) (va_A (wX ad cI cL cO sc sd src itm knd plc clk ec nf ns nc wt bd off row hw rl tm ord tc) sz)) (XT D vwCl (tysX cI cL cO) (va_A (wX ad cI cL cO sc sd src itm knd plc clk ec nf ns nc wt bd off row hw rl tm ord tc) sz) (wX ad cI cL cO sc sd src itm knd plc clk ec nf ns nc wt bd off row hw rl tm ord tc) Qt) args s rm_X_implied.cells rm_X_implied.slots (va_A (wX ad cI cL cO sc sd src itm knd plc clk ec nf ns nc wt bd off row hw rl tm ord tc) sz)) ce sl (wX ad cI cL cO sc sd src itm knd plc clk ec nf ns nc wt bd off row hw rl tm ord tc) pc lv [.int r] := fun ce sl h1 h2 r u hq pc lv hd => x_iret (wf := fun u => (wX ad cI cL cO sc sd src itm knd plc clk ec nf ns nc wt bd off row hw rl tm ord tc)) hC h1 h2 hr hlk hd hq rfl
  show XW p l e rm_X_implied s m args below meth c D vwCl (va_A (wX ad cI cL cO sc sd src itm knd plc clk ec nf ns nc wt bd off row hw rl tm ord tc) sz) 3 _ 0 0 (wX ad cI cL cO sc sd src itm knd plc clk ec nf ns nc wt bd off row hw rl tm ord tc) 0 [(0, .ref (ad 0)), (1, .int a1), (2, .int a2)] []
  unfold X_implied_wp at h
  refine x_iload_n hC dX_implied_0 rfl 1 rfl ?_
  refine x_callSi (S := Unit) (wf := fun u => (wX ad cI cL cO sc sd src itm knd plc clk ec nf ns nc wt bd off row hw rl tm ord tc)) hC [.int a1] (fun sz => c_X_isBag h sz) (by decide) (by decide) k_x97 k_x98 k_x99 (by decide) 1 rfl (by decide +kernel) ⟨by decide, by decide⟩ (Nat.le_of_ble_eq_true rfl) k_x100 rfl dX_implied_1 (fun _ h9 => h9) (fun r_1 u_2 h => ?_)
  refine x_if_ne (tgt := 17) hC dX_implied_4 (by decide) (fun c_3 => ?_) (fun c_3 => ?_)
  · have h := h.1 c_3
    refine x_iload_n hC dX_implied_17 rfl 2 rfl ?_
    refine x_if_lt (tgt := 27) hC dX_implied_18 (by decide) (fun c_4 => ?_) (fun c_4 => ?_)
    · have h := h.1 c_4
      exact x_throw hC 0 rfl htr hlk hnh dX_implied_27 dX_implied_30 dX_implied_31 dX_implied_33 dX_implied_36 k_x84 k_x85 (by decide +kernel) x_up_fit k_xa86 k_xo87 k_xs198 (by decide) (by decide) ⟨by decide, by decide⟩ (by decide) (by decide) h
    · have h := h.2 c_4
      refine x_iload_n hC dX_implied_21 rfl 2 rfl ?_
      refine x_bipush (v := 100) hC dX_implied_22 (by decide) ?_
      refine x_icmp_lt (tgt := 37) hC dX_implied_24 (by decide) (fun c_5 => ?_) (fun c_5 => ?_)
      · have h := h.1 c_5
        refine x_aload_n hC dX_implied_37 rfl 0 rfl ?_
        refine x_callVvT (S := Unit) (wf := fun u => (wX ad cI cL cO sc sd src itm knd plc clk ec nf ns nc wt bd off row hw rl tm ord tc)) hC (by decide) (by decide) [] (fun sz => c_X_checkSettled htr h sz) (by decide) (by decide) k_x186 k_x187 k_x188 (by decide) 0 rfl (by decide +kernel) ⟨by decide, by decide⟩ (Nat.le_of_ble_eq_true rfl) k_x189 k_x190 wX_0 rfl rfl dX_implied_38 hlk hnh (fun _ h9 => h9) (fun u_7 h => ?_)
        refine x_aload_n hC dX_implied_41 rfl 0 rfl ?_
        refine x_get hC iX 0 wX_0 rfl 4 (by decide) k_x152 rfl rfl dX_implied_42 ?_
        refine x_aload_n hC dX_implied_45 rfl 0 rfl ?_
        refine x_get hC iX 0 wX_0 rfl 0 (by decide) k_x104 rfl rfl dX_implied_46 ?_
        refine x_iload_n hC dX_implied_49 rfl 1 rfl ?_
        refine x_iload_n hC dX_implied_50 rfl 2 rfl ?_
        refine x_callVi (S := Unit) (wf := fun u => (wX ad cI cL cO sc sd src itm knd plc clk ec nf ns nc wt bd off row hw rl tm ord tc)) hC [.ref (ad 1), .int a1, .int a2] (fun sz => c_Timeline_countImplied_1 h sz) (by decide) (by decide) k_x199 k_x200 k_x201 (by decide) 3 rfl (by decide +kernel) ⟨by decide, by decide⟩ (Nat.le_of_ble_eq_true rfl) k_x202 k_x203 wX_17 rfl rfl dX_implied_51 (fun _ h9 => h9) (fun r_8 u_9 h => ?_)
        exact hret _ _ (by decide) (by decide) r_8 () h _ _ dX_implied_54
      · have h := h.2 c_5
        exact x_throw hC 0 rfl htr hlk hnh dX_implied_27 dX_implied_30 dX_implied_31 dX_implied_33 dX_implied_36 k_x84 k_x85 (by decide +kernel) x_up_fit k_xa86 k_xo87 k_xs198 (by decide) (by decide) ⟨by decide, by decide⟩ (by decide) (by decide) h
  · have h := h.2 c_3
    exact x_throw hC 0 rfl htr hlk hnh dX_implied_7 dX_implied_10 dX_implied_11 dX_implied_13 dX_implied_16 k_x84 k_x85 (by decide +kernel) x_up_fit k_xa86 k_xo87 k_xs204 (by decide) (by decide) ⟨by decide, by decide⟩ (by decide) (by decide) h

/-! EventOrder.correct(IJ)I -/
abbrev rm_X_correct : Room := { frames := 7, cells := 2, slots := 12, locals := 141 }
def X_correct_wp (sd : Int32) (src : (Nat → Int32)) (itm : (Nat → Int32)) (knd : (Nat → Int32)) (plc : (Nat → Int32)) (clk : (Nat → Int64)) (ec : Int32) (a1 : Int32) (a2 : Int64) (Qr : Int32 → (Int32 × (Nat → Int64)) → Prop) (Qt : Nat → Prop) : Prop := X_checkEvent_wp ec a1 (fun (u_2 : Unit) => X_checkClock_wp a2 (fun (u_4 : Unit) => vp_in a1 301 ∧ vp_in a1 301 ∧ vp_in a1 301 ∧ vp_in a1 301 ∧ Events_has_wp src itm knd plc clk ec (src a1.toNatClampNeg) (itm a1.toNatClampNeg) (knd a1.toNatClampNeg) (plc a1.toNatClampNeg) a2 (fun (r_9 : Int32) (u_10 : Unit) => ((r_9 = 0 → vp_in a1 301 ∧ Qr 1 (0, vp_updL clk a1.toNatClampNeg a2)) ∧ (¬ r_9 = 0 → Qr 0 (sd, clk))))) Qt) Qt
set_option maxHeartbeats 4000000 in
set_option maxRecDepth 100000 in
theorem c_X_correct {l : Launch} {D : va_G} {ad : Nat → Nat} {cI cL cO : ClassId} {sc : Int32} {sd : Int32} {src : (Nat → Int32)} {itm : (Nat → Int32)} {knd : (Nat → Int32)} {plc : (Nat → Int32)} {clk : (Nat → Int64)} {ec : Int32} {nf : (Nat → Int32)} {ns : (Nat → Int32)} {nc : Int32} {wt : (Nat → Nat → Int64)} {bd : (Nat → Nat → Int64)} {off : (Nat → Int64)} {row : (Nat → Int32)} {hw : (Nat → Nat → Int64)} {rl : Int32} {tm : (Nat → Int64)} {ord : (Nat → Int32)} {tc : Int32} {a1 : Int32} {a2 : Int64} {Qr : Int32 → (Int32 × (Nat → Int64)) → Prop} {Qt : Nat → Prop} (htr : l.stackTraces = false) (h : X_correct_wp sd src itm knd plc clk ec a1 a2 Qr Qt) (sz : Nat) : vx_Met l yX_correct (Cond.code yX_correct bX_correct 4 (some .int) :: TBL) rm_X_correct (va_Pc [.ref (ad 0), .int a1, .long a2] (XP D vwCl (tysX cI cL cO) (wX ad cI cL cO sc sd src itm knd plc clk ec nf ns nc wt bd off row hw rl tm ord tc) sz)) (va_Qi Qr (fun u t => XB D vwCl (tysX cI cL cO) (va_A (wX ad cI cL cO sc sd src itm knd plc clk ec nf ns nc wt bd off row hw rl tm ord tc) sz) (wX ad cI cL cO sc u.1 src itm knd plc u.2 ec nf ns nc wt bd off row hw rl tm ord tc) t) (va_A (wX ad cI cL cO sc sd src itm knd plc clk ec nf ns nc wt bd off row hw rl tm ord tc) sz)) (XT D vwCl (tysX cI cL cO) (va_A (wX ad cI cL cO sc sd src itm knd plc clk ec nf ns nc wt bd off row hw rl tm ord tc) sz) (wX ad cI cL cO sc sd src itm knd plc clk ec nf ns nc wt bd off row hw rl tm ord tc) Qt) rm_X_correct.cells rm_X_correct.slots (va_A (wX ad cI cL cO sc sd src itm knd plc clk ec nf ns nc wt bd off row hw rl tm ord tc) sz) := by
  refine x_met [.ref (ad 0), .int a1, .long a2] TBL_good (by decide) (Nat.le_of_ble_eq_true rfl) ?_
  intro p e s m args below meth c hC hr hlk hnm hnh
  have hret : ∀ (ce sl : Nat), ce ≤ rm_X_correct.cells → sl ≤ rm_X_correct.slots → ∀ (r : Int32) (u : (Int32 × (Nat → Int64))), Qr r u → ∀ (pc : Nat) (lv : List (Nat × Value)), decode bX_correct pc = .ok (.ireturn, 1) → XW p l e rm_X_correct s m args below meth c D vwCl (va_A (wX ad cI cL cO sc sd src itm knd plc clk ec nf ns nc wt bd off row hw rl tm ord tc) sz) 4 (vx_MQ below (va_Qi Qr (fun u t => XB D vwCl (tysX cI cL cO) (va_A (wX ad cI cL cO sc sd src itm knd plc clk ec nf ns nc wt bd off row hw rl tm ord tc) sz) (wX ad cI cL cO sc u.1 src itm knd plc u.2 ec nf ns nc wt bd off row hw rl tm ord tc) t) (va_A (wX ad cI cL cO sc sd src itm knd plc clk ec nf ns nc wt bd off row hw rl tm ord tc) sz)) (XT D vwCl (tysX cI cL cO) (va_A (wX ad cI cL cO sc sd src itm knd plc clk ec nf ns nc wt bd off row hw rl tm ord tc) sz) (wX ad cI cL cO sc sd src itm knd plc clk ec nf ns nc wt bd off row hw rl tm ord tc) Qt) args s rm_X_correct.cells rm_X_correct.slots (va_A (wX ad cI cL cO sc sd src itm knd plc clk ec nf ns nc wt bd off row hw rl tm ord tc) sz)) ce sl (wX ad cI cL cO sc u.1 src itm knd plc u.2 ec nf ns nc wt bd off row hw rl tm ord tc) pc lv [.int r] := fun ce sl h1 h2 r u hq pc lv hd => x_iret (wf := fun u => (wX ad cI cL cO sc u.1 src itm knd plc u.2 ec nf ns nc wt bd off row hw rl tm ord tc)) hC h1 h2 hr hlk hd hq rfl
  show XW p l e rm_X_correct s m args below meth c D vwCl (va_A (wX ad cI cL cO sc sd src itm knd plc clk ec nf ns nc wt bd off row hw rl tm ord tc) sz) 4 _ 0 0 (wX ad cI cL cO sc sd src itm knd plc clk ec nf ns nc wt bd off row hw rl tm ord tc) 0 [(0, .ref (ad 0)), (1, .int a1), (2, .long a2)] []
  unfold X_correct_wp at h
  refine x_aload_n hC dX_correct_0 rfl 0 rfl ?_
  refine x_iload_n hC dX_correct_1 rfl 1 rfl ?_
  refine x_callVvT (S := Unit) (wf := fun u => (wX ad cI cL cO sc sd src itm knd plc clk ec nf ns nc wt bd off row hw rl tm ord tc)) hC (by decide) (by decide) [.int a1] (fun sz => c_X_checkEvent htr h sz) (by decide) (by decide) k_x144 k_x145 k_x146 (by decide) 1 rfl (by decide +kernel) ⟨by decide, by decide⟩ (Nat.le_of_ble_eq_true rfl) k_x147 k_x148 wX_0 rfl rfl dX_correct_2 hlk hnh (fun _ h9 => h9) (fun u_2 h => ?_)
  refine x_lload_n hC dX_correct_5 rfl 2 rfl ?_
  refine x_callSvT (S := Unit) (wf := fun u => (wX ad cI cL cO sc sd src itm knd plc clk ec nf ns nc wt bd off row hw rl tm ord tc)) hC (by decide) (by decide) [.long a2] (fun sz => c_X_checkClock htr h sz) (by decide) (by decide) k_x117 k_x118 k_x119 (by decide) 1 rfl (by decide +kernel) ⟨by decide, by decide⟩ (Nat.le_of_ble_eq_true rfl) k_x120 rfl dX_correct_6 hlk hnh (fun _ h9 => h9) (fun u_4 h => ?_)
  refine x_aload_n hC dX_correct_9 rfl 0 rfl ?_
  refine x_get hC iX 0 wX_0 rfl 0 (by decide) k_x104 rfl rfl dX_correct_10 ?_
  refine x_aload_n hC dX_correct_13 rfl 0 rfl ?_
  refine x_get hC iX 0 wX_0 rfl 0 (by decide) k_x104 rfl rfl dX_correct_14 ?_
  refine x_get hC iEv 1 wX_1 rfl 0 (by decide) k_x205 rfl rfl dX_correct_17 ?_
  refine x_iload_n hC dX_correct_20 rfl 1 rfl ?_
  obtain ⟨hb_5, h⟩ := h
  refine x_iald hC 2 0 wX_2 rfl hb_5 dX_correct_21 ?_
  refine x_aload_n hC dX_correct_22 rfl 0 rfl ?_
  refine x_get hC iX 0 wX_0 rfl 0 (by decide) k_x104 rfl rfl dX_correct_23 ?_
  refine x_get hC iEv 1 wX_1 rfl 1 (by decide) k_x206 rfl rfl dX_correct_26 ?_
  refine x_iload_n hC dX_correct_29 rfl 1 rfl ?_
  obtain ⟨hb_6, h⟩ := h
  refine x_iald hC 3 0 wX_3 rfl hb_6 dX_correct_30 ?_
  refine x_aload_n hC dX_correct_31 rfl 0 rfl ?_
  refine x_get hC iX 0 wX_0 rfl 0 (by decide) k_x104 rfl rfl dX_correct_32 ?_
  refine x_get hC iEv 1 wX_1 rfl 2 (by decide) k_x207 rfl rfl dX_correct_35 ?_
  refine x_iload_n hC dX_correct_38 rfl 1 rfl ?_
  obtain ⟨hb_7, h⟩ := h
  refine x_iald hC 4 0 wX_4 rfl hb_7 dX_correct_39 ?_
  refine x_aload_n hC dX_correct_40 rfl 0 rfl ?_
  refine x_get hC iX 0 wX_0 rfl 0 (by decide) k_x104 rfl rfl dX_correct_41 ?_
  refine x_get hC iEv 1 wX_1 rfl 3 (by decide) k_x208 rfl rfl dX_correct_44 ?_
  refine x_iload_n hC dX_correct_47 rfl 1 rfl ?_
  obtain ⟨hb_8, h⟩ := h
  refine x_iald hC 5 0 wX_5 rfl hb_8 dX_correct_48 ?_
  refine x_lload_n hC dX_correct_49 rfl 2 rfl ?_
  refine x_callVi (S := Unit) (wf := fun u => (wX ad cI cL cO sc sd src itm knd plc clk ec nf ns nc wt bd off row hw rl tm ord tc)) hC [.int (src a1.toNatClampNeg), .int (itm a1.toNatClampNeg), .int (knd a1.toNatClampNeg), .int (plc a1.toNatClampNeg), .long a2] (fun sz => c_Events_has h sz) (by decide) (by decide) k_x112 k_x113 k_x114 (by decide) 5 rfl (by decide +kernel) ⟨by decide, by decide⟩ (Nat.le_of_ble_eq_true rfl) k_x115 k_x116 wX_1 rfl rfl dX_correct_50 (fun _ h9 => h9) (fun r_9 u_10 h => ?_)
  refine x_if_eq (tgt := 58) hC dX_correct_53 (by decide) (fun c_11 => ?_) (fun c_11 => ?_)
  · have h := h.1 c_11
    refine x_aload_n hC dX_correct_58 rfl 0 rfl ?_
    refine x_iconst (v := 0) hC dX_correct_59 (by decide) ?_
    refine x_put (ty := .boolean) (ws' := (wX ad cI cL cO sc 0 src itm knd plc clk ec nf ns nc wt bd off row hw rl tm ord tc)) hC iX 0 wX_0 rfl 6 (by decide) k_x78 rfl tX tX_ok nX rfl (by decide +kernel) rfl rfl (Nat.le_of_ble_eq_true rfl) rfl dX_correct_60 ?_
    refine x_aload_n hC dX_correct_63 rfl 0 rfl ?_
    refine x_get hC iX 0 wX_0 rfl 0 (by decide) k_x104 rfl rfl dX_correct_64 ?_
    refine x_get hC iEv 1 wX_1 rfl 4 (by decide) k_x209 rfl rfl dX_correct_67 ?_
    refine x_iload_n hC dX_correct_70 rfl 1 rfl ?_
    refine x_lload_n hC dX_correct_71 rfl 2 rfl ?_
    obtain ⟨hb_12, h⟩ := h
    refine x_last (ws' := (wX ad cI cL cO sc 0 src itm knd plc (vp_updL clk a1.toNatClampNeg a2) ec nf ns nc wt bd off row hw rl tm ord tc)) hC 6 1 wX_6 rfl hb_12 wX_6_set dX_correct_72 ?_
    refine x_iconst (v := 1) hC dX_correct_73 (by decide) ?_
    exact hret _ _ (by decide) (by decide) 1 (0, vp_updL clk a1.toNatClampNeg a2) h _ _ dX_correct_74
  · have h := h.2 c_11
    refine x_iconst (v := 0) hC dX_correct_56 (by decide) ?_
    exact hret _ _ (by decide) (by decide) 0 (sd, clk) h _ _ dX_correct_57

/-! EventOrder.ask(II)I -/
abbrev rm_X_ask : Room := { frames := 6, cells := 1, slots := 6, locals := 120 }
def X_ask_wp (src : (Nat → Int32)) (itm : (Nat → Int32)) (knd : (Nat → Int32)) (plc : (Nat → Int32)) (ec : Int32) (a1 : Int32) (a2 : Int32) (Qr : Int32 → Unit → Prop) (Qt : Nat → Prop) : Prop := ((a1 = 0 → Events_countIn_3_wp itm ec a2 (fun (r_2 : Int32) (u_3 : Unit) => Qr r_2 ())) ∧ (¬ a1 = 0 → ((a1 = 1 → Events_countIn_5_wp plc ec a2 (fun (r_5 : Int32) (u_6 : Unit) => Qr r_5 ())) ∧ (¬ a1 = 1 → ((a1 = 2 → Events_countIn_2_wp src ec a2 (fun (r_8 : Int32) (u_9 : Unit) => Qr r_8 ())) ∧ (¬ a1 = 2 → ((a1 = 3 → Events_countIn_4_wp knd ec a2 (fun (r_11 : Int32) (u_12 : Unit) => Qr r_11 ())) ∧ (¬ a1 = 3 → Qt 1))))))))
set_option maxHeartbeats 4000000 in
set_option maxRecDepth 100000 in
theorem c_X_ask {l : Launch} {D : va_G} {ad : Nat → Nat} {cI cL cO : ClassId} {sc : Int32} {sd : Int32} {src : (Nat → Int32)} {itm : (Nat → Int32)} {knd : (Nat → Int32)} {plc : (Nat → Int32)} {clk : (Nat → Int64)} {ec : Int32} {nf : (Nat → Int32)} {ns : (Nat → Int32)} {nc : Int32} {wt : (Nat → Nat → Int64)} {bd : (Nat → Nat → Int64)} {off : (Nat → Int64)} {row : (Nat → Int32)} {hw : (Nat → Nat → Int64)} {rl : Int32} {tm : (Nat → Int64)} {ord : (Nat → Int32)} {tc : Int32} {a1 : Int32} {a2 : Int32} {Qr : Int32 → Unit → Prop} {Qt : Nat → Prop} (htr : l.stackTraces = false) (h : X_ask_wp src itm knd plc ec a1 a2 Qr Qt) (sz : Nat) : vx_Met l yX_ask (Cond.code yX_ask bX_ask 3 (some .int) :: TBL) rm_X_ask (va_Pc [.ref (ad 0), .int a1, .int a2] (XP D vwCl (tysX cI cL cO) (wX ad cI cL cO sc sd src itm knd plc clk ec nf ns nc wt bd off row hw rl tm ord tc) sz)) (va_Qi Qr (fun u t => XB D vwCl (tysX cI cL cO) (va_A (wX ad cI cL cO sc sd src itm knd plc clk ec nf ns nc wt bd off row hw rl tm ord tc) sz) (wX ad cI cL cO sc sd src itm knd plc clk ec nf ns nc wt bd off row hw rl tm ord tc) t) (va_A (wX ad cI cL cO sc sd src itm knd plc clk ec nf ns nc wt bd off row hw rl tm ord tc) sz)) (XT D vwCl (tysX cI cL cO) (va_A (wX ad cI cL cO sc sd src itm knd plc clk ec nf ns nc wt bd off row hw rl tm ord tc) sz) (wX ad cI cL cO sc sd src itm knd plc clk ec nf ns nc wt bd off row hw rl tm ord tc) Qt) rm_X_ask.cells rm_X_ask.slots (va_A (wX ad cI cL cO sc sd src itm knd plc clk ec nf ns nc wt bd off row hw rl tm ord tc) sz) := by
  refine x_met [.ref (ad 0), .int a1, .int a2] TBL_good (by decide) (Nat.le_of_ble_eq_true rfl) ?_
  intro p e s m args below meth c hC hr hlk hnm hnh
  have hret : ∀ (ce sl : Nat), ce ≤ rm_X_ask.cells → sl ≤ rm_X_ask.slots → ∀ (r : Int32) (u : Unit), Qr r u → ∀ (pc : Nat) (lv : List (Nat × Value)), decode bX_ask pc = .ok (.ireturn, 1) → XW p l e rm_X_ask s m args below meth c D vwCl (va_A (wX ad cI cL cO sc sd src itm knd plc clk ec nf ns nc wt bd off row hw rl tm ord tc) sz) 3 (vx_MQ below (va_Qi Qr (fun u t => XB D vwCl (tysX cI cL cO) (va_A (wX ad cI cL cO sc sd src itm knd plc clk ec nf ns nc wt bd off row hw rl tm ord tc) sz) (wX ad cI cL cO sc sd src itm knd plc clk ec nf ns nc wt bd off row hw rl tm ord tc) t) (va_A (wX ad cI cL cO sc sd src itm knd plc clk ec nf ns nc wt bd off row hw rl tm ord tc) sz)) (XT D vwCl (tysX cI cL cO) (va_A (wX ad cI cL cO sc sd src itm knd plc clk ec nf ns nc wt bd off row hw rl tm ord tc) sz) (wX ad cI cL cO sc sd src itm knd plc clk ec nf ns nc wt bd off row hw rl tm ord tc) Qt) args s rm_X_ask.cells rm_X_ask.slots (va_A (wX ad cI cL cO sc sd src itm knd plc clk ec nf ns nc wt bd off row hw rl tm ord tc) sz)) ce sl (wX ad cI cL cO sc sd src itm knd plc clk ec nf ns nc wt bd off row hw rl tm ord tc) pc lv [.int r] := fun ce sl h1 h2 r u hq pc lv hd => x_iret (wf := fun u => (wX ad cI cL cO sc sd src itm knd plc clk ec nf ns nc wt bd off row hw rl tm ord tc)) hC h1 h2 hr hlk hd hq rfl
  show XW p l e rm_X_ask s m args below meth c D vwCl (va_A (wX ad cI cL cO sc sd src itm knd plc clk ec nf ns nc wt bd off row hw rl tm ord tc) sz) 3 _ 0 0 (wX ad cI cL cO sc sd src itm knd plc clk ec nf ns nc wt bd off row hw rl tm ord tc) 0 [(0, .ref (ad 0)), (1, .int a1), (2, .int a2)] []
  unfold X_ask_wp at h
  refine x_iload_n hC dX_ask_0 rfl 1 rfl ?_
  by_cases c_1 : a1 = 0
  · have h := h.1 c_1
    refine x_swIn (tgt := 32) hC 0 c_1 dX_ask_1 (by decide) (by decide) rfl (by decide) ?_
    refine x_aload_n hC dX_ask_32 rfl 0 rfl ?_
    refine x_get hC iX 0 wX_0 rfl 0 (by decide) k_x104 rfl rfl dX_ask_33 ?_
    refine x_aload_n hC dX_ask_36 rfl 0 rfl ?_
    refine x_get hC iX 0 wX_0 rfl 0 (by decide) k_x104 rfl rfl dX_ask_37 ?_
    refine x_get hC iEv 1 wX_1 rfl 1 (by decide) k_x206 rfl rfl dX_ask_40 ?_
    refine x_iload_n hC dX_ask_43 rfl 2 rfl ?_
    refine x_callVi (S := Unit) (wf := fun u => (wX ad cI cL cO sc sd src itm knd plc clk ec nf ns nc wt bd off row hw rl tm ord tc)) hC [.ref (ad 3), .int a2] (fun sz => c_Events_countIn_3 h sz) (by decide) (by decide) k_x210 k_x211 k_x212 (by decide) 2 rfl (by decide +kernel) ⟨by decide, by decide⟩ (Nat.le_of_ble_eq_true rfl) k_x213 k_x214 wX_1 rfl rfl dX_ask_44 (fun _ h9 => h9) (fun r_2 u_3 h => ?_)
    exact hret _ _ (by decide) (by decide) r_2 () h _ _ dX_ask_47
  · have h := h.2 c_1
    by_cases c_4 : a1 = 1
    · have h := h.1 c_4
      refine x_swIn (tgt := 48) hC 1 c_4 dX_ask_1 (by decide) (by decide) rfl (by decide) ?_
      refine x_aload_n hC dX_ask_48 rfl 0 rfl ?_
      refine x_get hC iX 0 wX_0 rfl 0 (by decide) k_x104 rfl rfl dX_ask_49 ?_
      refine x_aload_n hC dX_ask_52 rfl 0 rfl ?_
      refine x_get hC iX 0 wX_0 rfl 0 (by decide) k_x104 rfl rfl dX_ask_53 ?_
      refine x_get hC iEv 1 wX_1 rfl 3 (by decide) k_x208 rfl rfl dX_ask_56 ?_
      refine x_iload_n hC dX_ask_59 rfl 2 rfl ?_
      refine x_callVi (S := Unit) (wf := fun u => (wX ad cI cL cO sc sd src itm knd plc clk ec nf ns nc wt bd off row hw rl tm ord tc)) hC [.ref (ad 5), .int a2] (fun sz => c_Events_countIn_5 h sz) (by decide) (by decide) k_x210 k_x211 k_x212 (by decide) 2 rfl (by decide +kernel) ⟨by decide, by decide⟩ (Nat.le_of_ble_eq_true rfl) k_x213 k_x214 wX_1 rfl rfl dX_ask_60 (fun _ h9 => h9) (fun r_5 u_6 h => ?_)
      exact hret _ _ (by decide) (by decide) r_5 () h _ _ dX_ask_63
    · have h := h.2 c_4
      by_cases c_7 : a1 = 2
      · have h := h.1 c_7
        refine x_swIn (tgt := 64) hC 2 c_7 dX_ask_1 (by decide) (by decide) rfl (by decide) ?_
        refine x_aload_n hC dX_ask_64 rfl 0 rfl ?_
        refine x_get hC iX 0 wX_0 rfl 0 (by decide) k_x104 rfl rfl dX_ask_65 ?_
        refine x_aload_n hC dX_ask_68 rfl 0 rfl ?_
        refine x_get hC iX 0 wX_0 rfl 0 (by decide) k_x104 rfl rfl dX_ask_69 ?_
        refine x_get hC iEv 1 wX_1 rfl 0 (by decide) k_x205 rfl rfl dX_ask_72 ?_
        refine x_iload_n hC dX_ask_75 rfl 2 rfl ?_
        refine x_callVi (S := Unit) (wf := fun u => (wX ad cI cL cO sc sd src itm knd plc clk ec nf ns nc wt bd off row hw rl tm ord tc)) hC [.ref (ad 2), .int a2] (fun sz => c_Events_countIn_2 h sz) (by decide) (by decide) k_x210 k_x211 k_x212 (by decide) 2 rfl (by decide +kernel) ⟨by decide, by decide⟩ (Nat.le_of_ble_eq_true rfl) k_x213 k_x214 wX_1 rfl rfl dX_ask_76 (fun _ h9 => h9) (fun r_8 u_9 h => ?_)
        exact hret _ _ (by decide) (by decide) r_8 () h _ _ dX_ask_79
      · have h := h.2 c_7
        by_cases c_10 : a1 = 3
        · have h := h.1 c_10
          refine x_swIn (tgt := 80) hC 3 c_10 dX_ask_1 (by decide) (by decide) rfl (by decide) ?_
          refine x_aload_n hC dX_ask_80 rfl 0 rfl ?_
          refine x_get hC iX 0 wX_0 rfl 0 (by decide) k_x104 rfl rfl dX_ask_81 ?_
          refine x_aload_n hC dX_ask_84 rfl 0 rfl ?_
          refine x_get hC iX 0 wX_0 rfl 0 (by decide) k_x104 rfl rfl dX_ask_85 ?_
          refine x_get hC iEv 1 wX_1 rfl 2 (by decide) k_x207 rfl rfl dX_ask_88 ?_
          refine x_iload_n hC dX_ask_91 rfl 2 rfl ?_
          refine x_callVi (S := Unit) (wf := fun u => (wX ad cI cL cO sc sd src itm knd plc clk ec nf ns nc wt bd off row hw rl tm ord tc)) hC [.ref (ad 4), .int a2] (fun sz => c_Events_countIn_4 h sz) (by decide) (by decide) k_x210 k_x211 k_x212 (by decide) 2 rfl (by decide +kernel) ⟨by decide, by decide⟩ (Nat.le_of_ble_eq_true rfl) k_x213 k_x214 wX_1 rfl rfl dX_ask_92 (fun _ h9 => h9) (fun r_11 u_12 h => ?_)
          exact hret _ _ (by decide) (by decide) r_11 () h _ _ dX_ask_95
        · have h := h.2 c_10
          refine x_swOut hC dX_ask_1 (by have e0 := x_neI (v := 0) (n := 0) (by decide) c_1; have e1 := x_neI (v := 1) (n := 1) (by decide) c_4; have e2 := x_neI (v := 2) (n := 2) (by decide) c_7; have e3 := x_neI (v := 3) (n := 3) (by decide) c_10; omega) (by decide) ?_
          exact x_throw hC 1 rfl htr hlk hnh dX_ask_96 dX_ask_99 dX_ask_100 dX_ask_102 dX_ask_105 k_x90 k_x91 (by decide +kernel) x_up_fit k_xa92 k_xo93 k_xs215 (by decide) (by decide) ⟨by decide, by decide⟩ (by decide) (by decide) h
end
