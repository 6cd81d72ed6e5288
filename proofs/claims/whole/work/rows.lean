section

def lw_okq (q : MethodName × Nat) : Prop := (q.1.cls ≠ "java/lang/invoke/MethodHandle" ∧ q.1.cls ≠ "java/lang/invoke/VarHandle") ∧ Cond.instantiable q.1.cls q.2 ∈ tables_1 ∧ Cond.privateMethod q.1 ∈ tables_1 ∧ Cond.instanceMethod q.1 ∈ tables_1
theorem lw_p0 : lw_okq (⟨"PieceText$Phrases", "numberOf", "(II)I"⟩, 3) := ⟨⟨by decide +kernel, by decide +kernel⟩, List.mem_of_getElem? (i := 61) (by decide +kernel), List.mem_of_getElem? (i := 122) (by decide +kernel), List.mem_of_getElem? (i := 123) (by decide +kernel)⟩
theorem lw_p1 : lw_okq (⟨"PieceText$Phrases", "addWord", "(I)V"⟩, 3) := ⟨⟨by decide +kernel, by decide +kernel⟩, List.mem_of_getElem? (i := 61) (by decide +kernel), List.mem_of_getElem? (i := 126) (by decide +kernel), List.mem_of_getElem? (i := 127) (by decide +kernel)⟩
theorem lw_p2 : lw_okq (⟨"PieceText$Phrases", "isPhrase", "(I)Z"⟩, 3) := ⟨⟨by decide +kernel, by decide +kernel⟩, List.mem_of_getElem? (i := 61) (by decide +kernel), List.mem_of_getElem? (i := 143) (by decide +kernel), List.mem_of_getElem? (i := 144) (by decide +kernel)⟩
theorem lw_p3 : lw_okq (⟨"PieceText$Phrases", "lengthOf", "(I)I"⟩, 3) := ⟨⟨by decide +kernel, by decide +kernel⟩, List.mem_of_getElem? (i := 61) (by decide +kernel), List.mem_of_getElem? (i := 147) (by decide +kernel), List.mem_of_getElem? (i := 148) (by decide +kernel)⟩
theorem lw_p4 : lw_okq (⟨"PieceText$Phrases", "addPhrase", "(ILPieceText$Row;)V"⟩, 3) := ⟨⟨by decide +kernel, by decide +kernel⟩, List.mem_of_getElem? (i := 61) (by decide +kernel), List.mem_of_getElem? (i := 151) (by decide +kernel), List.mem_of_getElem? (i := 152) (by decide +kernel)⟩
theorem lw_p5 : lw_okq (⟨"PieceText", "keepDraft", "()I"⟩, 5) := ⟨⟨by decide +kernel, by decide +kernel⟩, List.mem_of_getElem? (i := 17) (by decide +kernel), List.mem_of_getElem? (i := 166) (by decide +kernel), List.mem_of_getElem? (i := 167) (by decide +kernel)⟩
theorem lw_p6 : lw_okq (⟨"PieceText", "differentCharacters", "()I"⟩, 5) := ⟨⟨by decide +kernel, by decide +kernel⟩, List.mem_of_getElem? (i := 17) (by decide +kernel), List.mem_of_getElem? (i := 192) (by decide +kernel), List.mem_of_getElem? (i := 193) (by decide +kernel)⟩
theorem lw_p7 : lw_okq (⟨"java/lang/Throwable", "fillInStackTrace", "(I)Ljava/lang/Throwable;"⟩, 6) := ⟨⟨by decide +kernel, by decide +kernel⟩, List.mem_of_getElem? (i := 264) (by decide +kernel), List.mem_of_getElem? (i := 262) (by decide +kernel), List.mem_of_getElem? (i := 263) (by decide +kernel)⟩
theorem lw_p8 : lw_okq (⟨"PieceText", "draftReplaced", "(I)I"⟩, 5) := ⟨⟨by decide +kernel, by decide +kernel⟩, List.mem_of_getElem? (i := 17) (by decide +kernel), List.mem_of_getElem? (i := 427) (by decide +kernel), List.mem_of_getElem? (i := 428) (by decide +kernel)⟩
theorem lw_p9 : lw_okq (⟨"PieceText", "refuseNoWord", "(I)V"⟩, 5) := ⟨⟨by decide +kernel, by decide +kernel⟩, List.mem_of_getElem? (i := 17) (by decide +kernel), List.mem_of_getElem? (i := 438) (by decide +kernel), List.mem_of_getElem? (i := 439) (by decide +kernel)⟩
theorem lw_p10 : lw_okq (⟨"PieceTextModel", "length", "()I"⟩, 13) := ⟨⟨by decide +kernel, by decide +kernel⟩, List.mem_of_getElem? (i := 458) (by decide +kernel), List.mem_of_getElem? (i := 512) (by decide +kernel), List.mem_of_getElem? (i := 513) (by decide +kernel)⟩
theorem lw_p11 : lw_okq (⟨"PieceTextModel", "draftFrom", "(II)V"⟩, 13) := ⟨⟨by decide +kernel, by decide +kernel⟩, List.mem_of_getElem? (i := 458) (by decide +kernel), List.mem_of_getElem? (i := 520) (by decide +kernel), List.mem_of_getElem? (i := 521) (by decide +kernel)⟩
theorem lw_p12 : lw_okq (⟨"PieceTextModel", "charAt", "(I)I"⟩, 13) := ⟨⟨by decide +kernel, by decide +kernel⟩, List.mem_of_getElem? (i := 458) (by decide +kernel), List.mem_of_getElem? (i := 524) (by decide +kernel), List.mem_of_getElem? (i := 525) (by decide +kernel)⟩
theorem lw_p13 : lw_okq (⟨"PieceTextModel", "draftOne", "(I)V"⟩, 13) := ⟨⟨by decide +kernel, by decide +kernel⟩, List.mem_of_getElem? (i := 458) (by decide +kernel), List.mem_of_getElem? (i := 528) (by decide +kernel), List.mem_of_getElem? (i := 529) (by decide +kernel)⟩
theorem lw_p14 : lw_okq (⟨"PieceTextModel", "act", "()I"⟩, 13) := ⟨⟨by decide +kernel, by decide +kernel⟩, List.mem_of_getElem? (i := 458) (by decide +kernel), List.mem_of_getElem? (i := 532) (by decide +kernel), List.mem_of_getElem? (i := 533) (by decide +kernel)⟩
theorem lw_p15 : lw_okq (⟨"PieceTextModel", "occurs", "(I)Z"⟩, 13) := ⟨⟨by decide +kernel, by decide +kernel⟩, List.mem_of_getElem? (i := 458) (by decide +kernel), List.mem_of_getElem? (i := 568) (by decide +kernel), List.mem_of_getElem? (i := 569) (by decide +kernel)⟩
def lw_privs_1 : List (MethodName × Nat) := [(⟨"PieceText$Phrases", "numberOf", "(II)I"⟩, 3), (⟨"PieceText$Phrases", "addWord", "(I)V"⟩, 3), (⟨"PieceText$Phrases", "isPhrase", "(I)Z"⟩, 3), (⟨"PieceText$Phrases", "lengthOf", "(I)I"⟩, 3), (⟨"PieceText$Phrases", "addPhrase", "(ILPieceText$Row;)V"⟩, 3), (⟨"PieceText", "keepDraft", "()I"⟩, 5), (⟨"PieceText", "differentCharacters", "()I"⟩, 5), (⟨"java/lang/Throwable", "fillInStackTrace", "(I)Ljava/lang/Throwable;"⟩, 6), (⟨"PieceText", "draftReplaced", "(I)I"⟩, 5), (⟨"PieceText", "refuseNoWord", "(I)V"⟩, 5), (⟨"PieceTextModel", "length", "()I"⟩, 13), (⟨"PieceTextModel", "draftFrom", "(II)V"⟩, 13), (⟨"PieceTextModel", "charAt", "(I)I"⟩, 13), (⟨"PieceTextModel", "draftOne", "(I)V"⟩, 13), (⟨"PieceTextModel", "act", "()I"⟩, 13), (⟨"PieceTextModel", "occurs", "(I)Z"⟩, 13)]
theorem lw_r1 : ∀ q ∈ lw_privs_1, lw_okq q := List.forall_mem_cons.mpr ⟨lw_p0, List.forall_mem_cons.mpr ⟨lw_p1, List.forall_mem_cons.mpr ⟨lw_p2, List.forall_mem_cons.mpr ⟨lw_p3, List.forall_mem_cons.mpr ⟨lw_p4, List.forall_mem_cons.mpr ⟨lw_p5, List.forall_mem_cons.mpr ⟨lw_p6, List.forall_mem_cons.mpr ⟨lw_p7, List.forall_mem_cons.mpr ⟨lw_p8, List.forall_mem_cons.mpr ⟨lw_p9, List.forall_mem_cons.mpr ⟨lw_p10, List.forall_mem_cons.mpr ⟨lw_p11, List.forall_mem_cons.mpr ⟨lw_p12, List.forall_mem_cons.mpr ⟨lw_p13, List.forall_mem_cons.mpr ⟨lw_p14, List.forall_mem_cons.mpr ⟨lw_p15, fun _ h => absurd h List.not_mem_nil⟩⟩⟩⟩⟩⟩⟩⟩⟩⟩⟩⟩⟩⟩⟩⟩
def lw_privs : List (MethodName × Nat) := lw_privs_1
def lw_tbl : List Cond := k2_sels lw_privs ++ tables_1
theorem lw_privs_ok : ∀ q ∈ lw_privs, lw_okq q := lw_r1
end
section
section ZK
variable {Q : Handler → Pre} {E : CtlPost} {e : Env} {d : Bool} {acts : List Action} {s : State} {f : JFrame} {a : Addr}
theorem zk_row {b : Bool} {x : ExceptionTableEntry} {t : List ExceptionTableEntry} {c : ClassId} {cell : Cell} (hx : covers x f.pc = true) (h0 : x.catchType ≠ 0)
    (hl : s.vm.ClassLinks e.platform f.method.cls x.catchType c) (hcell : s.heap[a]? = some cell) (hobj : ∀ k, cell.vm ≠ .statics k)
    (hk : ∃ k, s.vm.classes[cell.cls]? = some k) (hc : ∃ k, s.vm.classes[c]? = some k) (hb : s.vm.assignable cell.cls c = b) :
    wp (findHandler.go f a (x :: t)) Q E e d acts s ↔
      (if b = true then Q (.found x.handlerPc) d acts (s.setVm (s.vm.noted f.method.cls x.catchType (.cls c)))
       else wp (findHandler.go f a t) Q E e d acts (s.setVm (s.vm.noted f.method.cls x.catchType (.cls c)))) := by
  simp only [covers] at hx
  obtain ⟨ha, ht⟩ := (resolveClass_links e.toSetting hl).op (op := VmOp.resolveClass f.method.cls x.catchType) rfl
  have hal : s.vm.Alike (s.vm.noted f.method.cls x.catchType (.cls c)) := (Vm.Alike.refl s.vm).noted _ _ _
  obtain ⟨k1, hk1⟩ := hk
  obtain ⟨k2, hk2⟩ := hc
  obtain ⟨k3, hk3, -⟩ := hal.2.2 _ _ hk1
  obtain ⟨k4, hk4, -⟩ := hal.2.2 _ _ hk2
  have hb' : (s.vm.noted f.method.cls x.catchType (.cls c)).assignable cell.cls c = b := by rw [hal.assignable]; exact hb
  cases b <;> simp [findHandler.go, hx, h0, ha, ht, hcell, hobj, hk3, hk4, hb', VmOp.dirties, VmOp.acts]
end ZK
section ZK2
variable {p : Program} {l : Launch} {e : Env} {R : Room} {s : State} {m : MethodId} {args : Array Value} {below : List Frame} {meth : Method} {c : Code} {T : State} {locs : List Loc} {cells slots : Nat}
def zk_pass (pl : Platform) (s : State) (d : ClassId) (pc : Nat) (th : ClassId) (y : ExceptionTableEntry) : Prop :=
  covers y pc = false ∨ (y.catchType ≠ 0 ∧ ∃ k, s.vm.ClassLinks pl d y.catchType k ∧ s.vm.assignable th k = false)
def zk_take (pl : Platform) (s : State) (d : ClassId) (th : ClassId) (y : ExceptionTableEntry) : Prop :=
  y.catchType = 0 ∨ (y.catchType ≠ 0 ∧ ∃ k, s.vm.ClassLinks pl d y.catchType k ∧ s.vm.assignable th k = true)
theorem zk_go {f : JFrame} {a : Addr} {cell : Cell} (hobj : ∀ k, cell.vm ≠ .statics k) (hk0 : ∃ k, s.vm.classes[cell.cls]? = some k)
    (x : ExceptionTableEntry) (rest : List ExceptionTableEntry) (hx : covers x f.pc = true) (hend : zk_take e.platform s f.method.cls cell.cls x) :
    ∀ (pre : List ExceptionTableEntry) (S : State), s.WarmedH S.vm → S.heap[a]? = some cell → (∀ y ∈ pre, zk_pass e.platform s f.method.cls f.pc cell.cls y) →
      ∃ vm', s.WarmedH vm' ∧ ∀ (Q : Handler → Pre) (E : CtlPost) (d : Bool) (acts : List Action), wp (findHandler.go f a (pre ++ x :: rest)) Q E e d acts S ↔ Q (.found x.handlerPc) d acts (S.setVm vm') := by
  obtain ⟨k0, hk0⟩ := hk0
  intro pre
  induction pre with
  | nil =>
    intro S hW hcell _
    obtain ⟨k1, hk1, -⟩ := hW.alike.2.2 _ _ hk0
    rcases hend with h0 | ⟨h0, k, hl, hfit⟩
    · exact ⟨S.vm, hW, fun Q E d acts => by rw [List.nil_append, W.findHandler_go_any hx h0, State.setVm_self]⟩
    · obtain ⟨dk, _, _, kt, hd, _, _, _, _, hkt, _, hopen⟩ := hl.here
      obtain ⟨k2, hk2, -⟩ := hW.alike.2.2 _ _ hkt
      refine ⟨_, hW.noted hd hopen (State.rightAt_cls hl), fun Q E d acts => ?_⟩
      rw [List.nil_append, zk_row (b := true) hx h0 (hW.classLinks hl) hcell hobj ⟨k1, hk1⟩ ⟨k2, hk2⟩ (by rw [hW.alike.assignable]; exact hfit), if_pos rfl]
  | cons y ys ih =>
    intro S hW hcell hpass
    obtain ⟨k1, hk1, -⟩ := hW.alike.2.2 _ _ hk0
    have hrest : ∀ z ∈ ys, zk_pass e.platform s f.method.cls f.pc cell.cls z := fun z hz => hpass z (List.mem_cons_of_mem _ hz)
    by_cases hcov : covers y f.pc = true
    · rcases hpass y List.mem_cons_self with h | ⟨h0, k, hl, hno⟩
      · rw [h] at hcov; cases hcov
      · obtain ⟨dk, _, _, kt, hd, _, _, _, _, hkt, _, hopen⟩ := hl.here
        obtain ⟨k2, hk2, -⟩ := hW.alike.2.2 _ _ hkt
        obtain ⟨vm', hW', hq⟩ := ih (S.setVm (S.vm.noted f.method.cls y.catchType (.cls k))) (hW.noted hd hopen (State.rightAt_cls hl)) hcell hrest
        refine ⟨vm', hW', fun Q E d acts => ?_⟩
        rw [List.cons_append, zk_row (b := false) hcov h0 (hW.classLinks hl) hcell hobj ⟨k1, hk1⟩ ⟨k2, hk2⟩ (by rw [hW.alike.assignable]; exact hno), if_neg (by decide)]
        exact hq Q E d acts
    · obtain ⟨vm', hW', hq⟩ := ih S hW hcell hrest
      refine ⟨vm', hW', fun Q E d acts => ?_⟩
      rw [List.cons_append, W.findHandler_go_skip (by simpa using hcov)]
      exact hq Q E d acts
theorem zk_caught (X : Stand p l e R s m args below meth c T locs cells slots) (a : Addr) {g : JFrame} (hg : g.method = m) {s₀ : State} (hcome : Steps p.tables e below s₀ ((T.setTop g).pushFrame (.throwing a)))
    {cell : Cell} (hcell : T.heap[a]? = some cell) (hobj : cell.vm.isStatics = false) (hk0 : ∃ k, s.vm.classes[cell.cls]? = some k)
    (pre : List ExceptionTableEntry) (x : ExceptionTableEntry) (rest : List ExceptionTableEntry) (hsplit : c.exceptionTable.toList = pre ++ x :: rest)
    (hpass : ∀ y ∈ pre, zk_pass e.platform s m.cls g.pc cell.cls y) (hx : covers x g.pc = true) (hend : zk_take e.platform s m.cls cell.cls x) :
    ∃ vm', Stand p l e R s m args below meth c (T.setVm vm') locs cells slots ∧ Steps p.tables e below s₀ ((T.setVm vm').setTop { g with pc := x.handlerPc, stack := [.ref a] }) := by
  subst hg
  obtain ⟨vm', hW', hq⟩ := zk_go (e := e) (s := s) (f := g) (a := a) (VmData.ne_statics_of hobj) hk0 x rest hx hend pre ((T.setTop g).pushFrame (.throwing a)) X.warmed hcell hpass
  have hf : ∀ (Q : Handler → Pre) (E : CtlPost) (d : Bool) (acts : List Action), wp (findHandler g a) Q E e d acts ((T.setTop g).pushFrame (.throwing a)) ↔ Q (.found x.handlerPc) d acts (((T.setTop g).pushFrame (.throwing a)).setVm vm') := fun Q E d acts => by
    have h1 := W.findHandler_eq (Q := Q) (E := E) (e := e) (d := d) (acts := acts) (s := (T.setTop g).pushFrame (.throwing a)) (f := g) (a := a) (meth := meth) (code := c) X.method' X.code
    rw [hsplit] at h1
    exact h1.trans (hq Q E d acts)
  refine ⟨vm', X.noted hW', hcome.trans ?_⟩
  have hst : (stepThrowing e ((T.setTop g).pushFrame (.throwing a)) a (.java g :: T.frames.tail)).Is ((((T.setTop g).pushFrame (.throwing a)).setVm vm').setFrames (.java { g with pc := x.handlerPc, stack := [.ref a] } :: T.frames.tail)) [] := by
    simp only [stepThrowing, searchFrame, vmDo]
    generalize hr : Sem.go _ e false [] ((T.setTop g).pushFrame (.throwing a)) = res
    obtain ⟨as, rfl, ha⟩ := Sem.eq_ok_of hr (a := Handler.found x.handlerPc) (s' := ((T.setTop g).pushFrame (.throwing a)).setVm vm') (acts' := []) (by simp [hf _ _ _ _])
    exact ⟨rfl, ha⟩
  obtain ⟨hgo, hw⟩ := X.here.throwing (g := g) a
  refine Steps.head hgo hw ?_
  rw [stepThread_throwing (frames_entered X.here.top _), hst.1]
  obtain ⟨g₀, hg0⟩ := Option.isSome_iff_exists.mp X.here.top
  obtain ⟨r, hr⟩ := State.topJava?_eq_some.mp hg0
  have hr' : (T.setVm vm').frames = .java g₀ :: r := hr
  have e1 : ∀ (u : State) (F G : List Frame), ((u.setFrames F).setVm vm').setFrames G = (u.setVm vm').setFrames G := fun u F G => by
    have h1 : (u.setFrames F).setVm vm' = (u.setVm vm').setFrames F := rfl
    rw [h1, State.setFrames_setFrames]
  rw [State.setTop_of_frames _ hr', hr, List.tail_cons, State.pushFrame, e1, State.setTop_of_frames _ hr, e1]
  exact Steps.refl _
end ZK2
end
section

theorem goodIn_r {big : List Cond} (ws : List Cond) (ps : List Nat) (hp : ws = ps.filterMap (fun i => big[i]?)) (h : ws.all goodWord = true) : GoodIn big ws := by
  intro w hw
  have h1 := List.all_eq_true.mp h w hw
  rw [hp] at hw
  obtain ⟨i, -, hi⟩ := List.mem_filterMap.mp hw
  have hm : w ∈ big := by first | exact List.mem_of_getElem? hi | exact List.getElem?_mem hi
  exact ⟨hm, good_of_word h1⟩
theorem goodIn_app {big a b : List Cond} (ha : GoodIn big a) (hb : GoodIn big b) : GoodIn big (a ++ b) := fun w h => (List.mem_append.mp h).elim (ha w) (hb w)
theorem goodIn_ca {big a b : List Cond} {c : Cond} (ha : GoodIn big (c :: a)) (hb : GoodIn big b) : GoodIn big (c :: (a ++ b)) := fun w h => (List.mem_cons.mp h).elim (fun e => ha w (List.mem_cons.mpr (Or.inl e))) (fun h => (List.mem_append.mp h).elim (fun h => ha w (List.mem_cons.mpr (Or.inr h))) (hb w))
theorem goodIn_sub {big ws : List Cond} (hm : ∀ w ∈ ws, w ∈ big) (h : ws.all goodWord = true) : GoodIn big ws := fun w hw => ⟨hm w hw, good_of_word (List.all_eq_true.mp h w hw)⟩



section VXA


def vx_T (XC : String → State → State → Prop) (st : State) (q : Addr) (t : State) (mc ms : Nat) (free : Addr → Prop) : Prop :=
  ∃ (E : String) (ce : Cell) (L : List Loc), XC E st t ∧ t.heap[q]? = some ce ∧ ce.vm = .none ∧ st.vm.findClass E = some ce.cls ∧ st.WarmedH t.vm ∧ st.sameButNew ({ t with vm := st.vm } : State) L mc ms ∧ ∀ z ∈ L, free z.base
def vx_Q (Qc : Array Value → State → Outcome → State → Prop) (XC : String → State → State → Prop) (mc ms : Nat) (free : Addr → Prop) : Array Value → State → Outcome → State → Prop := fun a st o t =>
  (Qc a st o t ∧ ∃ L, FrameEnd st o t L mc ms ∧ ∀ q ∈ L, free q.base) ∨ ∃ q, o = .threw q ∧ vx_T XC st q t mc ms free

def vx_Met (l : Launch) (y : MethodName) (ws : List Cond) (rm : Room) (Pc : Array Value → State → Prop) (Qc : Array Value → State → Outcome → State → Prop) (XC : String → State → State → Prop) (mc ms : Nat) (free : Addr → Prop) : Prop :=
  MetFree l y (headSpec ws rm) Pc (fun _ _ _ _ _ => True) (vx_Q Qc XC mc ms free)
def vx_Post (XC : String → State → State → Prop) (mc ms : Nat) (free : Addr → Prop) : Pt → Array Value → Addr → Pt → Prop := fun A a q B =>
  ∃ (g : JFrame) (mk : MethodId) (t : State) (L : List Loc) (E : String) (ce : Cell), B.U.heap = t.heap ∧ B.U.vm = t.vm ∧ XC E (A.U.calling g mk a) t ∧ t.heap[q]? = some ce ∧ ce.vm = .none ∧ A.U.vm.findClass E = some ce.cls ∧ B.locs = A.locs ++ L ∧ (∀ z ∈ L, free z.base) ∧ B.cells = A.cells + mc ∧ B.slots = A.slots + ms
def vx_Back (l : Launch) (R : Room) (p : Program) (e : Env) (below : List Frame) (s : State) (sargs : Array Value) (y : MethodName) (len W9 : Nat)
    (Pre : Pt → Array Value → Prop) (Post : Pt → Array Value → Option Value → Pt → Prop) (PostX : Pt → Array Value → Addr → Pt → Prop) : Prop :=
  ∀ (m : MethodId) (meth : Method) (c : Code) (A : Pt) (g : JFrame) (ig : Instr) (mk : MethodId) (a : Array Value),
    Stand p l e R s m sargs below meth c A.U A.locs A.cells A.slots → g.method = m → g.locals.size = c.maxLocals → decode c.code g.pc = .ok (ig, len) →
    2 * g.monitorRoom + (g.stack.map fun v => v.category).sum ≤ W9 → A.U.methodNamed? y = some mk → Pre A a →
    (∃ (v : Option Value) (B : Pt), Stand p l e R s m sargs below meth c B.U B.locs B.cells B.slots ∧ Post A a v B ∧
      Steps p.tables e below (doInvoke e (A.U.setTop g) [] mk a).1 (B.U.setTop { g with pc := g.pc + len, stack := v.toList ++ g.stack })) ∨
    (∃ (q : Addr) (B : Pt), Stand p l e R s m sargs below meth c B.U B.locs B.cells B.slots ∧ PostX A a q B ∧
      Steps p.tables e below (doInvoke e (A.U.setTop g) [] mk a).1 ((B.U.setTop g).pushFrame (.throwing q)))
section Payer
variable {l : Launch} {R : Room} {p : Program} {e : Env} {below : List Frame} {s : State} {sargs : Array Value} {y : MethodName} {len W9 : Nat}
theorem vx_back {ws : List Cond} {rm : Room} {Pc : Array Value → State → Prop} {Qc : Array Value → State → Outcome → State → Prop} {XC : String → State → State → Prop} {mc ms : Nat} {free : Addr → Prop} {bytes : ByteArray} {maxL : Nat} {ret : Option FieldType}
    (hM : vx_Met l y ws rm Pc Qc XC mc ms free) (hblind : FrameBlind Pc) (hrc : rm.cells = mc) (hrs : rm.slots = ms)
    (hframes : rm.frames + 1 ≤ R.frames) (hlocals : W9 + (maxL + 11) + rm.locals ≤ R.locals)
    (hws : ∀ w ∈ ws, ∀ a' U, s.WarmedH U.vm → w.before a' U = true) (hcode : Cond.code y bytes maxL ret ∈ ws) (hinit : ∀ a' U, s.WarmedH U.vm → (Cond.initialized y.cls).before a' U = true) :
    vx_Back l R p e below s sargs y len W9 (PreOf R mc ms Pc) (PostOf Qc mc ms free) (vx_Post XC mc ms free) := by
  intro m meth c A g ig mk a X hg hsize hdg hW hn hp
  have h1 : (headSpec ws rm).pre.before a A.U = true := atoms_intro fun w hw => hws w hw _ _ X.warmed
  have h2 : (Cond.code y bytes maxL ret).before a A.U = true := hws _ hcode _ _ X.warmed
  have h3 : (Cond.initialized y.cls).before a A.U = true := hinit _ _ X.warmed
  have h4 : A.cells + (headSpec ws rm).room.cells ≤ R.cells := by rw [show (headSpec ws rm).room.cells = mc from hrc]; exact hp.1
  have h5 : A.slots + (headSpec ws rm).room.slots ≤ R.slots := by rw [show (headSpec ws rm).room.slots = ms from hrs]; exact hp.2.1
  have hPc : Pc a (A.U.calling g mk a) := hblind _ _ _ _ hp.2.2
  obtain ⟨U, Ls, c0, s0⟩ := A
  dsimp only [Pt.U, Pt.locs, Pt.cells, Pt.slots] at h1 h2 h3 h4 h5 X hn hPc ⊢
  obtain ⟨methY, cY, hmY, hcY, -, hlY, -, -, -, -⟩ := Cond.code_spec hn h2
  obtain ⟨kY, hkY, -⟩ := className_of_methodNamed hn
  have hinitY : kY.init = .initialized := Cond.initialized_spec (findClass_of_methodNamed hn) hkY h3
  have h : At U g.method c below := by rw [hg]; exact X.here
  have hlocals9 : W9 + (maxL + 11) + (headSpec ws rm).room.locals ≤ R.locals := hlocals
  have happ : (headSpec ws rm).appliesLoose y e.platform (U.calling g mk a) = true :=
    Spec.appliesLoose_calling (g := g) h hdg hn hkY hinitY
      (X.room_calling (g := g) (R' := (headSpec ws rm).room) hsize hmY hcY hframes (by rw [hlY]; omega) h4 h5) h1
  obtain ⟨mid, hmid⟩ := h.above
  have hfr : (U.setTop g).frames = (.java g :: mid) ++ below := by rw [State.frames_setTop' g h.top, hmid]; rfl
  obtain ⟨o, s₂, hsteps, -, hend, hq⟩ := Steps.callFree hM p X.admits X.cas X.clock (acts := []) hfr happ hPc trivial
  have hq' : vx_Q Qc XC mc ms free a (U.calling g mk a) o s₂ := hq
  rw [State.frames_setTop' g h.top] at hend
  obtain ⟨g₀, hg0⟩ := Option.isSome_iff_exists.mp h.top
  obtain ⟨r, hr⟩ := State.topJava?_eq_some.mp hg0
  have hr' : (({ U with heap := s₂.heap, slotsUsed := s₂.slotsUsed } : State).setVm s₂.vm).frames = .java g₀ :: r := hr
  rcases hq' with ⟨hqc, L, hfe, hL⟩ | ⟨q, rfl, E, ce, L, hx, hce, hcv, hcl, hW₂, hsm, hL⟩
  · obtain ⟨⟨v, rfl⟩, hW₂, e2, q2, q3, q4, q5, q6⟩ := id hfe
    have e3 : s₂ = ({ (U.calling g mk a).setFrames s₂.frames with heap := s₂.heap, slotsUsed := s₂.slotsUsed } : State).setVm s₂.vm := by
      have : s₂ = ({ s₂ with vm := (U.calling g mk a).vm } : State).setVm s₂.vm := rfl
      rw [e2] at this
      exact this
    obtain ⟨c₂, i₂, len₂, hc₂, hd₂, hf₂⟩ := hend
    have hW' : U.WarmedH s₂.vm := hW₂
    have hcc : c₂ = c := by
      have h1 : s₂.code? g.method = U.code? g.method := by
        rw [State.code?_eq, State.code?_eq, hW'.alike.method?]
      exact Option.some.inj (hc₂.symm.trans (h1.trans h.code))
    subst hcc
    have hlen : len₂ = len := by rw [hdg] at hd₂; cases hd₂; rfl
    subst hlen
    have hs₂ : s₂ = (({ U with heap := s₂.heap, slotsUsed := s₂.slotsUsed } : State).setVm s₂.vm).setTop { g with pc := g.pc + len₂, stack := v.toList ++ g.stack } := by
      refine e3.trans ?_
      rw [hf₂, State.calling_eq h.top, State.setFrames_setFrames, State.setTop_of_frames _ hr', hr]
      rfl
    have hsame : U.sameButNew ({ U with heap := s₂.heap, slotsUsed := s₂.slotsUsed } : State) L mc ms := by
      refine ⟨?_, q2, q3, q4, q5, q6⟩
      obtain ⟨t, ht, -⟩ := State.frames_cons hr
      show ({ U with heap := s₂.heap, slotsUsed := s₂.slotsUsed } : State) = { U.setFrames U.frames with heap := s₂.heap, slotsUsed := s₂.slotsUsed }
      rw [State.setFrames_self ht]
    subst hg
    refine Or.inl ⟨v, ⟨(({ U with heap := s₂.heap, slotsUsed := s₂.slotsUsed } : State).setVm s₂.vm), Ls ++ L, c0 + mc, s0 + ms⟩,
      ⟨X.admits, X.cas, X.clock, X.frames, X.room, X.hears, X.method, X.code, (X.here.setHeapUsed s₂.heap s₂.slotsUsed).setVm hW'.alike, X.tail, State.WarmedH.trans X.warmed hW', X.limits, X.bytes, X.same.trans (hsame.setVm s.vm)⟩,
      ⟨g, mk, s₂, L, rfl, rfl, hqc, rfl, hL, rfl, rfl⟩, ?_⟩
    show Steps p.tables e below _ ((({ U with heap := s₂.heap, slotsUsed := s₂.slotsUsed } : State).setVm s₂.vm).setTop { g with pc := g.pc + len₂, stack := v.toList ++ g.stack })
    rw [← hs₂]
    exact hsteps
  · obtain ⟨e2, q2, q3, q4, q5, q6⟩ := id hsm
    have e3 : s₂ = ({ (U.calling g mk a).setFrames s₂.frames with heap := s₂.heap, slotsUsed := s₂.slotsUsed } : State).setVm s₂.vm := by
      have : s₂ = ({ s₂ with vm := (U.calling g mk a).vm } : State).setVm s₂.vm := rfl
      rw [e2] at this
      exact this
    have hf₂ : s₂.frames = .throwing q :: .java g :: U.frames.tail := hend
    have hW' : U.WarmedH s₂.vm := hW₂
    have hs₂ : s₂ = ((({ U with heap := s₂.heap, slotsUsed := s₂.slotsUsed } : State).setVm s₂.vm).setTop g).pushFrame (.throwing q) := by
      refine e3.trans ?_
      rw [hf₂, State.calling_eq h.top, State.setFrames_setFrames, State.pushFrame, State.frames_setTop _ hr', State.setTop_of_frames _ hr', State.setFrames_setFrames, hr]
      rfl
    have hsame : U.sameButNew ({ U with heap := s₂.heap, slotsUsed := s₂.slotsUsed } : State) L mc ms := by
      refine ⟨?_, q2, q3, q4, q5, q6⟩
      obtain ⟨t, ht, -⟩ := State.frames_cons hr
      show ({ U with heap := s₂.heap, slotsUsed := s₂.slotsUsed } : State) = { U.setFrames U.frames with heap := s₂.heap, slotsUsed := s₂.slotsUsed }
      rw [State.setFrames_self ht]
    subst hg
    refine Or.inr ⟨q, ⟨(({ U with heap := s₂.heap, slotsUsed := s₂.slotsUsed } : State).setVm s₂.vm), Ls ++ L, c0 + mc, s0 + ms⟩,
      ⟨X.admits, X.cas, X.clock, X.frames, X.room, X.hears, X.method, X.code, (X.here.setHeapUsed s₂.heap s₂.slotsUsed).setVm hW'.alike, X.tail, State.WarmedH.trans X.warmed hW', X.limits, X.bytes, X.same.trans (hsame.setVm s.vm)⟩,
      ⟨g, mk, s₂, L, E, ce, rfl, rfl, hx, hce, hcv, hcl, rfl, hL, rfl, rfl⟩, ?_⟩
    show Steps p.tables e below _ (((({ U with heap := s₂.heap, slotsUsed := s₂.slotsUsed } : State).setVm s₂.vm).setTop g).pushFrame (.throwing q))
    rw [← hs₂]
    exact hsteps
end Payer
section Calls
variable {p : Program} {l : Launch} {e : Env} {R : Room} {s : State} {m : MethodId} {args : Array Value} {below : List Frame} {meth : Method} {c : Code} {T : State} {locs : List Loc} {cells slots : Nat}
theorem vx_callV (X : Stand p l e R s m args below meth c T locs cells slots) (hexec : p.tables.exec = Jvm.exec) {own C : String} {index : Nat} {y : MethodName} {bytes : ByteArray} {maxL : Nat} {ret : Option FieldType}
    (hown : s.vm.findClass own = some m.cls) (hlink : (Cond.methodLink own index y).before args s = true) (hinst : (Cond.instanceMethod y).before args s = true) (hsel : (Cond.selects C y y).before args s = true)
    (hcode : (Cond.code y bytes maxL ret).before args s = true) (hy : y.cls ≠ "java/lang/invoke/MethodHandle" ∧ y.cls ≠ "java/lang/invoke/VarHandle")
    {W9 : Nat} {Pre : Pt → Array Value → Prop} {Post : Pt → Array Value → Option Value → Pt → Prop} {PostX : Pt → Array Value → Addr → Pt → Prop} (hK : vx_Back l R p e below s args y 3 W9 Pre Post PostX)
    {b : Addr} {cellB : Cell} (hcell : T.heap[b]? = some cellB) (hobj : cellB.vm.isStatics = false) (hcls : s.vm.findClass C = some cellB.cls)
    {g : JFrame} (hg : g.method = m) (hsize : g.locals.size = c.maxLocals) {argsL rest : List Value} (hlen : ∀ sig, parseMethodDescriptor y.desc = some sig → argsL.length = sig.parameters.length)
    (hstack : g.stack = argsL.reverse ++ .ref b :: rest) (hW : 2 * g.monitorRoom + (rest.map fun v => v.category).sum ≤ W9) (hdg : decode c.code g.pc = .ok (.invokevirtual index, 3))
    (hpre : ∀ vm₁, s.WarmedH vm₁ → Pre ⟨T.setVm vm₁, locs, cells, slots⟩ (Value.ref b :: argsL).toArray) :
    (∃ (v : Option Value) (vm₁ : Vm) (B : Pt), s.WarmedH vm₁ ∧ Stand p l e R s m args below meth c B.U B.locs B.cells B.slots ∧ Post ⟨T.setVm vm₁, locs, cells, slots⟩ (Value.ref b :: argsL).toArray v B ∧
      ∀ target, Steps p.tables e below (B.U.setTop { g with pc := g.pc + 3, stack := v.toList ++ rest }) target → Steps p.tables e below (T.setTop g) target) ∨
    (∃ (q : Addr) (vm₁ : Vm) (B : Pt), s.WarmedH vm₁ ∧ Stand p l e R s m args below meth c B.U B.locs B.cells B.slots ∧ PostX ⟨T.setVm vm₁, locs, cells, slots⟩ (Value.ref b :: argsL).toArray q B ∧
      Steps p.tables e below (T.setTop g) ((B.U.setTop { g with stack := rest }).pushFrame (.throwing q))) := by
  obtain ⟨mk, methM, hnamed, hmethM, hstM, habM⟩ := Cond.instanceMethod_spec hinst
  obtain ⟨methM', cM, hmethM', -, -, -, -, -, -, hsigM⟩ := Cond.code_spec hnamed hcode
  cases hmethM.symm.trans hmethM'
  obtain ⟨c2, r2, m2, q1, q2, q3, q4, kP, hkP, hkPi⟩ := Cond.selects_spec hsel
  cases hcls.symm.trans q1
  cases (State.methodFound?_of_named hnamed hy).symm.trans q2
  cases hnamed.symm.trans q3
  have hselP : selectMethod e.platform s.vm cellB.cls mk = .method mk := by rw [Launch.admits_selectMethod X.admits]; exact q4
  obtain ⟨vm₁, X₁, hstep₁⟩ := X.invokevirtual hexec hown hlink hnamed hmethM hstM hkP hkPi hy (a := b) (cell := cellB) hcell
    (fun z h => by rw [h] at hobj; cases hobj) hselP hmethM habM hkP hkPi (g := g) hg (argsL := argsL) (rest := rest) (hlen _ hsigM) hstack hdg
  rcases hK m meth c ⟨T.setVm vm₁, locs, cells, slots⟩ { g with stack := rest } (.invokevirtual index) mk (Value.ref b :: argsL).toArray X₁ hg hsize hdg hW (X₁.named hnamed) (hpre vm₁ X₁.warmed) with ⟨v, B, X', hpost, hsteps⟩ | ⟨q, B, X', hpost, hsteps⟩
  · exact Or.inl ⟨v, vm₁, B, X₁.warmed, X', hpost, fun target h => hstep₁ _ fun acts => by rw [doInvoke_state]; exact hsteps.trans h⟩
  · exact Or.inr ⟨q, vm₁, B, X₁.warmed, X', hpost, hstep₁ _ fun acts => by rw [doInvoke_state]; exact hsteps⟩
theorem vx_callS (X : Stand p l e R s m args below meth c T locs cells slots) (hexec : p.tables.exec = Jvm.exec) {own : String} {index : Nat} {y : MethodName} {bytes : ByteArray} {maxL : Nat} {ret : Option FieldType}
    (hown : s.vm.findClass own = some m.cls) (hlink : (Cond.methodLink own index y).before args s = true) (hstat : (Cond.static y).before args s = true) (hinit : (Cond.initialized y.cls).before args s = true)
    (hcode : (Cond.code y bytes maxL ret).before args s = true) (hy : y.cls ≠ "java/lang/invoke/MethodHandle" ∧ y.cls ≠ "java/lang/invoke/VarHandle")
    {W9 : Nat} {Pre : Pt → Array Value → Prop} {Post : Pt → Array Value → Option Value → Pt → Prop} {PostX : Pt → Array Value → Addr → Pt → Prop} (hK : vx_Back l R p e below s args y 3 W9 Pre Post PostX)
    {g : JFrame} (hg : g.method = m) (hsize : g.locals.size = c.maxLocals) {argsL rest : List Value} (hlen : ∀ sig, parseMethodDescriptor y.desc = some sig → argsL.length = sig.parameters.length)
    (hstack : g.stack = argsL.reverse ++ rest) (hW : 2 * g.monitorRoom + (rest.map fun v => v.category).sum ≤ W9) (hdg : decode c.code g.pc = .ok (.invokestatic index, 3))
    (hpre : ∀ vm₁, s.WarmedH vm₁ → Pre ⟨T.setVm vm₁, locs, cells, slots⟩ argsL.toArray) :
    (∃ (v : Option Value) (vm₁ : Vm) (B : Pt), s.WarmedH vm₁ ∧ Stand p l e R s m args below meth c B.U B.locs B.cells B.slots ∧ Post ⟨T.setVm vm₁, locs, cells, slots⟩ argsL.toArray v B ∧
      ∀ target, Steps p.tables e below (B.U.setTop { g with pc := g.pc + 3, stack := v.toList ++ rest }) target → Steps p.tables e below (T.setTop g) target) ∨
    (∃ (q : Addr) (vm₁ : Vm) (B : Pt), s.WarmedH vm₁ ∧ Stand p l e R s m args below meth c B.U B.locs B.cells B.slots ∧ PostX ⟨T.setVm vm₁, locs, cells, slots⟩ argsL.toArray q B ∧
      Steps p.tables e below (T.setTop g) ((B.U.setTop { g with stack := rest }).pushFrame (.throwing q))) := by
  obtain ⟨mk, hnamed⟩ := Cond.code_named hcode
  obtain ⟨methM, cM, hmethM, -, -, -, -, -, -, hsigM⟩ := Cond.code_spec hnamed hcode
  have hstatic : methM.isStatic = true := Cond.static_spec hnamed hmethM hstat
  obtain ⟨kP, hkP, -⟩ := className_of_methodNamed hnamed
  have hinitP : kP.init = .initialized := Cond.initialized_spec (findClass_of_methodNamed hnamed) hkP hinit
  obtain ⟨vm₁, X₁, hstep₁⟩ := X.invokestatic hexec hown hlink hnamed hmethM hstatic hkP hinitP hy (g := g) hg (argsL := argsL) (rest := rest) (hlen _ hsigM) hstack hdg
  rcases hK m meth c ⟨T.setVm vm₁, locs, cells, slots⟩ { g with stack := rest } (.invokestatic index) mk argsL.toArray X₁ hg hsize hdg hW (X₁.named hnamed) (hpre vm₁ X₁.warmed) with ⟨v, B, X', hpost, hsteps⟩ | ⟨q, B, X', hpost, hsteps⟩
  · exact Or.inl ⟨v, vm₁, B, X₁.warmed, X', hpost, fun target h => hstep₁ _ fun acts => by rw [doInvoke_state]; exact hsteps.trans h⟩
  · exact Or.inr ⟨q, vm₁, B, X₁.warmed, X', hpost, hstep₁ _ fun acts => by rw [doInvoke_state]; exact hsteps⟩
end Calls
theorem vx_cls {s : State} {T : State} {vm₁ : Vm} {E : String} {k : ClassId} (hW : s.WarmedH vm₁) (h : (T.setVm vm₁).vm.findClass E = some k) : s.vm.findClass E = some k := by
  have h1 : vm₁.findClass E = some k := h
  rw [hW.alike.findClass] at h1
  exact h1

def vx_W (p : Program) (l : Launch) (e : Env) (R : Room) (s : State) (m : MethodId) (args : Array Value) (below : List Frame) (meth : Method) (c : Code) (H : Heap) (locs : List Loc) (cells slots : Nat) (Q : State → Prop) (g : JFrame) (q : Addr) : Prop :=
  ∀ T : State, T.heap = H → Stand p l e R s m args below meth c T locs cells slots → ∃ t, Steps p.tables e below ((T.setTop g).pushFrame (.throwing q)) t ∧ Q t
def vx_Run (p : Program) (l : Launch) (e : Env) (R : Room) (s : State) (m : MethodId) (args : Array Value) (below : List Frame) (meth : Method) (c : Code) (H : Heap) (locs : List Loc) (cells slots mc ms : Nat) (g : JFrame) (rest : List Value) (Qa : State → Outcome → State → Prop) (XC : String → State → State → Prop) (free : Addr → Prop) : Prop :=
  ∀ T : State, T.heap = H → Stand p l e R s m args below meth c T locs cells slots →
    (∃ (v : Option Value) (st₀ t T' : State) (L : List Loc), st₀.heap = H ∧ Stand p l e R s m args below meth c T' (locs ++ L) (cells + mc) (slots + ms) ∧ (∀ q ∈ L, free q.base) ∧ T'.heap = t.heap ∧ T'.vm = t.vm ∧ Qa st₀ (.returned v) t ∧
      Goes p e below T g T' { g with pc := g.pc + 3, stack := v.toList ++ rest }) ∨
    (∃ (q : Addr) (st₀ t T' : State) (L : List Loc) (E : String) (ce : Cell), st₀.heap = H ∧ Stand p l e R s m args below meth c T' (locs ++ L) (cells + mc) (slots + ms) ∧ (∀ z ∈ L, free z.base) ∧ T'.heap = t.heap ∧ T'.vm = t.vm ∧ XC E st₀ t ∧ t.heap[q]? = some ce ∧ ce.vm = .none ∧ s.vm.findClass E = some ce.cls ∧
      Steps p.tables e below (T.setTop g) ((T'.setTop { g with stack := rest }).pushFrame (.throwing q)))
def vx_X {S : Type} (px : S → Prop) (B : String → S → State → Prop) (A : Nat → Prop) : String → State → State → Prop := fun E st t => ∃ u : S, px u ∧ B E u t ∧ va_F A st t
section Runs
variable {p : Program} {l : Launch} {e : Env} {R : Room} {s : State} {m : MethodId} {args : Array Value} {below : List Frame} {meth : Method} {c : Code} {H : Heap} {locs : List Loc} {cells slots : Nat}
variable {y : MethodName} {bytes cc : ByteArray} {maxL nL mc ms n index : Nat} {ret : Option FieldType} {ws : List Cond} {rm : Room} {Pc : Array Value → State → Prop} {Qc : Array Value → State → Outcome → State → Prop} {XC : String → State → State → Prop} {free : Addr → Prop} {Ts : List Cond} {own C : String} {b : Addr} {As rest : List Value} {g : JFrame}
theorem vx_callBack (cb : CallB R s args own index y bytes maxL ret ws rm mc ms n) (hM : vx_Met l y ws rm Pc Qc XC mc ms free) (hbl : FrameBlind Pc) : vx_Back l R p e below s args y 3 8 (PreOf R mc ms Pc) (PostOf Qc mc ms free) (vx_Post XC mc ms free) := by
  obtain ⟨hrc, hrs, hfr, hlo, hws, hcw, -, hini, -⟩ := cb
  exact vx_back (bytes := bytes) (maxL := maxL) (ret := ret) hM hbl hrc hrs hfr hlo hws hcw (fun a' U hW => word_at hW (Or.inl (by first | rfl | simp [Cond.onTables, Cond.keeps, Cond.steady])) hini)
theorem vx_runV (S : CallFix p m c cc nL s args Ts own) (hM : vx_Met l y ws rm Pc Qc XC mc ms free) (cw : CallW R s args own C index y bytes maxL ret ws rm mc ms n) (hp : PreV s H C b Pc As)
    (hg : g.method = m) (hn : As.length = n) (hsize : g.locals.size = nL) (hstack : g.stack = As.reverse ++ .ref b :: rest) (hW : 2 * g.monitorRoom + (rest.map fun v => v.category).sum ≤ 8) (hdg : decode cc g.pc = .ok (.invokevirtual index, 3)) (hf : cells + mc ≤ R.cells ∧ slots + ms ≤ R.slots) :
    vx_Run p l e R s m args below meth c H locs cells slots mc ms g rest (Qc (Value.ref b :: As).toArray) XC free := by
  have hK : vx_Back l R p e below s args y 3 8 (PreOf R mc ms Pc) (PostOf Qc mc ms free) (vx_Post XC mc ms free) := vx_callBack cw.1 hM hp.1
  obtain ⟨⟨-, -, -, -, -, -, hcode, -, hy, hlen, hl⟩, hin, hse⟩ := cw
  obtain ⟨hx, hb, hml, ho, -⟩ := S
  obtain ⟨-, ⟨cellB, hcB, hoB, hclB⟩, hPc⟩ := hp
  intro T hT X
  rcases vx_callV X hx (C := C) (bytes := bytes) (maxL := maxL) (ret := ret) ho hl hin hse hcode hy hK (by rw [hT]; exact hcB) hoB hclB hg (hsize.trans hml.symm) (argsL := As) (rest := rest) (fun sig h => hn.trans (hlen sig h)) hstack hW (by rw [hb]; exact hdg)
    (fun vm₁ hW₁ => ⟨hf.1, hf.2, hPc (T.setVm vm₁) hT hW₁⟩) with ⟨v, vm₁, ⟨U', l2, c2, s2⟩, hW₁, X', ⟨g', mk, t, L, e1, e2, hq, h1, hL, h2, h3⟩, st⟩ | ⟨q, vm₁, ⟨U', l2, c2, s2⟩, hW₁, X', ⟨g', mk, t, L, E, ce, e1, e2, hq, hce, hcv, hcl, h1, hL, h2, h3⟩, st⟩
  · dsimp only [Pt.U, Pt.locs, Pt.cells, Pt.slots] at X' e1 e2 h1 h2 h3 st
    subst h1; subst h2; subst h3
    exact Or.inl ⟨v, (T.setVm vm₁).calling g' mk (Value.ref b :: As).toArray, t, U', L, hT, X', hL, e1, e2, hq, st⟩
  · dsimp only [Pt.U, Pt.locs, Pt.cells, Pt.slots] at X' e1 e2 h1 h2 h3 st hcl
    subst h1; subst h2; subst h3
    exact Or.inr ⟨q, (T.setVm vm₁).calling g' mk (Value.ref b :: As).toArray, t, U', L, E, ce, hT, X', hL, e1, e2, hq, hce, hcv, vx_cls hW₁ hcl, st⟩
theorem vx_runS (S : CallFix p m c cc nL s args Ts own) (hM : vx_Met l y ws rm Pc Qc XC mc ms free) (cw : CallB R s args own index y bytes maxL ret ws rm mc ms n ∧ (Cond.static y).before args s = true) (hp : PreS s H Pc As)
    (hg : g.method = m) (hn : As.length = n) (hsize : g.locals.size = nL) (hstack : g.stack = As.reverse ++ rest) (hW : 2 * g.monitorRoom + (rest.map fun v => v.category).sum ≤ 8) (hdg : decode cc g.pc = .ok (.invokestatic index, 3)) (hf : cells + mc ≤ R.cells ∧ slots + ms ≤ R.slots) :
    vx_Run p l e R s m args below meth c H locs cells slots mc ms g rest (Qc As.toArray) XC free := by
  have hK : vx_Back l R p e below s args y 3 8 (PreOf R mc ms Pc) (PostOf Qc mc ms free) (vx_Post XC mc ms free) := vx_callBack cw.1 hM hp.1
  obtain ⟨⟨-, -, -, -, -, -, hcode, hini, hy, hlen, hl⟩, hstt⟩ := cw
  obtain ⟨hx, hb, hml, ho, -⟩ := S
  intro T hT X
  rcases vx_callS X hx (bytes := bytes) (maxL := maxL) (ret := ret) ho hl hstt hini hcode hy hK hg (hsize.trans hml.symm) (argsL := As) (rest := rest) (fun sig h => hn.trans (hlen sig h)) hstack hW (by rw [hb]; exact hdg)
    (fun vm₁ hW₁ => ⟨hf.1, hf.2, hp.2 (T.setVm vm₁) hT hW₁⟩) with ⟨v, vm₁, ⟨U', l2, c2, s2⟩, hW₁, X', ⟨g', mk, t, L, e1, e2, hq, h1, hL, h2, h3⟩, st⟩ | ⟨q, vm₁, ⟨U', l2, c2, s2⟩, hW₁, X', ⟨g', mk, t, L, E, ce, e1, e2, hq, hce, hcv, hcl, h1, hL, h2, h3⟩, st⟩
  · dsimp only [Pt.U, Pt.locs, Pt.cells, Pt.slots] at X' e1 e2 h1 h2 h3 st
    subst h1; subst h2; subst h3
    exact Or.inl ⟨v, (T.setVm vm₁).calling g' mk As.toArray, t, U', L, hT, X', hL, e1, e2, hq, st⟩
  · dsimp only [Pt.U, Pt.locs, Pt.cells, Pt.slots] at X' e1 e2 h1 h2 h3 st hcl
    subst h1; subst h2; subst h3
    exact Or.inr ⟨q, (T.setVm vm₁).calling g' mk As.toArray, t, U', L, E, ce, hT, X', hL, e1, e2, hq, hce, hcv, vx_cls hW₁ hcl, st⟩
end Runs
section Rows
variable {p : Program} {l : Launch} {e : Env} {R : Room} {s : State} {m : MethodId} {args : Array Value} {below : List Frame} {meth : Method} {c : Code} {H : Heap} {locs : List Loc} {cells slots : Nat} {Q : State → Prop}
variable {mc ms : Nat} {free : Addr → Prop} {A0 A1 : Nat → Prop} {H0 : Heap} {a : Array Value} {pc : Nat} {ls : Array Slot} {st0 rest : List Value}
theorem vx_keep {st₀ t T' : State} {L : List Loc} (h0 : st₀.heap = H) (e1 : T'.heap = t.heap) (hS : va_S A0 H0 H locs) (hA : ∀ q, q < H.size → A1 q → A0 q) (hf : ∀ q, free q → A0 q) (hL : ∀ q ∈ L, free q.base) (hF : va_F A1 st₀ t) :
    H.size ≤ T'.heap.size ∧ (∀ q : Nat, q < H.size → ¬ A1 q → T'.heap[q]? = H[q]?) ∧ va_S A0 H0 T'.heap (locs ++ L) := by
  obtain ⟨hz, hk⟩ := hF
  rw [h0] at hz hk
  exact ⟨by rw [e1]; exact hz, fun q h1 h2 => by rw [e1]; exact hk q h1 h2,
    ⟨Nat.le_trans hS.1 (by rw [e1]; exact hz), fun q h1 h2 => by rw [e1, hk q (Nat.lt_of_lt_of_le h1 hS.1) (fun z => h2 (hA q (Nat.lt_of_lt_of_le h1 hS.1) z))]; exact hS.2.1 q h1 h2, fun q hq => by
      rcases List.mem_append.mp hq with h | h
      · exact hS.2.2 q h
      · exact hf _ (hL q h)⟩⟩
theorem vx_calli {S SX : Type} {post : Int32 → S → Prop} {px : SX → Prop} {B : S → State → Prop} {BX : String → SX → State → Prop} {AX : Nat → Prop} (hr : vx_Run p l e R s m args below meth c H locs cells slots mc ms (F0 m pc ls st0) rest (va_Qi post B A1 a) (vx_X px BX AX) free) (hS : va_S A0 H0 H locs) (hA : ∀ q, q < H.size → A1 q → A0 q) (hf : ∀ q, free q → A0 q) (hAX : ∀ q, q < H.size → AX q → A0 q)
    (kx : ∀ (E : String) (ce : Cell) (q9 : Addr) (u : SX) (t : State) (H1 : Heap) (locs1 : List Loc), t.heap = H1 → s.vm.Alike t.vm → px u → BX E u t → H.size ≤ H1.size → (∀ q : Nat, q < H.size → ¬ AX q → H1[q]? = H[q]?) → va_S A0 H0 H1 locs1 → H1[q9]? = some ce → ce.vm = .none → s.vm.findClass E = some ce.cls → vx_W p l e R s m args below meth c H1 locs1 (cells + mc) (slots + ms) Q (F0 m pc ls rest) q9)
    (kk : ∀ (r : Int32) (u : S) (t : State) (H1 : Heap) (locs1 : List Loc), t.heap = H1 → s.vm.Alike t.vm → post r u → B u t → H.size ≤ H1.size → (∀ q : Nat, q < H.size → ¬ A1 q → H1[q]? = H[q]?) → va_S A0 H0 H1 locs1 → W p l e R s m args below meth c H1 locs1 (cells + mc) (slots + ms) Q (F0 m (pc + 3) ls (.int r :: rest))) : W p l e R s m args below meth c H locs cells slots Q (F0 m pc ls st0) := by
  intro T hT X
  rcases hr T hT X with ⟨v, st₀, t, T', L, h0, X', hL, e1, e2, ⟨⟨r, u, hv, hp, hb⟩, hF⟩, st⟩ | ⟨q, st₀, t, T', L, E, ce, h0, X', hL, e1, e2, ⟨u, hp, hb, hF⟩, hce, hcv, hcl, st⟩
  · cases hv
    obtain ⟨k1, k2, k3⟩ := vx_keep h0 e1 hS hA hf hL hF
    obtain ⟨t2, a1, b1⟩ := kk r u t T'.heap (locs ++ L) e1.symm (by rw [← e2]; exact X'.warmed.alike) hp hb k1 k2 k3 T' rfl X'
    exact ⟨t2, st t2 a1, b1⟩
  · obtain ⟨k1, k2, k3⟩ := vx_keep h0 e1 hS hAX hf hL hF
    obtain ⟨t2, a1, b1⟩ := kx E ce q u t T'.heap (locs ++ L) e1.symm (by rw [← e2]; exact X'.warmed.alike) hp hb k1 k2 k3 (by rw [e1]; exact hce) hcv hcl T' rfl X'
    exact ⟨t2, st.trans a1, b1⟩
theorem vx_calll {S SX : Type} {post : Int64 → S → Prop} {px : SX → Prop} {B : S → State → Prop} {BX : String → SX → State → Prop} {AX : Nat → Prop} (hr : vx_Run p l e R s m args below meth c H locs cells slots mc ms (F0 m pc ls st0) rest (va_Ql post B A1 a) (vx_X px BX AX) free) (hS : va_S A0 H0 H locs) (hA : ∀ q, q < H.size → A1 q → A0 q) (hf : ∀ q, free q → A0 q) (hAX : ∀ q, q < H.size → AX q → A0 q)
    (kx : ∀ (E : String) (ce : Cell) (q9 : Addr) (u : SX) (t : State) (H1 : Heap) (locs1 : List Loc), t.heap = H1 → s.vm.Alike t.vm → px u → BX E u t → H.size ≤ H1.size → (∀ q : Nat, q < H.size → ¬ AX q → H1[q]? = H[q]?) → va_S A0 H0 H1 locs1 → H1[q9]? = some ce → ce.vm = .none → s.vm.findClass E = some ce.cls → vx_W p l e R s m args below meth c H1 locs1 (cells + mc) (slots + ms) Q (F0 m pc ls rest) q9)
    (kk : ∀ (r : Int64) (u : S) (t : State) (H1 : Heap) (locs1 : List Loc), t.heap = H1 → s.vm.Alike t.vm → post r u → B u t → H.size ≤ H1.size → (∀ q : Nat, q < H.size → ¬ A1 q → H1[q]? = H[q]?) → va_S A0 H0 H1 locs1 → W p l e R s m args below meth c H1 locs1 (cells + mc) (slots + ms) Q (F0 m (pc + 3) ls (.long r :: rest))) : W p l e R s m args below meth c H locs cells slots Q (F0 m pc ls st0) := by
  intro T hT X
  rcases hr T hT X with ⟨v, st₀, t, T', L, h0, X', hL, e1, e2, ⟨⟨r, u, hv, hp, hb⟩, hF⟩, st⟩ | ⟨q, st₀, t, T', L, E, ce, h0, X', hL, e1, e2, ⟨u, hp, hb, hF⟩, hce, hcv, hcl, st⟩
  · cases hv
    obtain ⟨k1, k2, k3⟩ := vx_keep h0 e1 hS hA hf hL hF
    obtain ⟨t2, a1, b1⟩ := kk r u t T'.heap (locs ++ L) e1.symm (by rw [← e2]; exact X'.warmed.alike) hp hb k1 k2 k3 T' rfl X'
    exact ⟨t2, st t2 a1, b1⟩
  · obtain ⟨k1, k2, k3⟩ := vx_keep h0 e1 hS hAX hf hL hF
    obtain ⟨t2, a1, b1⟩ := kx E ce q u t T'.heap (locs ++ L) e1.symm (by rw [← e2]; exact X'.warmed.alike) hp hb k1 k2 k3 (by rw [e1]; exact hce) hcv hcl T' rfl X'
    exact ⟨t2, st.trans a1, b1⟩
theorem vx_callf {S SX : Type} {post : UInt32 → S → Prop} {px : SX → Prop} {B : S → State → Prop} {BX : String → SX → State → Prop} {AX : Nat → Prop} (hr : vx_Run p l e R s m args below meth c H locs cells slots mc ms (F0 m pc ls st0) rest (va_Qf post B A1 a) (vx_X px BX AX) free) (hS : va_S A0 H0 H locs) (hA : ∀ q, q < H.size → A1 q → A0 q) (hf : ∀ q, free q → A0 q) (hAX : ∀ q, q < H.size → AX q → A0 q)
    (kx : ∀ (E : String) (ce : Cell) (q9 : Addr) (u : SX) (t : State) (H1 : Heap) (locs1 : List Loc), t.heap = H1 → s.vm.Alike t.vm → px u → BX E u t → H.size ≤ H1.size → (∀ q : Nat, q < H.size → ¬ AX q → H1[q]? = H[q]?) → va_S A0 H0 H1 locs1 → H1[q9]? = some ce → ce.vm = .none → s.vm.findClass E = some ce.cls → vx_W p l e R s m args below meth c H1 locs1 (cells + mc) (slots + ms) Q (F0 m pc ls rest) q9)
    (kk : ∀ (r : UInt32) (u : S) (t : State) (H1 : Heap) (locs1 : List Loc), t.heap = H1 → s.vm.Alike t.vm → post r u → B u t → H.size ≤ H1.size → (∀ q : Nat, q < H.size → ¬ A1 q → H1[q]? = H[q]?) → va_S A0 H0 H1 locs1 → W p l e R s m args below meth c H1 locs1 (cells + mc) (slots + ms) Q (F0 m (pc + 3) ls (.float r :: rest))) : W p l e R s m args below meth c H locs cells slots Q (F0 m pc ls st0) := by
  intro T hT X
  rcases hr T hT X with ⟨v, st₀, t, T', L, h0, X', hL, e1, e2, ⟨⟨r, u, hv, hp, hb⟩, hF⟩, st⟩ | ⟨q, st₀, t, T', L, E, ce, h0, X', hL, e1, e2, ⟨u, hp, hb, hF⟩, hce, hcv, hcl, st⟩
  · cases hv
    obtain ⟨k1, k2, k3⟩ := vx_keep h0 e1 hS hA hf hL hF
    obtain ⟨t2, a1, b1⟩ := kk r u t T'.heap (locs ++ L) e1.symm (by rw [← e2]; exact X'.warmed.alike) hp hb k1 k2 k3 T' rfl X'
    exact ⟨t2, st t2 a1, b1⟩
  · obtain ⟨k1, k2, k3⟩ := vx_keep h0 e1 hS hAX hf hL hF
    obtain ⟨t2, a1, b1⟩ := kx E ce q u t T'.heap (locs ++ L) e1.symm (by rw [← e2]; exact X'.warmed.alike) hp hb k1 k2 k3 (by rw [e1]; exact hce) hcv hcl T' rfl X'
    exact ⟨t2, st.trans a1, b1⟩
theorem vx_calld {S SX : Type} {post : UInt64 → S → Prop} {px : SX → Prop} {B : S → State → Prop} {BX : String → SX → State → Prop} {AX : Nat → Prop} (hr : vx_Run p l e R s m args below meth c H locs cells slots mc ms (F0 m pc ls st0) rest (va_Qd post B A1 a) (vx_X px BX AX) free) (hS : va_S A0 H0 H locs) (hA : ∀ q, q < H.size → A1 q → A0 q) (hf : ∀ q, free q → A0 q) (hAX : ∀ q, q < H.size → AX q → A0 q)
    (kx : ∀ (E : String) (ce : Cell) (q9 : Addr) (u : SX) (t : State) (H1 : Heap) (locs1 : List Loc), t.heap = H1 → s.vm.Alike t.vm → px u → BX E u t → H.size ≤ H1.size → (∀ q : Nat, q < H.size → ¬ AX q → H1[q]? = H[q]?) → va_S A0 H0 H1 locs1 → H1[q9]? = some ce → ce.vm = .none → s.vm.findClass E = some ce.cls → vx_W p l e R s m args below meth c H1 locs1 (cells + mc) (slots + ms) Q (F0 m pc ls rest) q9)
    (kk : ∀ (r : UInt64) (u : S) (t : State) (H1 : Heap) (locs1 : List Loc), t.heap = H1 → s.vm.Alike t.vm → post r u → B u t → H.size ≤ H1.size → (∀ q : Nat, q < H.size → ¬ A1 q → H1[q]? = H[q]?) → va_S A0 H0 H1 locs1 → W p l e R s m args below meth c H1 locs1 (cells + mc) (slots + ms) Q (F0 m (pc + 3) ls (.double r :: rest))) : W p l e R s m args below meth c H locs cells slots Q (F0 m pc ls st0) := by
  intro T hT X
  rcases hr T hT X with ⟨v, st₀, t, T', L, h0, X', hL, e1, e2, ⟨⟨r, u, hv, hp, hb⟩, hF⟩, st⟩ | ⟨q, st₀, t, T', L, E, ce, h0, X', hL, e1, e2, ⟨u, hp, hb, hF⟩, hce, hcv, hcl, st⟩
  · cases hv
    obtain ⟨k1, k2, k3⟩ := vx_keep h0 e1 hS hA hf hL hF
    obtain ⟨t2, a1, b1⟩ := kk r u t T'.heap (locs ++ L) e1.symm (by rw [← e2]; exact X'.warmed.alike) hp hb k1 k2 k3 T' rfl X'
    exact ⟨t2, st t2 a1, b1⟩
  · obtain ⟨k1, k2, k3⟩ := vx_keep h0 e1 hS hAX hf hL hF
    obtain ⟨t2, a1, b1⟩ := kx E ce q u t T'.heap (locs ++ L) e1.symm (by rw [← e2]; exact X'.warmed.alike) hp hb k1 k2 k3 (by rw [e1]; exact hce) hcv hcl T' rfl X'
    exact ⟨t2, st.trans a1, b1⟩
theorem vx_callv {S SX : Type} {post : S → Prop} {px : SX → Prop} {B : S → State → Prop} {BX : String → SX → State → Prop} {AX : Nat → Prop} (hr : vx_Run p l e R s m args below meth c H locs cells slots mc ms (F0 m pc ls st0) rest (va_Qv post B A1 a) (vx_X px BX AX) free) (hS : va_S A0 H0 H locs) (hA : ∀ q, q < H.size → A1 q → A0 q) (hf : ∀ q, free q → A0 q) (hAX : ∀ q, q < H.size → AX q → A0 q)
    (kx : ∀ (E : String) (ce : Cell) (q9 : Addr) (u : SX) (t : State) (H1 : Heap) (locs1 : List Loc), t.heap = H1 → s.vm.Alike t.vm → px u → BX E u t → H.size ≤ H1.size → (∀ q : Nat, q < H.size → ¬ AX q → H1[q]? = H[q]?) → va_S A0 H0 H1 locs1 → H1[q9]? = some ce → ce.vm = .none → s.vm.findClass E = some ce.cls → vx_W p l e R s m args below meth c H1 locs1 (cells + mc) (slots + ms) Q (F0 m pc ls rest) q9)
    (kk : ∀ (u : S) (t : State) (H1 : Heap) (locs1 : List Loc), t.heap = H1 → s.vm.Alike t.vm → post u → B u t → H.size ≤ H1.size → (∀ q : Nat, q < H.size → ¬ A1 q → H1[q]? = H[q]?) → va_S A0 H0 H1 locs1 → W p l e R s m args below meth c H1 locs1 (cells + mc) (slots + ms) Q (F0 m (pc + 3) ls (rest))) : W p l e R s m args below meth c H locs cells slots Q (F0 m pc ls st0) := by
  intro T hT X
  rcases hr T hT X with ⟨v, st₀, t, T', L, h0, X', hL, e1, e2, ⟨⟨u, hv, hp, hb⟩, hF⟩, st⟩ | ⟨q, st₀, t, T', L, E, ce, h0, X', hL, e1, e2, ⟨u, hp, hb, hF⟩, hce, hcv, hcl, st⟩
  · cases hv
    obtain ⟨k1, k2, k3⟩ := vx_keep h0 e1 hS hA hf hL hF
    obtain ⟨t2, a1, b1⟩ := kk u t T'.heap (locs ++ L) e1.symm (by rw [← e2]; exact X'.warmed.alike) hp hb k1 k2 k3 T' rfl X'
    exact ⟨t2, st t2 a1, b1⟩
  · obtain ⟨k1, k2, k3⟩ := vx_keep h0 e1 hS hAX hf hL hF
    obtain ⟨t2, a1, b1⟩ := kx E ce q u t T'.heap (locs ++ L) e1.symm (by rw [← e2]; exact X'.warmed.alike) hp hb k1 k2 k3 (by rw [e1]; exact hce) hcv hcl T' rfl X'
    exact ⟨t2, st.trans a1, b1⟩

theorem vx_catch {own name : String} {E : String} {ce : Cell} {q : Addr} (hown : s.vm.findClass own = some m.cls) (pre : List ExceptionTableEntry) (x : ExceptionTableEntry) (suf : List ExceptionTableEntry) (hsplit : c.exceptionTable.toList = pre ++ x :: suf)
    (hpass : ∀ z ∈ pre, covers z pc = false ∨ (z.catchType ≠ 0 ∧ ∃ nm : String, (Cond.classLink own z.catchType nm).before args s = true ∧ va_Nc E nm s)) (hx : covers x pc = true) (h0 : x.catchType ≠ 0)
    (hlink : (Cond.classLink own x.catchType name).before args s = true) (hcast : (Cond.castable E name).before args s = true) (hcell : H[q]? = some ce) (hv : ce.vm = .none) (hcl : s.vm.findClass E = some ce.cls)
    (kk : W p l e R s m args below meth c H locs cells slots Q (F0 m x.handlerPc ls [.ref q])) : vx_W p l e R s m args below meth c H locs cells slots Q (F0 m pc ls rest) q := by
  intro T hT X
  have hpl : e.platform.magicAccessors = ({} : Platform).magicAccessors := by rw [X.admits.platform]
  obtain ⟨c3, c4, hc3, hc4, hasg⟩ := Cond.castable_spec hcast
  cases Option.some.inj (hc3.symm.trans hcl)
  obtain ⟨c5, hc5, hcl5⟩ := Cond.classLink_spec hown hlink e.platform hpl
  cases Option.some.inj (hc4.symm.trans hc5)
  obtain ⟨vm', X', st⟩ := zk_caught X q (g := F0 m pc ls rest) rfl (Steps.refl _) (by rw [hT]; exact hcell) (by rw [hv]; rfl) (by obtain ⟨k9, h9, -⟩ := Vm.findClass_spec hcl; exact ⟨k9, h9⟩) pre x suf hsplit
    (fun z hz => by
      rcases hpass z hz with h | ⟨hz0, nm, hl1, hn1⟩
      · exact Or.inl h
      · obtain ⟨c6, hc6, hcl6⟩ := Cond.classLink_spec hown hl1 e.platform hpl
        obtain ⟨a8, b8, h1, h2, h3⟩ := hn1
        cases Option.some.inj (h1.symm.trans hcl)
        cases Option.some.inj (h2.symm.trans hc6)
        exact Or.inr ⟨hz0, _, hcl6, h3⟩) hx (Or.inr ⟨h0, c4, hcl5, hasg⟩)
  obtain ⟨t, a1, b1⟩ := kk (T.setVm vm') hT X'
  exact ⟨t, st.trans a1, b1⟩
end Rows
section Ends
variable {p : Program} {l : Launch} {e : Env} {R : Room} {s : State} {m : MethodId} {args : Array Value} {below : List Frame} {meth : Method} {c : Code} {H : Heap} {locs : List Loc} {cells slots : Nat} {Q : State → Prop}
variable {mc ms : Nat} {free : Addr → Prop} {A0 A1 : Nat → Prop} {H0 : Heap} {a : Array Value} {ls : Array Slot} {st0 rest : List Value}
variable {Qc : Array Value → State → Outcome → State → Prop} {XC : String → State → State → Prop}

def vx_MQ (below : List Frame) (Qc : Array Value → State → Outcome → State → Prop) (XC : String → State → State → Prop) (a : Array Value) (s : State) (mc ms : Nat) (free : Addr → Prop) : State → Prop := fun t =>
  ∃ o, t.status = .running ∧ Ended t below o ∧ vx_Q Qc XC mc ms free a s o t
theorem vx_ret {g : JFrame} {mc ms : Nat} (k : W p l e R s m args below meth c H locs cells slots (MQ below Qc args s mc ms free) g) : W p l e R s m args below meth c H locs cells slots (vx_MQ below Qc XC args s mc ms free) g := by
  intro T hT X
  obtain ⟨t, a1, o, b1, b2, b3, b4⟩ := k T hT X
  exact ⟨t, a1, o, b1, b2, Or.inl ⟨b3, b4⟩⟩

theorem vx_widen {g : JFrame} {q : Addr} {k n : Nat} (h1 : cells ≤ k) (h2 : slots ≤ n) (kk : vx_W p l e R s m args below meth c H locs k n Q g q) : vx_W p l e R s m args below meth c H locs cells slots Q g q := fun T hT X => kk T hT (stand_widen X h1 h2)
theorem vx_out {pc : Nat} {E : String} {ce : Cell} {q : Addr} {mc ms : Nat} (hout : ∀ x ∈ c.exceptionTable.toList, covers x pc = false) (hlocks : meth.locks = false) (hcell : H[q]? = some ce) (hv : ce.vm = .none) (hcl : s.vm.findClass E = some ce.cls)
    (hx : ∀ t : State, t.heap = H → s.vm.Alike t.vm → XC E s t) (hf : ∀ z ∈ locs, free z.base) (hc : cells ≤ mc) (hs : slots ≤ ms) :
    vx_W p l e R s m args below meth c H locs cells slots (vx_MQ below Qc XC args s mc ms free) (F0 m pc ls rest) q := by
  intro T hT X
  obtain ⟨st1, hrun, hend, hW, hsm⟩ := X.leaveThrown q (g := F0 m pc ls rest) rfl rfl rfl hout hlocks
  have hcell9 : (T.setFrames (.throwing q :: below)).heap[q]? = some ce := by
    show T.heap[q]? = some ce
    rw [hT]; exact hcell
  exact ⟨_, st1, .threw q, hrun, hend, Or.inr ⟨q, rfl, E, ce, locs, hx _ hT hW.alike, hcell9, hv, hcl, hW, hsm.mono hc hs, hf⟩⟩
theorem vx_frame {U : State} {k n : Nat} (h : s.sameButNew ({ U with vm := s.vm } : State) locs k n) : s.heap.size ≤ U.heap.size ∧ ∀ q : Nat, q < s.heap.size → (∀ z ∈ locs, z.base ≠ q) → U.heap[q]? = s.heap[q]? := by
  obtain ⟨-, h2, -, -, -, h6⟩ := h
  refine ⟨h2, fun q hq hz => ?_⟩
  obtain ⟨c9, e1, e2, e3, e4⟩ := h6 q _ (Array.getElem?_eq_getElem hq)
  have hs : c9.slots = (s.heap[q]).slots := Array.ext_getElem? fun i => e4 i fun hm => hz _ hm rfl
  have h9 : c9 = s.heap[q] := by
    rw [hs] at e2
    exact e2
  have e5 : U.heap[q]? = some c9 := e1
  rw [e5, h9, Array.getElem?_eq_getElem hq]

def vx_no (w : Cond) : Bool := decide (w ≠ .isRef (.static Bundle.tN "UNASSIGNED_STACK" Bundle.steD)) && decide (w ≠ .isRef (.static Bundle.tN "SUPPRESSED_SENTINEL" Bundle.listD)) && decide (w ≠ .laysStatic Bundle.tN "UNASSIGNED_STACK" Bundle.steD) && decide (w ≠ .laysStatic Bundle.tN "SUPPRESSED_SENTINEL" Bundle.listD)
def vx_at0 (own : String) (ic : Nat) (X : String) (names : List String) : List Cond := (Bundle.ownAtoms0 own ic X names).filter vx_no
def vx_atS (own : String) (ic : Nat) (X : String) (names : List String) : List Cond := (Bundle.ownAtoms own ic X names).filter vx_no

def vx_ot (w : Cond) : Bool := w.onTables || goodWord w
theorem vx_ot_at {args a' : Array Value} {s U : State} {w : Cond} (hW : s.WarmedH U.vm) (hvm : s.vm = U.vm) (hg : vx_ot w = true) (h : w.before args s = true) : w.before a' U = true := by
  simp only [vx_ot, Bool.or_eq_true] at hg
  rcases hg with hg | hg
  · exact va_tabs hg hvm h
  · exact word_at hW (good_of_word hg) h

theorem vx_hat {args : Array Value} {s : State} {L B : List Cond} (h1 : ∀ w ∈ L.filter goodWord, w.before args s = true) (h2 : ∀ w ∈ L.filter (fun w => !goodWord w), w ∈ B) (h3 : ∀ w ∈ B, w.before args s = true) : ∀ w ∈ L, w.before args s = true := by
  intro w hw
  by_cases g : goodWord w = true
  · exact h1 w (List.mem_filter.mpr ⟨hw, g⟩)
  · refine h3 w (h2 w (List.mem_filter.mpr ⟨hw, ?_⟩))
    show (!goodWord w) = true
    cases hgw : goodWord w
    · rfl
    · exact absurd hgw g
theorem vx_c {args : Array Value} {s : State} {w : Cond} {B : List Cond} (h : w.before args s = true) (t : ∀ w ∈ B, w.before args s = true) : ∀ w' ∈ w :: B, w'.before args s = true := fun w' h' => (List.mem_cons.mp h').elim (fun e => by rw [e]; exact h) (t w')
theorem vx_n {args : Array Value} {s : State} : ∀ w ∈ ([] : List Cond), w.before args s = true := fun _ h => nomatch h
theorem vx_own {args : Array Value} {s : State} {L : List Cond} (h1 : ∀ w ∈ L.filter vx_no, w.before args s = true)
    (hU : (Cond.isRef (.static Bundle.tN "UNASSIGNED_STACK" Bundle.steD)).before args s = true) (hN : (Cond.isRef (.static Bundle.tN "SUPPRESSED_SENTINEL" Bundle.listD)).before args s = true)
    (lU : (Cond.laysStatic Bundle.tN "UNASSIGNED_STACK" Bundle.steD).before args s = true) (lN : (Cond.laysStatic Bundle.tN "SUPPRESSED_SENTINEL" Bundle.listD).before args s = true) : ∀ w ∈ L, w.before args s = true := by
  intro w hw
  by_cases e1 : w = .isRef (.static Bundle.tN "UNASSIGNED_STACK" Bundle.steD)
  · rw [e1]; exact hU
  · by_cases e2 : w = .isRef (.static Bundle.tN "SUPPRESSED_SENTINEL" Bundle.listD)
    · rw [e2]; exact hN
    · by_cases e3 : w = .laysStatic Bundle.tN "UNASSIGNED_STACK" Bundle.steD
      · rw [e3]; exact lU
      · by_cases e4 : w = .laysStatic Bundle.tN "SUPPRESSED_SENTINEL" Bundle.listD
        · rw [e4]; exact lN
        · exact h1 w (List.mem_filter.mpr ⟨hw, by unfold vx_no; rw [decide_eq_true e1, decide_eq_true e2, decide_eq_true e3, decide_eq_true e4]; rfl⟩)

def vx_L (C n d : String) (A : Nat → Prop) (U : State) (H : Heap) : Prop := ∃ (c : ClassId) (k : Class) (i : Nat) (f : Field) (a : Nat) (cell : Cell), U.vm.findClass C = some c ∧ U.fieldFound? C n d = some (c, k, i, f) ∧ f.isStatic = true ∧ k.statics = some a ∧ H[a]? = some cell ∧ cell.vm.isStatics = true ∧ cell.cls = c ∧ f.slot < cell.slots.size ∧ k.staticTypes[f.slot]? = some f.type ∧ ¬ A a
theorem vx_L.moved {C n d : String} {A : Nat → Prop} {u U : State} {H : Heap} (hvm : u.vm.Alike U.vm) (h : vx_L C n d A u H) : vx_L C n d A U H := by
  obtain ⟨c, k, i, f, a, cell, h1, h2, h3, h4, h5, h6, h7, h8, h9, h10⟩ := h
  obtain ⟨k', hi', he⟩ := State.fieldFound?_setVm hvm h2
  exact ⟨c, k', i, f, a, cell, by rw [hvm.findClass]; exact h1, hi', h3, by rw [he]; exact h4, h5, h6, h7, h8, by rw [he]; exact h9, h10⟩
theorem vx_L.kept {C n d : String} {A : Nat → Prop} {U : State} {H H1 : Heap} (h : vx_L C n d A U H) (hq : ∀ a : Nat, a < H.size → ¬ A a → H1[a]? = H[a]?) : vx_L C n d A U H1 := by
  obtain ⟨c, k, i, f, a, cell, h1, h2, h3, h4, h5, h6, h7, h8, h9, h10⟩ := h
  exact ⟨c, k, i, f, a, cell, h1, h2, h3, h4, by rw [hq a (Array.getElem?_eq_some_iff.mp h5).1 h10]; exact h5, h6, h7, h8, h9, h10⟩
theorem vx_L.narrow {C n d : String} {A B : Nat → Prop} {U : State} {H : Heap} (h : vx_L C n d A U H) (hAB : ∀ q, B q → A q) : vx_L C n d B U H := by
  obtain ⟨c, k, i, f, a, cell, h1, h2, h3, h4, h5, h6, h7, h8, h9, h10⟩ := h
  exact ⟨c, k, i, f, a, cell, h1, h2, h3, h4, h5, h6, h7, h8, h9, fun z => h10 (hAB _ z)⟩
theorem vx_L.word {C n d : String} {A : Nat → Prop} {s : State} {args : Array Value} (h : vx_L C n d A s s.heap) : (Cond.laysStatic C n d).before args s = true := by
  obtain ⟨c, k, i, f, a, cell, h1, h2, h3, h4, h5, h6, h7, h8, h9, -⟩ := h
  show (Cond.laysStatic C n d).holds args s none s [] = true
  exact Cond.laysStatic_of h1 h2 h3 h4 h5 h6 h7 h8 h9

def vx_Zq (C n d : String) (A : Nat → Prop) (U : State) (H : Heap) : Prop := va_Zq C n d A U H ∧ vx_L C n d A U H
theorem vx_Zq.moved {C n d : String} {A : Nat → Prop} {u U : State} {H : Heap} (hvm : u.vm.Alike U.vm) (h : vx_Zq C n d A u H) : vx_Zq C n d A U H := ⟨va_Zq.moved hvm h.1, vx_L.moved hvm h.2⟩
theorem vx_Zq.kept {C n d : String} {A : Nat → Prop} {U : State} {H H1 : Heap} (h : vx_Zq C n d A U H) (hq : ∀ a : Nat, a < H.size → ¬ A a → H1[a]? = H[a]?) : vx_Zq C n d A U H1 := ⟨va_Zq.kept h.1 hq, vx_L.kept h.2 hq⟩
theorem vx_Zq.narrow {C n d : String} {A B : Nat → Prop} {U : State} {H : Heap} (h : vx_Zq C n d A U H) (hAB : ∀ q, B q → A q) : vx_Zq C n d B U H := ⟨va_Zq.narrow h.1 hAB, vx_L.narrow h.2 hAB⟩
theorem vx_Zqof {args : Array Value} {s : State} {C n d : String} {A : Nat → Prop} (hl : (Cond.laysStatic C n d).before args s = true) (hini : (Cond.initialized C).before args s = true) (h : (Cond.isRef (.static C n d)).before args s = true) (hA : ∀ a : Nat, a < s.heap.size → ¬ A a) : vx_Zq C n d A s s.heap := by
  refine ⟨va_Zqof hl hini h hA, ?_⟩
  obtain ⟨c, k, i, f, a, cell, h1, h2, h3, h4, h5, h6, h7, h8, h9⟩ := Cond.laysStatic_spec hl
  exact ⟨c, k, i, f, a, cell, h1, h2, h3, h4, h5, h6, h7, h8, h9, hA a (Array.getElem?_eq_some_iff.mp h5).1⟩
theorem vx_isRef {C n d : String} {v : Value} {A : Nat → Prop} {s : State} {args : Array Value} (h : va_Z C n d v A s s.heap) (hv : v.isRef = true) : (Cond.isRef (.static C n d)).before args s = true := by
  obtain ⟨cf, kf, fi, f, a, cell, h1, h2, h3, h4, h5, h6, h7, -⟩ := h
  have he : (Term.static C n d).eval args s none [] s = some v := by
    simp [Term.eval, State.fieldNamed?, h1, h2, h4, h5, h6, h7]
  simp only [Cond.before, Cond.holds, Cond.value, he]
  cases v <;> simp_all [Value.isRef]
theorem vx_isRefq {C n d : String} {A : Nat → Prop} {s : State} {args : Array Value} (h : va_Zq C n d A s s.heap) : (Cond.isRef (.static C n d)).before args s = true := by
  rcases h with h | ⟨t, h⟩
  · exact vx_isRef h rfl
  · exact vx_isRef h rfl

theorem vx_rebase {T : State} (X : Stand p l e R s m args below meth c T locs cells slots) {R' : Room} (hf : R'.frames ≤ R.frames) (hl : R'.locals ≤ R.locals) (hc : cells + R'.cells ≤ R.cells) (hs : slots + R'.slots ≤ R.slots) :
    Stand p l e R' ((T.setVm s.vm).setFrames (.invoking m args :: below)) m args below meth c T [] 0 0 := by
  have htop : (T.setVm s.vm).topJava?.isSome := X.here.top
  have hF : ((T.setVm s.vm).setFrames (.invoking m args :: below)).frames = .invoking m args :: below := State.frames_setFrames _ (State.cur_lt_of_top htop)
  obtain ⟨g₀, hg0⟩ := Option.isSome_iff_exists.mp htop
  obtain ⟨r, hr⟩ := State.topJava?_eq_some.mp hg0
  have hl9 : e.platform.stackLimits (T.setVm s.vm).me = e.platform.stackLimits s.me := X.limits
  have hb9 : (T.setVm s.vm).me.stackBytes = s.me.stackBytes := X.bytes
  refine ⟨X.admits, X.cas, X.clock, hF, ?_, X.hears, X.method, X.code, X.here, X.tail, X.warmed, ?_, ?_, ?_⟩
  · have h := X.room
    have hU : ((T.setVm s.vm).setFrames (.invoking m args :: below)).localsInUse = s.localsInUse := by
      rw [State.localsInUse_invoking hF (meth := meth) (c := c) X.method X.code, State.localsInUse_invoking X.frames X.method X.code]
    simp only [State.hasRoom, Bool.and_eq_true, decide_eq_true_eq] at h ⊢
    obtain ⟨⟨⟨⟨h1, h2, h3, h4, h5, h6⟩, h7⟩, h8⟩, h9⟩ := h
    rw [X.frames, List.length_cons] at h2 h3
    have q1 := X.heapSize
    have q2 := X.used
    simp only [hF, hU, List.length_cons, State.stackLimits_setFrames, State.stackBytes_setFrames, hl9, hb9]
    refine ⟨⟨⟨⟨by omega, by omega, by omega, by omega, by omega, h6⟩, ?_⟩, ?_⟩, X.book⟩
    · show T.heap.size + R'.cells ≤ e.platform.maxCells
      omega
    · show T.slotsUsed + R'.slots ≤ e.platform.maxSlots
      omega
  · rw [State.stackLimits_setFrames]; rfl
  · rw [State.stackBytes_setFrames]; rfl
  · refine ⟨?_, Nat.le_refl _, Nat.le_refl _, ?_, ?_, fun a c9 h9 => ⟨c9, h9, rfl, rfl, fun _ _ => rfl⟩⟩
    · obtain ⟨t, ht, -⟩ := State.frames_cons hr
      show T.setVm s.vm = { ((T.setVm s.vm).setFrames (.invoking m args :: below)).setFrames (T.setVm s.vm).frames with heap := T.heap, slotsUsed := T.slotsUsed }
      rw [State.setFrames_setFrames, State.setFrames_self ht]
      rfl
    · show T.slotsUsed = T.slotsUsed + ((T.heap.toList.drop T.heap.size).map (·.slots.size)).sum
      rw [List.drop_eq_nil_of_le (Nat.le_of_eq Array.length_toList)]
      rfl
    · show ((T.heap.toList.drop T.heap.size).map (·.slots.size)).sum ≤ 0
      rw [List.drop_eq_nil_of_le (Nat.le_of_eq Array.length_toList)]
      exact Nat.le_refl _

theorem vx_throw0 {cc : ByteArray} {pc : Nat} (hexec : p.tables.exec = Jvm.exec) (hb : c.code = cc) (hl : l.stackTraces = false) {own cls : String} {names : List String} {ik ic mc ms : Nat} {A : Nat → Prop}
    (hown : s.vm.findClass own = some m.cls) (hcls : Bundle.fit cls = true) (hnames : ∀ n ∈ names, Bundle.fit n = true)
    (hk : (Cond.classLink own ik cls).before args s = true) (hini : (Cond.initialized cls).before args s = true) (hat : ∀ w ∈ vx_at0 own ic cls names, w.before args s = true)
    (hgood : ∀ w ∈ Cond.classLink own ik cls :: Cond.initialized cls :: vx_at0 own ic cls names, vx_ot w = true)
    (hU : vx_Zq Bundle.tN "UNASSIGNED_STACK" Bundle.steD A s s.heap) (hN : vx_Zq Bundle.tN "SUPPRESSED_SENTINEL" Bundle.listD A s s.heap) (hS : va_S A s.heap H locs) (hsize : ls.size = c.maxLocals)
    (d0 : decode cc pc = .ok (.new ik, 3)) (d3 : decode cc (pc + 3) = .ok (.dup, 1)) (d4 : decode cc (pc + 4) = .ok (.invokespecial ic, 3)) (d7 : decode cc (pc + 7) = .ok (.athrow, 1))
    (hout : ∀ x ∈ c.exceptionTable.toList, covers x (pc + 7) = false)
    (hRframes : names.length + 3 < R.frames) (hRlocals : (rest.map fun v => v.category).sum + (13 * (names.length + 1) + 42) ≤ R.locals) (hRcells : cells + 1 ≤ R.cells) (hRslots : slots + 6 ≤ R.slots) (hlocks : meth.locks = false)
    (hx : ∀ t : State, s.vm.Alike t.vm → H.size ≤ t.heap.size → (∀ q : Nat, q < H.size → t.heap[q]? = H[q]?) → XC cls s t)
    (hf : ∀ z ∈ locs, free z.base) (hc : cells + 1 ≤ mc) (hs : slots + 6 ≤ ms) :
    W p l e R s m args below meth c H locs cells slots (vx_MQ below Qc XC args s mc ms free) (F0 m pc ls rest) := by
  intro T hT X
  have htr : e.platform.stackTraces = false := (show e.platform.stackTraces = l.stackTraces by rw [X.admits.platform]).trans hl
  have Y := vx_rebase X (R' := { frames := R.frames, locals := R.locals, cells := 1, slots := 6 }) (Nat.le_refl _) (Nat.le_refl _) hRcells hRslots
  obtain ⟨s', hA⟩ : ∃ z, z = (T.setVm s.vm).setFrames (.invoking m args :: below) := ⟨_, rfl⟩
  rw [← hA] at Y
  have hvm : s'.vm = s.vm := by rw [hA]; rfl
  have hhp : s'.heap = H := by rw [hA]; exact hT
  have hW0 : s.WarmedH s'.vm := by rw [hvm]; exact State.WarmedH.refl s
  have hat' : ∀ w ∈ vx_at0 own ic cls names, w.before args s' = true := fun w hw => vx_ot_at hW0 hvm.symm (hgood w (List.mem_cons_of_mem _ (List.mem_cons_of_mem _ hw))) (hat w hw)
  have hk' : (Cond.classLink own ik cls).before args s' = true := vx_ot_at hW0 hvm.symm (hgood _ List.mem_cons_self) hk
  have hini' : (Cond.initialized cls).before args s' = true := vx_ot_at hW0 hvm.symm (hgood _ (List.mem_cons_of_mem _ List.mem_cons_self)) hini
  have hU' : vx_Zq Bundle.tN "UNASSIGNED_STACK" Bundle.steD A s' s'.heap := by rw [hhp]; exact vx_Zq.moved hW0.alike (hU.kept hS.2.1)
  have hN' : vx_Zq Bundle.tN "SUPPRESSED_SENTINEL" Bundle.listD A s' s'.heap := by rw [hhp]; exact vx_Zq.moved hW0.alike (hN.kept hS.2.1)
  have h : ∀ w ∈ Bundle.ownAtoms0 own ic cls names, w.before args s' = true := vx_own hat' (vx_isRefq hU'.1) (vx_isRefq hN'.1) hU'.2.word hN'.2.word
  have hown' : s'.vm.findClass own = some m.cls := by rw [hvm]; exact hown
  have hins : (Cond.instantiable cls 6).before args s' = true := h _ (by simp [Bundle.ownAtoms0])
  obtain ⟨vm₁, cX, kX, hfX, hkX, -, -, X₁, st1⟩ := Y.newCold hexec (own := own) (C := cls) (index := ik) (n := 6) hown' hk' hins hini'
    (g := F0 m pc ls rest) rfl (by rw [hb]; exact d0) (Nat.le_refl _) (Nat.le_refl _)
  generalize hT1 : (T.setVm vm₁).pushCell { cls := cX, slots := kX.instanceTypes.map defaultValue, vm := .none } = T1 at X₁ st1
  have hcat : (Value.ref T.heap.size).category = 1 := rfl
  have hcellA : T1.heap[T.heap.size]? = some (freshCell cX kX) := by rw [← hT1]; exact State.heap_pushCell_size _ _
  have d3' : decode c.code (pc + 3) = .ok (.dup, 1) := by rw [hb]; exact d3
  obtain ⟨U, hsteps, hrun, hend, hW, hsame, ce, hce, hO⟩ := X₁.ctorThrow0 hexec htr (own := own) (cls := cls) (names := names) (ic := ic) hown' hcls hnames h (fun x hx => nomatch hx) hfX hkX hcellA (by rw [hhp, hT]; exact Nat.le_refl _)
    (g := { method := m, pc := pc + 4, locals := ls, stack := .ref T.heap.size :: .ref T.heap.size :: rest, locked := none }) rfl hsize rfl rfl (rest := rest) rfl
    (by rw [hb]; exact d4) (by rw [hb]; exact d7) hout hRframes (by simp only [List.map_cons, List.sum_cons, hcat]; omega) hlocks
  obtain ⟨f1, f2⟩ := vx_frame hsame
  rw [hhp] at f1 f2
  have hWs : s.WarmedH U.vm := State.WarmedH.trans hW0 hW
  have hcl : s.vm.findClass cls = some ce.cls := by
    have h9 := hO.cls
    rw [hvm] at h9
    exact h9
  have hall : s.sameButNew ({ U with vm := s.vm } : State) locs mc ms := by
    subst hA
    obtain ⟨e1, e2⟩ := hsame
    rw [State.setFrames_setFrames] at e1
    have h2 : (T.setVm s.vm).sameButNew ({ U with vm := s.vm } : State) [] (0 + 1) (0 + 6) := ⟨e1, e2⟩
    have h3 := X.same.trans h2
    rw [List.append_nil] at h3
    exact h3.mono hc hs
  refine ⟨U, ?_, .threw T.heap.size, hrun, hend, Or.inr ⟨T.heap.size, rfl, cls, ce, locs, hx U hWs.alike f1 (fun q hq => f2 q hq (fun z hz => nomatch hz)), hce, hO.vm, hcl, hWs, hall, hf⟩⟩
  refine st1 _ ?_
  show Steps p.tables e below (T1.setTop { method := m, pc := pc + 3, locals := ls, stack := .ref T.heap.size :: rest, locked := none }) _
  jvm_step X₁.here [X₁.here.top, hexec, d3', Value.category]
  exact hsteps

theorem vx_throwS {cc : ByteArray} {pc : Nat} (hexec : p.tables.exec = Jvm.exec) (hb : c.code = cc) (hl : l.stackTraces = false) {own cls text : String} {names : List String} {ik is ic mc ms sa : Nat} {A : Nat → Prop}
    (hown : s.vm.findClass own = some m.cls) (hcls : Bundle.fit cls = true) (hnames : ∀ n ∈ names, Bundle.fit n = true)
    (hk : (Cond.classLink own ik cls).before args s = true) (hini : (Cond.initialized cls).before args s = true) (hstr : vk_R own is text sa s) (hat : ∀ w ∈ vx_atS own ic cls names, w.before args s = true)
    (hgood : ∀ w ∈ Cond.classLink own ik cls :: Cond.initialized cls :: vx_atS own ic cls names, vx_ot w = true)
    (hU : vx_Zq Bundle.tN "UNASSIGNED_STACK" Bundle.steD A s s.heap) (hN : vx_Zq Bundle.tN "SUPPRESSED_SENTINEL" Bundle.listD A s s.heap) (hS : va_S A s.heap H locs) (hsize : ls.size = c.maxLocals)
    (d0 : decode cc pc = .ok (.new ik, 3)) (d3 : decode cc (pc + 3) = .ok (.dup, 1)) (d4 : decode cc (pc + 4) = .ok (.ldc is, 2)) (d6 : decode cc (pc + 6) = .ok (.invokespecial ic, 3)) (d9 : decode cc (pc + 9) = .ok (.athrow, 1))
    (hout : ∀ x ∈ c.exceptionTable.toList, covers x (pc + 9) = false)
    (hRframes : names.length + 3 < R.frames) (hRlocals : (rest.map fun v => v.category).sum + (13 * (names.length + 1) + 43) ≤ R.locals) (hRcells : cells + 1 ≤ R.cells) (hRslots : slots + 6 ≤ R.slots) (hlocks : meth.locks = false)
    (hx : ∀ t : State, s.vm.Alike t.vm → H.size ≤ t.heap.size → (∀ q : Nat, q < H.size → t.heap[q]? = H[q]?) → XC cls s t)
    (hf : ∀ z ∈ locs, free z.base) (hc : cells + 1 ≤ mc) (hs : slots + 6 ≤ ms) :
    W p l e R s m args below meth c H locs cells slots (vx_MQ below Qc XC args s mc ms free) (F0 m pc ls rest) := by
  intro T hT X
  have htr : e.platform.stackTraces = false := (show e.platform.stackTraces = l.stackTraces by rw [X.admits.platform]).trans hl
  have Y := vx_rebase X (R' := { frames := R.frames, locals := R.locals, cells := 1, slots := 6 }) (Nat.le_refl _) (Nat.le_refl _) hRcells hRslots
  obtain ⟨s', hA⟩ : ∃ z, z = (T.setVm s.vm).setFrames (.invoking m args :: below) := ⟨_, rfl⟩
  rw [← hA] at Y
  have hvm : s'.vm = s.vm := by rw [hA]; rfl
  have hhp : s'.heap = H := by rw [hA]; exact hT
  have hW0 : s.WarmedH s'.vm := by rw [hvm]; exact State.WarmedH.refl s
  have hat' : ∀ w ∈ vx_atS own ic cls names, w.before args s' = true := fun w hw => vx_ot_at hW0 hvm.symm (hgood w (List.mem_cons_of_mem _ (List.mem_cons_of_mem _ hw))) (hat w hw)
  have hk' : (Cond.classLink own ik cls).before args s' = true := vx_ot_at hW0 hvm.symm (hgood _ List.mem_cons_self) hk
  have hini' : (Cond.initialized cls).before args s' = true := vx_ot_at hW0 hvm.symm (hgood _ (List.mem_cons_of_mem _ List.mem_cons_self)) hini
  have hU' : vx_Zq Bundle.tN "UNASSIGNED_STACK" Bundle.steD A s' s'.heap := by rw [hhp]; exact vx_Zq.moved hW0.alike (hU.kept hS.2.1)
  have hN' : vx_Zq Bundle.tN "SUPPRESSED_SENTINEL" Bundle.listD A s' s'.heap := by rw [hhp]; exact vx_Zq.moved hW0.alike (hN.kept hS.2.1)
  have h : ∀ w ∈ Bundle.ownAtoms own ic cls names, w.before args s' = true := vx_own hat' (vx_isRefq hU'.1) (vx_isRefq hN'.1) hU'.2.word hN'.2.word
  have hown' : s'.vm.findClass own = some m.cls := by rw [hvm]; exact hown
  have hins : (Cond.instantiable cls 6).before args s' = true := h _ (by simp [Bundle.ownAtoms])
  obtain ⟨vm₁, cX, kX, hfX, hkX, -, -, X₁, st1⟩ := Y.newCold hexec (own := own) (C := cls) (index := ik) (n := 6) hown' hk' hins hini'
    (g := F0 m pc ls rest) rfl (by rw [hb]; exact d0) (Nat.le_refl _) (Nat.le_refl _)
  generalize hT1 : (T.setVm vm₁).pushCell { cls := cX, slots := kX.instanceTypes.map defaultValue, vm := .none } = T1 at X₁ st1
  have hcat : (Value.ref T.heap.size).category = 1 := rfl
  have hcellA : T1.heap[T.heap.size]? = some (freshCell cX kX) := by rw [← hT1]; exact State.heap_pushCell_size _ _
  have d3' : decode c.code (pc + 3) = .ok (.dup, 1) := by rw [hb]; exact d3
  have d4' : decode c.code (pc + 4) = .ok (.ldc is, 2) := by rw [hb]; exact d4
  have hstr' : vk_R own is text sa s' := vk_R.warm hW0 hstr
  obtain ⟨U, hsteps, hrun, hend, hW, hsame, ce, hce, hO⟩ := X₁.ctorThrowS hexec htr (own := own) (cls := cls) (names := names) (ic := ic) hown' hcls hnames h (fun x hx => nomatch hx) hfX hkX hcellA (by rw [hhp, hT]; exact Nat.le_refl _) (msg := .ref sa) rfl
    (g := { method := m, pc := pc + 6, locals := ls, stack := .ref sa :: .ref T.heap.size :: .ref T.heap.size :: rest, locked := none }) rfl hsize rfl rfl (rest := rest) rfl
    (by rw [hb]; exact d6) (by rw [hb]; exact d9) hout hRframes (by simp only [List.map_cons, List.sum_cons, hcat]; omega) hlocks
  obtain ⟨f1, f2⟩ := vx_frame hsame
  rw [hhp] at f1 f2
  have hWs : s.WarmedH U.vm := State.WarmedH.trans hW0 hW
  have hcl : s.vm.findClass cls = some ce.cls := by
    have h9 := hO.cls
    rw [hvm] at h9
    exact h9
  have hall : s.sameButNew ({ U with vm := s.vm } : State) locs mc ms := by
    subst hA
    obtain ⟨e1, e2⟩ := hsame
    rw [State.setFrames_setFrames] at e1
    have h2 : (T.setVm s.vm).sameButNew ({ U with vm := s.vm } : State) [] (0 + 1) (0 + 6) := ⟨e1, e2⟩
    have h3 := X.same.trans h2
    rw [List.append_nil] at h3
    exact h3.mono hc hs
  refine ⟨U, ?_, .threw T.heap.size, hrun, hend, Or.inr ⟨T.heap.size, rfl, cls, ce, locs, hx U hWs.alike f1 (fun q hq => f2 q hq (fun z hz => nomatch hz)), hce, hO.vm, hcl, hWs, hall, hf⟩⟩
  refine st1 _ ?_
  show Steps p.tables e below (T1.setTop { method := m, pc := pc + 3, locals := ls, stack := .ref T.heap.size :: rest, locked := none }) _
  jvm_step X₁.here [X₁.here.top, hexec, d3', Value.category]
  exact X₁.ldcString hexec (own := own) (text := text) (index := is) (a := sa) hown' hstr'.1 hstr'.2
    (g := { method := m, pc := pc + 4, locals := ls, stack := .ref T.heap.size :: .ref T.heap.size :: rest, locked := none }) rfl d4' _ hsteps

theorem vx_throwSW {cc : ByteArray} {pc : Nat} (hexec : p.tables.exec = Jvm.exec) (hb : c.code = cc) (hl : l.stackTraces = false) {own cls text : String} {names : List String} {ik is ic mc ms sa : Nat} {A : Nat → Prop}
    (hown : s.vm.findClass own = some m.cls) (hcls : Bundle.fit cls = true) (hnames : ∀ n ∈ names, Bundle.fit n = true)
    (hk : (Cond.classLink own ik cls).before args s = true) (hini : (Cond.initialized cls).before args s = true) (hstr : vk_R own is text sa s) (hat : ∀ w ∈ vx_atS own ic cls names, w.before args s = true)
    (hgood : ∀ w ∈ Cond.classLink own ik cls :: Cond.initialized cls :: vx_atS own ic cls names, vx_ot w = true)
    (hU : vx_Zq Bundle.tN "UNASSIGNED_STACK" Bundle.steD A s s.heap) (hN : vx_Zq Bundle.tN "SUPPRESSED_SENTINEL" Bundle.listD A s s.heap) (hS : va_S A s.heap H locs) (hsize : ls.size = c.maxLocals)
    (d0 : decode cc pc = .ok (.new ik, 3)) (d3 : decode cc (pc + 3) = .ok (.dup, 1)) (d4 : decode cc (pc + 4) = .ok (.ldc_w is, 3)) (d7 : decode cc (pc + 7) = .ok (.invokespecial ic, 3)) (d10 : decode cc (pc + 10) = .ok (.athrow, 1))
    (hout : ∀ x ∈ c.exceptionTable.toList, covers x (pc + 10) = false)
    (hRframes : names.length + 3 < R.frames) (hRlocals : (rest.map fun v => v.category).sum + (13 * (names.length + 1) + 43) ≤ R.locals) (hRcells : cells + 1 ≤ R.cells) (hRslots : slots + 6 ≤ R.slots) (hlocks : meth.locks = false)
    (hx : ∀ t : State, s.vm.Alike t.vm → H.size ≤ t.heap.size → (∀ q : Nat, q < H.size → t.heap[q]? = H[q]?) → XC cls s t)
    (hf : ∀ z ∈ locs, free z.base) (hc : cells + 1 ≤ mc) (hs : slots + 6 ≤ ms) :
    W p l e R s m args below meth c H locs cells slots (vx_MQ below Qc XC args s mc ms free) (F0 m pc ls rest) := by
  intro T hT X
  have htr : e.platform.stackTraces = false := (show e.platform.stackTraces = l.stackTraces by rw [X.admits.platform]).trans hl
  have Y := vx_rebase X (R' := { frames := R.frames, locals := R.locals, cells := 1, slots := 6 }) (Nat.le_refl _) (Nat.le_refl _) hRcells hRslots
  obtain ⟨s', hA⟩ : ∃ z, z = (T.setVm s.vm).setFrames (.invoking m args :: below) := ⟨_, rfl⟩
  rw [← hA] at Y
  have hvm : s'.vm = s.vm := by rw [hA]; rfl
  have hhp : s'.heap = H := by rw [hA]; exact hT
  have hW0 : s.WarmedH s'.vm := by rw [hvm]; exact State.WarmedH.refl s
  have hat' : ∀ w ∈ vx_atS own ic cls names, w.before args s' = true := fun w hw => vx_ot_at hW0 hvm.symm (hgood w (List.mem_cons_of_mem _ (List.mem_cons_of_mem _ hw))) (hat w hw)
  have hk' : (Cond.classLink own ik cls).before args s' = true := vx_ot_at hW0 hvm.symm (hgood _ List.mem_cons_self) hk
  have hini' : (Cond.initialized cls).before args s' = true := vx_ot_at hW0 hvm.symm (hgood _ (List.mem_cons_of_mem _ List.mem_cons_self)) hini
  have hU' : vx_Zq Bundle.tN "UNASSIGNED_STACK" Bundle.steD A s' s'.heap := by rw [hhp]; exact vx_Zq.moved hW0.alike (hU.kept hS.2.1)
  have hN' : vx_Zq Bundle.tN "SUPPRESSED_SENTINEL" Bundle.listD A s' s'.heap := by rw [hhp]; exact vx_Zq.moved hW0.alike (hN.kept hS.2.1)
  have h : ∀ w ∈ Bundle.ownAtoms own ic cls names, w.before args s' = true := vx_own hat' (vx_isRefq hU'.1) (vx_isRefq hN'.1) hU'.2.word hN'.2.word
  have hown' : s'.vm.findClass own = some m.cls := by rw [hvm]; exact hown
  have hins : (Cond.instantiable cls 6).before args s' = true := h _ (by simp [Bundle.ownAtoms])
  obtain ⟨vm₁, cX, kX, hfX, hkX, -, -, X₁, st1⟩ := Y.newCold hexec (own := own) (C := cls) (index := ik) (n := 6) hown' hk' hins hini'
    (g := F0 m pc ls rest) rfl (by rw [hb]; exact d0) (Nat.le_refl _) (Nat.le_refl _)
  generalize hT1 : (T.setVm vm₁).pushCell { cls := cX, slots := kX.instanceTypes.map defaultValue, vm := .none } = T1 at X₁ st1
  have hcat : (Value.ref T.heap.size).category = 1 := rfl
  have hcellA : T1.heap[T.heap.size]? = some (freshCell cX kX) := by rw [← hT1]; exact State.heap_pushCell_size _ _
  have d3' : decode c.code (pc + 3) = .ok (.dup, 1) := by rw [hb]; exact d3
  have d4' : decode c.code (pc + 4) = .ok (.ldc_w is, 3) := by rw [hb]; exact d4
  have hstr' : vk_R own is text sa s' := vk_R.warm hW0 hstr
  obtain ⟨U, hsteps, hrun, hend, hW, hsame, ce, hce, hO⟩ := X₁.ctorThrowS hexec htr (own := own) (cls := cls) (names := names) (ic := ic) hown' hcls hnames h (fun x hx => nomatch hx) hfX hkX hcellA (by rw [hhp, hT]; exact Nat.le_refl _) (msg := .ref sa) rfl
    (g := { method := m, pc := pc + 7, locals := ls, stack := .ref sa :: .ref T.heap.size :: .ref T.heap.size :: rest, locked := none }) rfl hsize rfl rfl (rest := rest) rfl
    (by rw [hb]; exact d7) (by rw [hb]; exact d10) hout hRframes (by simp only [List.map_cons, List.sum_cons, hcat]; omega) hlocks
  obtain ⟨f1, f2⟩ := vx_frame hsame
  rw [hhp] at f1 f2
  have hWs : s.WarmedH U.vm := State.WarmedH.trans hW0 hW
  have hcl : s.vm.findClass cls = some ce.cls := by
    have h9 := hO.cls
    rw [hvm] at h9
    exact h9
  have hall : s.sameButNew ({ U with vm := s.vm } : State) locs mc ms := by
    subst hA
    obtain ⟨e1, e2⟩ := hsame
    rw [State.setFrames_setFrames] at e1
    have h2 : (T.setVm s.vm).sameButNew ({ U with vm := s.vm } : State) [] (0 + 1) (0 + 6) := ⟨e1, e2⟩
    have h3 := X.same.trans h2
    rw [List.append_nil] at h3
    exact h3.mono hc hs
  refine ⟨U, ?_, .threw T.heap.size, hrun, hend, Or.inr ⟨T.heap.size, rfl, cls, ce, locs, hx U hWs.alike f1 (fun q hq => f2 q hq (fun z hz => nomatch hz)), hce, hO.vm, hcl, hWs, hall, hf⟩⟩
  refine st1 _ ?_
  show Steps p.tables e below (T1.setTop { method := m, pc := pc + 3, locals := ls, stack := .ref T.heap.size :: rest, locked := none }) _
  jvm_step X₁.here [X₁.here.top, hexec, d3', Value.category]
  exact X₁.ldcStringW hexec (own := own) (text := text) (index := is) (a := sa) hown' hstr'.1 hstr'.2
    (g := { method := m, pc := pc + 4, locals := ls, stack := .ref T.heap.size :: .ref T.heap.size :: rest, locked := none }) rfl d4' _ hsteps
end Ends
section Bodies
variable {l : Launch}
theorem vx_ofW {y : MethodName} {ws ws' : List Cond} {rm : Room} {Pc : Array Value → State → Prop} {Qc : Array Value → State → Outcome → State → Prop} {XC : String → State → State → Prop} {mc ms : Nat} {free : Addr → Prop} {cc : ByteArray} {maxL : Nat} {ret : Option FieldType}
    (hy : plainName y.cls = true) (hw : ws = Cond.code y cc maxL ret :: ws')
    (body : ∀ p e s m args below meth c s₁, BodyLoose p l y (headSpec ws rm) cc maxL ret e s m args below meth c s₁ → c.maxLocals = maxL → (∀ x ∈ c.exceptionTable.toList, False) → Pc args s →
      W p l e (headSpec ws rm).room s m args below meth c s.heap [] 0 0 (vx_MQ below Qc XC args s mc ms free) (entryFrame m args maxL)) : vx_Met l y ws rm Pc Qc XC mc ms free := by
  refine MetFree.of_bodyS (code := cc) (maxLocals := maxL) (ret := ret) hy ?_ ?_
  · intro args s m h hn
    obtain ⟨meth, c, h1, h2, h3, h4, h5, h6, -, -⟩ := Cond.code_spec hn (atoms_spec (ws := ws) h _ (by rw [hw]; exact List.mem_cons_self))
    exact ⟨meth, c, h1, h2, h3, h4, h5, h6⟩
  · intro p e s m args below meth c s₁ B hml hP _
    have hh0 : s₁.heap = s.heap := by rw [B.state]; rfl
    have ht : ∀ x ∈ c.exceptionTable.toList, False := by
      obtain ⟨meth9, c9, h1, h2, -, -, -, -, h7, -⟩ := Cond.code_spec B.named (atoms_spec (ws := ws) B.pre _ (by rw [hw]; exact List.mem_cons_self))
      cases Option.some.inj (h1.symm.trans B.method)
      cases Option.some.inj (h2.symm.trans (Stand.of_body B).code)
      intro x hx
      rw [Array.isEmpty_iff.mp h7] at hx
      cases hx
    obtain ⟨t, a1, o, b1, b2, b3⟩ := body p e s m args below meth c s₁ B hml ht hP s₁ hh0 (Stand.of_body B)
    exact ⟨t, o, a1, b1, b2, b3⟩

theorem vx_table {p : Program} {x y : MethodName} {S : Spec} {cc bytes : ByteArray} {maxL maxL' : Nat} {ret ret' : Option FieldType} {e : Env} {s s₁ : State} {m : MethodId} {args : Array Value} {below : List Frame} {meth : Method} {c : Code} {hh : List (Nat × Nat × Nat × Nat)}
    (B : BodyLoose p l y S cc maxL ret e s m args below meth c s₁) (h : (Cond.codeWith y bytes maxL' ret' hh).before args s = true) : c.exceptionTable.toList = tableOf hh := by
  obtain ⟨m9, meth9, c9, hn9, h1, h2, -, -, h6, -⟩ := Cond.codeWith_spec h
  cases Option.some.inj (hn9.symm.trans B.named)
  cases Option.some.inj (h1.symm.trans B.method)
  cases Option.some.inj (h2.symm.trans (Stand.of_body B).code)
  rw [← h6, table_eq]
end Bodies
end VXA


section VXS
variable {p : Program} {l : Launch} {e : Env} {R : Room} {s : State} {m : MethodId} {args : Array Value} {below : List Frame} {meth : Method} {c : Code} {T : State} {H : Heap} {locs : List Loc} {cells slots : Nat}
abbrev vx_CSW (R : Room) (s : State) (args : Array Value) (own : String) (index : Nat) (y : MethodName) (bytes : ByteArray) (maxL : Nat) (ret : Option FieldType) (hh : List (Nat × Nat × Nat × Nat)) (ws : List Cond) (rm : Room) (mc ms n : Nat) : Prop :=
  (rm.cells = mc ∧ rm.slots = ms ∧ rm.frames + 1 ≤ R.frames ∧ 8 + (maxL + 11) + rm.locals ≤ R.locals ∧ (∀ w ∈ ws, ∀ (a' : Array Value) (U : State), s.WarmedH U.vm → w.before a' U = true) ∧ Cond.codeWith y bytes maxL ret hh ∈ ws) ∧
  (Cond.codeWith y bytes maxL ret hh).before args s = true ∧ (Cond.initialized y.cls).before args s = true ∧ (y.cls ≠ "java/lang/invoke/MethodHandle" ∧ y.cls ≠ "java/lang/invoke/VarHandle") ∧
  (∀ sig, parseMethodDescriptor y.desc = some sig → n = sig.parameters.length) ∧ (Cond.methodLink own index y).before args s = true ∧ (Cond.static y).before args s = true
theorem vx_cwSW {own : String} {index maxL mc ms : Nat} {y : MethodName} {bytes : ByteArray} {ret : Option FieldType} {hh : List (Nat × Nat × Nat × Nat)} {Ts ws ws' : List Cond} {rm : Room} (n : Nat) (ht : ∀ w ∈ Ts, w.before args s = true) (hT : GoodIn Ts (va_wsS own index y ws)) (hw : ws = Cond.codeWith y bytes maxL ret hh :: ws') (hrc : rm.cells = mc) (hrs : rm.slots = ms)
    (hd : y.cls ≠ "java/lang/invoke/MethodHandle" ∧ y.cls ≠ "java/lang/invoke/VarHandle" ∧ (parseMethodDescriptor y.desc).map (fun d => d.parameters.length) = some n) (hR : rm.frames + 1 ≤ R.frames ∧ 8 + (maxL + 11) + rm.locals ≤ R.locals) :
    vx_CSW R s args own index y bytes maxL ret hh ws rm mc ms n := by
  have ok : ∀ w ∈ va_wsS own index y ws, w.before args s = true := fun w h => ht w (hT w h).1
  have hG : GoodIn Ts ws := fun w h => hT w (by unfold va_wsS; exact List.mem_append_right _ h)
  have hc : Cond.codeWith y bytes maxL ret hh ∈ ws := by rw [hw]; exact List.mem_cons_self
  refine ⟨⟨hrc, hrs, hR.1, hR.2, pay_in ht hG, hc⟩, ht _ (hG _ hc).1, ok _ (by simp [va_wsS]), ⟨hd.1, hd.2.1⟩, fun sig h => ?_, ok _ (by simp [va_wsS]), ok _ (by simp [va_wsS])⟩
  have h2 := hd.2.2
  rw [h] at h2
  exact (Option.some.inj h2).symm
theorem vx_callSW (X : Stand p l e R s m args below meth c T locs cells slots) (hexec : p.tables.exec = Jvm.exec) {own : String} {index : Nat} {y : MethodName} {bytes : ByteArray} {maxL : Nat} {ret : Option FieldType} {hh : List (Nat × Nat × Nat × Nat)}
    (hown : s.vm.findClass own = some m.cls) (hlink : (Cond.methodLink own index y).before args s = true) (hstat : (Cond.static y).before args s = true) (hinit : (Cond.initialized y.cls).before args s = true)
    (hcode : (Cond.codeWith y bytes maxL ret hh).before args s = true) (hy : y.cls ≠ "java/lang/invoke/MethodHandle" ∧ y.cls ≠ "java/lang/invoke/VarHandle")
    {W9 : Nat} {Pre : Pt → Array Value → Prop} {Post : Pt → Array Value → Option Value → Pt → Prop} (hK : Back l R p e below s args y 3 W9 Pre Post)
    {g : JFrame} (hg : g.method = m) (hsize : g.locals.size = c.maxLocals) {argsL rest : List Value} (hlen : ∀ sig, parseMethodDescriptor y.desc = some sig → argsL.length = sig.parameters.length)
    (hstack : g.stack = argsL.reverse ++ rest) (hW : 2 * g.monitorRoom + (rest.map fun v => v.category).sum ≤ W9) (hdg : decode c.code g.pc = .ok (.invokestatic index, 3))
    (hpre : ∀ vm₁, s.WarmedH vm₁ → Pre ⟨T.setVm vm₁, locs, cells, slots⟩ argsL.toArray) :
    ∃ (v : Option Value) (vm₁ : Vm) (B : Pt), s.WarmedH vm₁ ∧ Stand p l e R s m args below meth c B.U B.locs B.cells B.slots ∧ Post ⟨T.setVm vm₁, locs, cells, slots⟩ argsL.toArray v B ∧
      ∀ target, Steps p.tables e below (B.U.setTop { g with pc := g.pc + 3, stack := v.toList ++ rest }) target → Steps p.tables e below (T.setTop g) target := by
  obtain ⟨mk, methM, cM, hnamed, hmethM, -, -, -, -, -, -, hsigM⟩ := Cond.codeWith_spec hcode
  have hstatic : methM.isStatic = true := Cond.static_spec hnamed hmethM hstat
  obtain ⟨kP, hkP, -⟩ := className_of_methodNamed hnamed
  have hinitP : kP.init = .initialized := Cond.initialized_spec (findClass_of_methodNamed hnamed) hkP hinit
  obtain ⟨vm₁, X₁, hstep₁⟩ := X.invokestatic hexec hown hlink hnamed hmethM hstatic hkP hinitP hy (g := g) hg (argsL := argsL) (rest := rest) (hlen _ hsigM) hstack hdg
  obtain ⟨v, B, X', hpost, hsteps⟩ := hK m meth c ⟨T.setVm vm₁, locs, cells, slots⟩ { g with stack := rest } (.invokestatic index) mk argsL.toArray X₁ hg hsize hdg hW (X₁.named hnamed) (hpre vm₁ X₁.warmed)
  exact ⟨v, vm₁, B, X₁.warmed, X', hpost, fun target h => hstep₁ _ fun acts => by rw [doInvoke_state]; exact hsteps.trans h⟩
theorem vx_runSW {y : MethodName} {bytes cc : ByteArray} {maxL nL mc ms n index : Nat} {ret : Option FieldType} {hh : List (Nat × Nat × Nat × Nat)} {ws : List Cond} {rm : Room} {Pc : Array Value → State → Prop} {Qc : Array Value → State → Outcome → State → Prop} {free : Addr → Prop} {Ts : List Cond} {own : String} {As rest : List Value} {g : JFrame}
    (S : CallFix p m c cc nL s args Ts own) (hM : Met l y ws rm Pc Qc mc ms free) (cw : vx_CSW R s args own index y bytes maxL ret hh ws rm mc ms n) (hp : PreS s H Pc As)
    (hg : g.method = m) (hn : As.length = n) (hsize : g.locals.size = nL) (hstack : g.stack = As.reverse ++ rest) (hW : 2 * g.monitorRoom + (rest.map fun v => v.category).sum ≤ 8) (hdg : decode cc g.pc = .ok (.invokestatic index, 3)) (hf : cells + mc ≤ R.cells ∧ slots + ms ≤ R.slots) :
    va_Run p l e R s m args below meth c H locs cells slots mc ms g rest (Qc As.toArray) (free) := by
  obtain ⟨⟨hrc, hrs, hfr, hlo, hws, hcw⟩, hcode, hini, hy, hlen, hl, hstt⟩ := cw
  have hK : Back l R p e below s args y 3 8 (PreOf R mc ms Pc) (PostOf Qc mc ms free) := va_backW (hh := hh) (bytes := bytes) (maxL := maxL) (ret := ret) hM hp.1 hrc hrs hfr hlo hws hcw (fun a' U hW => word_at hW (Or.inl (by first | rfl | simp [Cond.onTables, Cond.keeps, Cond.steady])) hini)
  obtain ⟨hx, hb, hml, ho, -⟩ := S
  intro T hT X
  obtain ⟨v, vm₁, ⟨U', l2, c2, s2⟩, hW₁, X', ⟨g', mk, t, L, e1, e2, hq, h1, hL, h2, h3⟩, st⟩ := vx_callSW X hx (hh := hh) (bytes := bytes) (maxL := maxL) (ret := ret) ho hl hstt hini hcode hy hK hg (hsize.trans hml.symm) (argsL := As) (rest := rest) (fun sig h => hn.trans (hlen sig h)) hstack hW (by rw [hb]; exact hdg)
    (fun vm₁ hW₁ => ⟨hf.1, hf.2, hp.2 (T.setVm vm₁) hT hW₁⟩)
  dsimp only [Pt.U, Pt.locs, Pt.cells, Pt.slots] at X' e1 e2 h1 h2 h3 st
  subst h1; subst h2; subst h3
  exact ⟨v, (T.setVm vm₁).calling g' mk As.toArray, t, U', L, hT, X', hL, e1, e2, hq, st⟩

theorem vx_lt {D : va_G} {cl : List vw_C} {ws : va_W} {H1 : Heap} (h : va_P D cl ws H1) {k : Nat} {q : Nat × va_E} (hk : ws[k]? = some q) : q.1 < H1.size := (h k q hk).lt
end VXS


section VXH

section
variable {l : Launch} {R : Room} {p : Program} {e : Env} {below : List Frame} {s : State} {sargs : Array Value} {y : MethodName} {len W9 : Nat}
theorem vx_backW {ws : List Cond} {rm : Room} {Pc : Array Value → State → Prop} {Qc : Array Value → State → Outcome → State → Prop} {XC : String → State → State → Prop} {mc ms : Nat} {free : Addr → Prop} {bytes : ByteArray} {maxL : Nat} {ret : Option FieldType} {hh : List (Nat × Nat × Nat × Nat)}
    (hM : vx_Met l y ws rm Pc Qc XC mc ms free) (hblind : FrameBlind Pc) (hrc : rm.cells = mc) (hrs : rm.slots = ms)
    (hframes : rm.frames + 1 ≤ R.frames) (hlocals : W9 + (maxL + 11) + rm.locals ≤ R.locals)
    (hws : ∀ w ∈ ws, ∀ a' U, s.WarmedH U.vm → w.before a' U = true) (hcode : Cond.codeWith y bytes maxL ret hh ∈ ws) (hinit : ∀ a' U, s.WarmedH U.vm → (Cond.initialized y.cls).before a' U = true) :
    vx_Back l R p e below s sargs y len W9 (PreOf R mc ms Pc) (PostOf Qc mc ms free) (vx_Post XC mc ms free) := by
  intro m meth c A g ig mk a X hg hsize hdg hW hn hp
  have h1 : (headSpec ws rm).pre.before a A.U = true := atoms_intro fun w hw => hws w hw _ _ X.warmed
  have h2 : (Cond.codeWith y bytes maxL ret hh).before a A.U = true := hws _ hcode _ _ X.warmed
  have h3 : (Cond.initialized y.cls).before a A.U = true := hinit _ _ X.warmed
  have h4 : A.cells + (headSpec ws rm).room.cells ≤ R.cells := by rw [show (headSpec ws rm).room.cells = mc from hrc]; exact hp.1
  have h5 : A.slots + (headSpec ws rm).room.slots ≤ R.slots := by rw [show (headSpec ws rm).room.slots = ms from hrs]; exact hp.2.1
  have hPc : Pc a (A.U.calling g mk a) := hblind _ _ _ _ hp.2.2
  obtain ⟨U, Ls, c0, s0⟩ := A
  dsimp only [Pt.U, Pt.locs, Pt.cells, Pt.slots] at h1 h2 h3 h4 h5 X hn hPc ⊢
  obtain ⟨m9, methY, cY, hn9, hmY, hcY, -, hlY, -⟩ := Cond.codeWith_spec h2
  cases Option.some.inj (hn9.symm.trans hn)
  obtain ⟨kY, hkY, -⟩ := className_of_methodNamed hn
  have hinitY : kY.init = .initialized := Cond.initialized_spec (findClass_of_methodNamed hn) hkY h3
  have h : At U g.method c below := by rw [hg]; exact X.here
  have hlocals9 : W9 + (maxL + 11) + (headSpec ws rm).room.locals ≤ R.locals := hlocals
  have happ : (headSpec ws rm).appliesLoose y e.platform (U.calling g mk a) = true :=
    Spec.appliesLoose_calling (g := g) h hdg hn hkY hinitY
      (X.room_calling (g := g) (R' := (headSpec ws rm).room) hsize hmY hcY hframes (by rw [hlY]; omega) h4 h5) h1
  obtain ⟨mid, hmid⟩ := h.above
  have hfr : (U.setTop g).frames = (.java g :: mid) ++ below := by rw [State.frames_setTop' g h.top, hmid]; rfl
  obtain ⟨o, s₂, hsteps, -, hend, hq⟩ := Steps.callFree hM p X.admits X.cas X.clock (acts := []) hfr happ hPc trivial
  have hq' : vx_Q Qc XC mc ms free a (U.calling g mk a) o s₂ := hq
  rw [State.frames_setTop' g h.top] at hend
  obtain ⟨g₀, hg0⟩ := Option.isSome_iff_exists.mp h.top
  obtain ⟨r, hr⟩ := State.topJava?_eq_some.mp hg0
  have hr' : (({ U with heap := s₂.heap, slotsUsed := s₂.slotsUsed } : State).setVm s₂.vm).frames = .java g₀ :: r := hr
  rcases hq' with ⟨hqc, L, hfe, hL⟩ | ⟨q, rfl, E, ce, L, hx, hce, hcv, hcl, hW₂, hsm, hL⟩
  · obtain ⟨⟨v, rfl⟩, hW₂, e2, q2, q3, q4, q5, q6⟩ := id hfe
    have e3 : s₂ = ({ (U.calling g mk a).setFrames s₂.frames with heap := s₂.heap, slotsUsed := s₂.slotsUsed } : State).setVm s₂.vm := by
      have : s₂ = ({ s₂ with vm := (U.calling g mk a).vm } : State).setVm s₂.vm := rfl
      rw [e2] at this
      exact this
    obtain ⟨c₂, i₂, len₂, hc₂, hd₂, hf₂⟩ := hend
    have hW' : U.WarmedH s₂.vm := hW₂
    have hcc : c₂ = c := by
      have h1 : s₂.code? g.method = U.code? g.method := by
        rw [State.code?_eq, State.code?_eq, hW'.alike.method?]
      exact Option.some.inj (hc₂.symm.trans (h1.trans h.code))
    subst hcc
    have hlen : len₂ = len := by rw [hdg] at hd₂; cases hd₂; rfl
    subst hlen
    have hs₂ : s₂ = (({ U with heap := s₂.heap, slotsUsed := s₂.slotsUsed } : State).setVm s₂.vm).setTop { g with pc := g.pc + len₂, stack := v.toList ++ g.stack } := by
      refine e3.trans ?_
      rw [hf₂, State.calling_eq h.top, State.setFrames_setFrames, State.setTop_of_frames _ hr', hr]
      rfl
    have hsame : U.sameButNew ({ U with heap := s₂.heap, slotsUsed := s₂.slotsUsed } : State) L mc ms := by
      refine ⟨?_, q2, q3, q4, q5, q6⟩
      obtain ⟨t, ht, -⟩ := State.frames_cons hr
      show ({ U with heap := s₂.heap, slotsUsed := s₂.slotsUsed } : State) = { U.setFrames U.frames with heap := s₂.heap, slotsUsed := s₂.slotsUsed }
      rw [State.setFrames_self ht]
    subst hg
    refine Or.inl ⟨v, ⟨(({ U with heap := s₂.heap, slotsUsed := s₂.slotsUsed } : State).setVm s₂.vm), Ls ++ L, c0 + mc, s0 + ms⟩,
      ⟨X.admits, X.cas, X.clock, X.frames, X.room, X.hears, X.method, X.code, (X.here.setHeapUsed s₂.heap s₂.slotsUsed).setVm hW'.alike, X.tail, State.WarmedH.trans X.warmed hW', X.limits, X.bytes, X.same.trans (hsame.setVm s.vm)⟩,
      ⟨g, mk, s₂, L, rfl, rfl, hqc, rfl, hL, rfl, rfl⟩, ?_⟩
    show Steps p.tables e below _ ((({ U with heap := s₂.heap, slotsUsed := s₂.slotsUsed } : State).setVm s₂.vm).setTop { g with pc := g.pc + len₂, stack := v.toList ++ g.stack })
    rw [← hs₂]
    exact hsteps
  · obtain ⟨e2, q2, q3, q4, q5, q6⟩ := id hsm
    have e3 : s₂ = ({ (U.calling g mk a).setFrames s₂.frames with heap := s₂.heap, slotsUsed := s₂.slotsUsed } : State).setVm s₂.vm := by
      have : s₂ = ({ s₂ with vm := (U.calling g mk a).vm } : State).setVm s₂.vm := rfl
      rw [e2] at this
      exact this
    have hf₂ : s₂.frames = .throwing q :: .java g :: U.frames.tail := hend
    have hW' : U.WarmedH s₂.vm := hW₂
    have hs₂ : s₂ = ((({ U with heap := s₂.heap, slotsUsed := s₂.slotsUsed } : State).setVm s₂.vm).setTop g).pushFrame (.throwing q) := by
      refine e3.trans ?_
      rw [hf₂, State.calling_eq h.top, State.setFrames_setFrames, State.pushFrame, State.frames_setTop _ hr', State.setTop_of_frames _ hr', State.setFrames_setFrames, hr]
      rfl
    have hsame : U.sameButNew ({ U with heap := s₂.heap, slotsUsed := s₂.slotsUsed } : State) L mc ms := by
      refine ⟨?_, q2, q3, q4, q5, q6⟩
      obtain ⟨t, ht, -⟩ := State.frames_cons hr
      show ({ U with heap := s₂.heap, slotsUsed := s₂.slotsUsed } : State) = { U.setFrames U.frames with heap := s₂.heap, slotsUsed := s₂.slotsUsed }
      rw [State.setFrames_self ht]
    subst hg
    refine Or.inr ⟨q, ⟨(({ U with heap := s₂.heap, slotsUsed := s₂.slotsUsed } : State).setVm s₂.vm), Ls ++ L, c0 + mc, s0 + ms⟩,
      ⟨X.admits, X.cas, X.clock, X.frames, X.room, X.hears, X.method, X.code, (X.here.setHeapUsed s₂.heap s₂.slotsUsed).setVm hW'.alike, X.tail, State.WarmedH.trans X.warmed hW', X.limits, X.bytes, X.same.trans (hsame.setVm s.vm)⟩,
      ⟨g, mk, s₂, L, E, ce, rfl, rfl, hx, hce, hcv, hcl, rfl, hL, rfl, rfl⟩, ?_⟩
    show Steps p.tables e below _ (((({ U with heap := s₂.heap, slotsUsed := s₂.slotsUsed } : State).setVm s₂.vm).setTop g).pushFrame (.throwing q))
    rw [← hs₂]
    exact hsteps
end
variable {p : Program} {l : Launch} {e : Env} {R : Room} {s : State} {m : MethodId} {args : Array Value} {below : List Frame} {meth : Method} {c : Code} {T : State} {H : Heap} {locs : List Loc} {cells slots : Nat}
theorem vx_callVX (X : Stand p l e R s m args below meth c T locs cells slots) (hexec : p.tables.exec = Jvm.exec) {own C : String} {index : Nat} {y : MethodName} {bytes : ByteArray} {maxL : Nat} {ret : Option FieldType} {hh : List (Nat × Nat × Nat × Nat)}
    (hown : s.vm.findClass own = some m.cls) (hlink : (Cond.methodLink own index y).before args s = true) (hinst : (Cond.instanceMethod y).before args s = true) (hsel : (Cond.selects C y y).before args s = true)
    (hcode : (Cond.codeWith y bytes maxL ret hh).before args s = true) (hy : y.cls ≠ "java/lang/invoke/MethodHandle" ∧ y.cls ≠ "java/lang/invoke/VarHandle")
    {W9 : Nat} {Pre : Pt → Array Value → Prop} {Post : Pt → Array Value → Option Value → Pt → Prop} {PostX : Pt → Array Value → Addr → Pt → Prop} (hK : vx_Back l R p e below s args y 3 W9 Pre Post PostX)
    {b : Addr} {cellB : Cell} (hcell : T.heap[b]? = some cellB) (hobj : cellB.vm.isStatics = false) (hcls : s.vm.findClass C = some cellB.cls)
    {g : JFrame} (hg : g.method = m) (hsize : g.locals.size = c.maxLocals) {argsL rest : List Value} (hlen : ∀ sig, parseMethodDescriptor y.desc = some sig → argsL.length = sig.parameters.length)
    (hstack : g.stack = argsL.reverse ++ .ref b :: rest) (hW : 2 * g.monitorRoom + (rest.map fun v => v.category).sum ≤ W9) (hdg : decode c.code g.pc = .ok (.invokevirtual index, 3))
    (hpre : ∀ vm₁, s.WarmedH vm₁ → Pre ⟨T.setVm vm₁, locs, cells, slots⟩ (Value.ref b :: argsL).toArray) :
    (∃ (v : Option Value) (vm₁ : Vm) (B : Pt), s.WarmedH vm₁ ∧ Stand p l e R s m args below meth c B.U B.locs B.cells B.slots ∧ Post ⟨T.setVm vm₁, locs, cells, slots⟩ (Value.ref b :: argsL).toArray v B ∧
      ∀ target, Steps p.tables e below (B.U.setTop { g with pc := g.pc + 3, stack := v.toList ++ rest }) target → Steps p.tables e below (T.setTop g) target) ∨
    (∃ (q : Addr) (vm₁ : Vm) (B : Pt), s.WarmedH vm₁ ∧ Stand p l e R s m args below meth c B.U B.locs B.cells B.slots ∧ PostX ⟨T.setVm vm₁, locs, cells, slots⟩ (Value.ref b :: argsL).toArray q B ∧
      Steps p.tables e below (T.setTop g) ((B.U.setTop { g with stack := rest }).pushFrame (.throwing q))) := by
  obtain ⟨mk, methM, hnamed, hmethM, hstM, habM⟩ := Cond.instanceMethod_spec hinst
  obtain ⟨m8, methM', cM, hn8, hmethM', -, -, -, -, -, -, hsigM⟩ := Cond.codeWith_spec hcode
  cases Option.some.inj (hn8.symm.trans hnamed)
  cases hmethM.symm.trans hmethM'
  obtain ⟨c2, r2, m2, q1, q2, q3, q4, kP, hkP, hkPi⟩ := Cond.selects_spec hsel
  cases hcls.symm.trans q1
  cases (State.methodFound?_of_named hnamed hy).symm.trans q2
  cases hnamed.symm.trans q3
  have hselP : selectMethod e.platform s.vm cellB.cls mk = .method mk := by rw [Launch.admits_selectMethod X.admits]; exact q4
  obtain ⟨vm₁, X₁, hstep₁⟩ := X.invokevirtual hexec hown hlink hnamed hmethM hstM hkP hkPi hy (a := b) (cell := cellB) hcell
    (fun z h => by rw [h] at hobj; cases hobj) hselP hmethM habM hkP hkPi (g := g) hg (argsL := argsL) (rest := rest) (hlen _ hsigM) hstack hdg
  rcases hK m meth c ⟨T.setVm vm₁, locs, cells, slots⟩ { g with stack := rest } (.invokevirtual index) mk (Value.ref b :: argsL).toArray X₁ hg hsize hdg hW (X₁.named hnamed) (hpre vm₁ X₁.warmed) with ⟨v, B, X', hpost, hsteps⟩ | ⟨q, B, X', hpost, hsteps⟩
  · exact Or.inl ⟨v, vm₁, B, X₁.warmed, X', hpost, fun target h => hstep₁ _ fun acts => by rw [doInvoke_state]; exact hsteps.trans h⟩
  · exact Or.inr ⟨q, vm₁, B, X₁.warmed, X', hpost, hstep₁ _ fun acts => by rw [doInvoke_state]; exact hsteps⟩
theorem vx_callSX (X : Stand p l e R s m args below meth c T locs cells slots) (hexec : p.tables.exec = Jvm.exec) {own : String} {index : Nat} {y : MethodName} {bytes : ByteArray} {maxL : Nat} {ret : Option FieldType} {hh : List (Nat × Nat × Nat × Nat)}
    (hown : s.vm.findClass own = some m.cls) (hlink : (Cond.methodLink own index y).before args s = true) (hstat : (Cond.static y).before args s = true) (hinit : (Cond.initialized y.cls).before args s = true)
    (hcode : (Cond.codeWith y bytes maxL ret hh).before args s = true) (hy : y.cls ≠ "java/lang/invoke/MethodHandle" ∧ y.cls ≠ "java/lang/invoke/VarHandle")
    {W9 : Nat} {Pre : Pt → Array Value → Prop} {Post : Pt → Array Value → Option Value → Pt → Prop} {PostX : Pt → Array Value → Addr → Pt → Prop} (hK : vx_Back l R p e below s args y 3 W9 Pre Post PostX)
    {g : JFrame} (hg : g.method = m) (hsize : g.locals.size = c.maxLocals) {argsL rest : List Value} (hlen : ∀ sig, parseMethodDescriptor y.desc = some sig → argsL.length = sig.parameters.length)
    (hstack : g.stack = argsL.reverse ++ rest) (hW : 2 * g.monitorRoom + (rest.map fun v => v.category).sum ≤ W9) (hdg : decode c.code g.pc = .ok (.invokestatic index, 3))
    (hpre : ∀ vm₁, s.WarmedH vm₁ → Pre ⟨T.setVm vm₁, locs, cells, slots⟩ argsL.toArray) :
    (∃ (v : Option Value) (vm₁ : Vm) (B : Pt), s.WarmedH vm₁ ∧ Stand p l e R s m args below meth c B.U B.locs B.cells B.slots ∧ Post ⟨T.setVm vm₁, locs, cells, slots⟩ argsL.toArray v B ∧
      ∀ target, Steps p.tables e below (B.U.setTop { g with pc := g.pc + 3, stack := v.toList ++ rest }) target → Steps p.tables e below (T.setTop g) target) ∨
    (∃ (q : Addr) (vm₁ : Vm) (B : Pt), s.WarmedH vm₁ ∧ Stand p l e R s m args below meth c B.U B.locs B.cells B.slots ∧ PostX ⟨T.setVm vm₁, locs, cells, slots⟩ argsL.toArray q B ∧
      Steps p.tables e below (T.setTop g) ((B.U.setTop { g with stack := rest }).pushFrame (.throwing q))) := by
  obtain ⟨mk, methM, cM, hnamed, hmethM, -, -, -, -, -, -, hsigM⟩ := Cond.codeWith_spec hcode
  have hstatic : methM.isStatic = true := Cond.static_spec hnamed hmethM hstat
  obtain ⟨kP, hkP, -⟩ := className_of_methodNamed hnamed
  have hinitP : kP.init = .initialized := Cond.initialized_spec (findClass_of_methodNamed hnamed) hkP hinit
  obtain ⟨vm₁, X₁, hstep₁⟩ := X.invokestatic hexec hown hlink hnamed hmethM hstatic hkP hinitP hy (g := g) hg (argsL := argsL) (rest := rest) (hlen _ hsigM) hstack hdg
  rcases hK m meth c ⟨T.setVm vm₁, locs, cells, slots⟩ { g with stack := rest } (.invokestatic index) mk argsL.toArray X₁ hg hsize hdg hW (X₁.named hnamed) (hpre vm₁ X₁.warmed) with ⟨v, B, X', hpost, hsteps⟩ | ⟨q, B, X', hpost, hsteps⟩
  · exact Or.inl ⟨v, vm₁, B, X₁.warmed, X', hpost, fun target h => hstep₁ _ fun acts => by rw [doInvoke_state]; exact hsteps.trans h⟩
  · exact Or.inr ⟨q, vm₁, B, X₁.warmed, X', hpost, hstep₁ _ fun acts => by rw [doInvoke_state]; exact hsteps⟩
theorem vx_callVW (X : Stand p l e R s m args below meth c T locs cells slots) (hexec : p.tables.exec = Jvm.exec) {own C : String} {index : Nat} {y : MethodName} {bytes : ByteArray} {maxL : Nat} {ret : Option FieldType} {hh : List (Nat × Nat × Nat × Nat)}
    (hown : s.vm.findClass own = some m.cls) (hlink : (Cond.methodLink own index y).before args s = true) (hinst : (Cond.instanceMethod y).before args s = true) (hsel : (Cond.selects C y y).before args s = true)
    (hcode : (Cond.codeWith y bytes maxL ret hh).before args s = true) (hy : y.cls ≠ "java/lang/invoke/MethodHandle" ∧ y.cls ≠ "java/lang/invoke/VarHandle")
    {W9 : Nat} {Pre : Pt → Array Value → Prop} {Post : Pt → Array Value → Option Value → Pt → Prop} (hK : Back l R p e below s args y 3 W9 Pre Post)
    {b : Addr} {cellB : Cell} (hcell : T.heap[b]? = some cellB) (hobj : cellB.vm.isStatics = false) (hcls : s.vm.findClass C = some cellB.cls)
    {g : JFrame} (hg : g.method = m) (hsize : g.locals.size = c.maxLocals) {argsL rest : List Value} (hlen : ∀ sig, parseMethodDescriptor y.desc = some sig → argsL.length = sig.parameters.length)
    (hstack : g.stack = argsL.reverse ++ .ref b :: rest) (hW : 2 * g.monitorRoom + (rest.map fun v => v.category).sum ≤ W9) (hdg : decode c.code g.pc = .ok (.invokevirtual index, 3))
    (hpre : ∀ vm₁, s.WarmedH vm₁ → Pre ⟨T.setVm vm₁, locs, cells, slots⟩ (Value.ref b :: argsL).toArray) :
    ∃ (v : Option Value) (vm₁ : Vm) (B : Pt), s.WarmedH vm₁ ∧ Stand p l e R s m args below meth c B.U B.locs B.cells B.slots ∧ Post ⟨T.setVm vm₁, locs, cells, slots⟩ (Value.ref b :: argsL).toArray v B ∧
      ∀ target, Steps p.tables e below (B.U.setTop { g with pc := g.pc + 3, stack := v.toList ++ rest }) target → Steps p.tables e below (T.setTop g) target := by
  obtain ⟨mk, methM, hnamed, hmethM, hstM, habM⟩ := Cond.instanceMethod_spec hinst
  obtain ⟨m8, methM', cM, hn8, hmethM', -, -, -, -, -, -, hsigM⟩ := Cond.codeWith_spec hcode
  cases Option.some.inj (hn8.symm.trans hnamed)
  cases hmethM.symm.trans hmethM'
  obtain ⟨c2, r2, m2, q1, q2, q3, q4, kP, hkP, hkPi⟩ := Cond.selects_spec hsel
  cases hcls.symm.trans q1
  cases (State.methodFound?_of_named hnamed hy).symm.trans q2
  cases hnamed.symm.trans q3
  have hselP : selectMethod e.platform s.vm cellB.cls mk = .method mk := by rw [Launch.admits_selectMethod X.admits]; exact q4
  obtain ⟨vm₁, X₁, hstep₁⟩ := X.invokevirtual hexec hown hlink hnamed hmethM hstM hkP hkPi hy (a := b) (cell := cellB) hcell
    (fun z h => by rw [h] at hobj; cases hobj) hselP hmethM habM hkP hkPi (g := g) hg (argsL := argsL) (rest := rest) (hlen _ hsigM) hstack hdg
  obtain ⟨v, B, X', hpost, hsteps⟩ := hK m meth c ⟨T.setVm vm₁, locs, cells, slots⟩ { g with stack := rest } (.invokevirtual index) mk (Value.ref b :: argsL).toArray X₁ hg hsize hdg hW (X₁.named hnamed) (hpre vm₁ X₁.warmed)
  exact ⟨v, vm₁, B, X₁.warmed, X', hpost, fun target h => hstep₁ _ fun acts => by rw [doInvoke_state]; exact hsteps.trans h⟩
abbrev vx_CVW (R : Room) (s : State) (args : Array Value) (own C : String) (index : Nat) (y : MethodName) (bytes : ByteArray) (maxL : Nat) (ret : Option FieldType) (hh : List (Nat × Nat × Nat × Nat)) (ws : List Cond) (rm : Room) (mc ms n : Nat) : Prop :=
  (rm.cells = mc ∧ rm.slots = ms ∧ rm.frames + 1 ≤ R.frames ∧ 8 + (maxL + 11) + rm.locals ≤ R.locals ∧ (∀ w ∈ ws, ∀ (a' : Array Value) (U : State), s.WarmedH U.vm → w.before a' U = true) ∧ Cond.codeWith y bytes maxL ret hh ∈ ws) ∧
  (Cond.codeWith y bytes maxL ret hh).before args s = true ∧ (Cond.initialized y.cls).before args s = true ∧ (y.cls ≠ "java/lang/invoke/MethodHandle" ∧ y.cls ≠ "java/lang/invoke/VarHandle") ∧
  (∀ sig, parseMethodDescriptor y.desc = some sig → n = sig.parameters.length) ∧ (Cond.methodLink own index y).before args s = true ∧ (Cond.instanceMethod y).before args s = true ∧ (Cond.selects C y y).before args s = true
theorem vx_cwVW {own C : String} {index maxL mc ms : Nat} {y : MethodName} {bytes : ByteArray} {ret : Option FieldType} {hh : List (Nat × Nat × Nat × Nat)} {Ts ws ws' : List Cond} {rm : Room} (n : Nat) (ht : ∀ w ∈ Ts, w.before args s = true) (hT : GoodIn Ts (wsV own index C y ws)) (hw : ws = Cond.codeWith y bytes maxL ret hh :: ws') (hrc : rm.cells = mc) (hrs : rm.slots = ms)
    (hd : y.cls = C ∧ y.cls ≠ "java/lang/invoke/MethodHandle" ∧ y.cls ≠ "java/lang/invoke/VarHandle" ∧ (parseMethodDescriptor y.desc).map (fun d => d.parameters.length) = some n) (hR : rm.frames + 1 ≤ R.frames ∧ 8 + (maxL + 11) + rm.locals ≤ R.locals) :
    vx_CVW R s args own C index y bytes maxL ret hh ws rm mc ms n := by
  obtain ⟨hC, hd⟩ := hd
  subst hC
  have ok : ∀ w ∈ wsV own index y.cls y ws, w.before args s = true := fun w h => ht w (hT w h).1
  have hG : GoodIn Ts ws := fun w h => hT w (by unfold wsV; exact List.mem_append_right _ h)
  have hc : Cond.codeWith y bytes maxL ret hh ∈ ws := by rw [hw]; exact List.mem_cons_self
  refine ⟨⟨hrc, hrs, hR.1, hR.2, pay_in ht hG, hc⟩, ht _ (hG _ hc).1, ok _ (by simp [wsV]), ⟨hd.1, hd.2.1⟩, fun sig h => ?_, ok _ (by simp [wsV]), ok _ (by simp [wsV]), ok _ (by simp [wsV])⟩
  have h2 := hd.2.2
  rw [h] at h2
  exact (Option.some.inj h2).symm
theorem vx_runVW {y : MethodName} {bytes cc : ByteArray} {maxL nL mc ms n index : Nat} {ret : Option FieldType} {hh : List (Nat × Nat × Nat × Nat)} {ws : List Cond} {rm : Room} {Pc : Array Value → State → Prop} {Qc : Array Value → State → Outcome → State → Prop} {free : Addr → Prop} {Ts : List Cond} {own C : String} {b : Addr} {As rest : List Value} {g : JFrame}
    (S : CallFix p m c cc nL s args Ts own) (hM : Met l y ws rm Pc Qc mc ms free) (cw : vx_CVW R s args own C index y bytes maxL ret hh ws rm mc ms n) (hp : PreV s H C b Pc As)
    (hg : g.method = m) (hn : As.length = n) (hsize : g.locals.size = nL) (hstack : g.stack = As.reverse ++ .ref b :: rest) (hW : 2 * g.monitorRoom + (rest.map fun v => v.category).sum ≤ 8) (hdg : decode cc g.pc = .ok (.invokevirtual index, 3)) (hf : cells + mc ≤ R.cells ∧ slots + ms ≤ R.slots) :
    va_Run p l e R s m args below meth c H locs cells slots mc ms g rest (Qc (Value.ref b :: As).toArray) free := by
  obtain ⟨⟨hrc, hrs, hfr, hlo, hws, hcw⟩, hcode, hini, hy, hlen, hl, hin, hse⟩ := cw
  have hK : Back l R p e below s args y 3 8 (PreOf R mc ms Pc) (PostOf Qc mc ms free) := va_backW (hh := hh) (bytes := bytes) (maxL := maxL) (ret := ret) hM hp.1 hrc hrs hfr hlo hws hcw (fun a' U hW => word_at hW (Or.inl (by first | rfl | simp [Cond.onTables, Cond.keeps, Cond.steady])) hini)
  obtain ⟨hx, hb, hml, ho, -⟩ := S
  obtain ⟨-, ⟨cellB, hcB, hoB, hclB⟩, hPc⟩ := hp
  intro T hT X
  obtain ⟨v, vm₁, ⟨U', l2, c2, s2⟩, hW₁, X', ⟨g', mk, t, L, e1, e2, hq, h1, hL, h2, h3⟩, st⟩ := vx_callVW X hx (C := C) (hh := hh) (bytes := bytes) (maxL := maxL) (ret := ret) ho hl hin hse hcode hy hK (by rw [hT]; exact hcB) hoB hclB hg (hsize.trans hml.symm) (argsL := As) (rest := rest) (fun sig h => hn.trans (hlen sig h)) hstack hW (by rw [hb]; exact hdg)
    (fun vm₁ hW₁ => ⟨hf.1, hf.2, hPc (T.setVm vm₁) hT hW₁⟩)
  dsimp only [Pt.U, Pt.locs, Pt.cells, Pt.slots] at X' e1 e2 h1 h2 h3 st
  subst h1; subst h2; subst h3
  exact ⟨v, (T.setVm vm₁).calling g' mk (Value.ref b :: As).toArray, t, U', L, hT, X', hL, e1, e2, hq, st⟩
section
variable {y : MethodName} {bytes cc : ByteArray} {maxL nL mc ms n index : Nat} {ret : Option FieldType} {ws : List Cond} {rm : Room} {Pc : Array Value → State → Prop} {Qc : Array Value → State → Outcome → State → Prop} {XC : String → State → State → Prop} {free : Addr → Prop} {Ts : List Cond} {own C : String} {b : Addr} {As rest : List Value} {g : JFrame}
theorem vx_runVX {hh : List (Nat × Nat × Nat × Nat)} (S : CallFix p m c cc nL s args Ts own) (hM : vx_Met l y ws rm Pc Qc XC mc ms free) (cw : vx_CVW R s args own C index y bytes maxL ret hh ws rm mc ms n) (hp : PreV s H C b Pc As)
    (hg : g.method = m) (hn : As.length = n) (hsize : g.locals.size = nL) (hstack : g.stack = As.reverse ++ .ref b :: rest) (hW : 2 * g.monitorRoom + (rest.map fun v => v.category).sum ≤ 8) (hdg : decode cc g.pc = .ok (.invokevirtual index, 3)) (hf : cells + mc ≤ R.cells ∧ slots + ms ≤ R.slots) :
    vx_Run p l e R s m args below meth c H locs cells slots mc ms g rest (Qc (Value.ref b :: As).toArray) XC free := by
  obtain ⟨⟨hrc, hrs, hfr, hlo, hws, hcw⟩, hcode, hini, hy, hlen, hl, hin, hse⟩ := cw
  have hK : vx_Back l R p e below s args y 3 8 (PreOf R mc ms Pc) (PostOf Qc mc ms free) (vx_Post XC mc ms free) := vx_backW (hh := hh) (bytes := bytes) (maxL := maxL) (ret := ret) hM hp.1 hrc hrs hfr hlo hws hcw (fun a' U hW => word_at hW (Or.inl (by first | rfl | simp [Cond.onTables, Cond.keeps, Cond.steady])) hini)
  obtain ⟨hx, hb, hml, ho, -⟩ := S
  obtain ⟨-, ⟨cellB, hcB, hoB, hclB⟩, hPc⟩ := hp
  intro T hT X
  rcases vx_callVX X hx (C := C) (hh := hh) (bytes := bytes) (maxL := maxL) (ret := ret) ho hl hin hse hcode hy hK (by rw [hT]; exact hcB) hoB hclB hg (hsize.trans hml.symm) (argsL := As) (rest := rest) (fun sig h => hn.trans (hlen sig h)) hstack hW (by rw [hb]; exact hdg)
    (fun vm₁ hW₁ => ⟨hf.1, hf.2, hPc (T.setVm vm₁) hT hW₁⟩) with ⟨v, vm₁, ⟨U', l2, c2, s2⟩, hW₁, X', ⟨g', mk, t, L, e1, e2, hq, h1, hL, h2, h3⟩, st⟩ | ⟨q, vm₁, ⟨U', l2, c2, s2⟩, hW₁, X', ⟨g', mk, t, L, E, ce, e1, e2, hq, hce, hcv, hcl, h1, hL, h2, h3⟩, st⟩
  · dsimp only [Pt.U, Pt.locs, Pt.cells, Pt.slots] at X' e1 e2 h1 h2 h3 st
    subst h1; subst h2; subst h3
    exact Or.inl ⟨v, (T.setVm vm₁).calling g' mk (Value.ref b :: As).toArray, t, U', L, hT, X', hL, e1, e2, hq, st⟩
  · dsimp only [Pt.U, Pt.locs, Pt.cells, Pt.slots] at X' e1 e2 h1 h2 h3 st hcl
    subst h1; subst h2; subst h3
    exact Or.inr ⟨q, (T.setVm vm₁).calling g' mk (Value.ref b :: As).toArray, t, U', L, E, ce, hT, X', hL, e1, e2, hq, hce, hcv, vx_cls hW₁ hcl, st⟩
theorem vx_runSX {hh : List (Nat × Nat × Nat × Nat)} (S : CallFix p m c cc nL s args Ts own) (hM : vx_Met l y ws rm Pc Qc XC mc ms free) (cw : vx_CSW R s args own index y bytes maxL ret hh ws rm mc ms n) (hp : PreS s H Pc As)
    (hg : g.method = m) (hn : As.length = n) (hsize : g.locals.size = nL) (hstack : g.stack = As.reverse ++ rest) (hW : 2 * g.monitorRoom + (rest.map fun v => v.category).sum ≤ 8) (hdg : decode cc g.pc = .ok (.invokestatic index, 3)) (hf : cells + mc ≤ R.cells ∧ slots + ms ≤ R.slots) :
    vx_Run p l e R s m args below meth c H locs cells slots mc ms g rest (Qc As.toArray) XC free := by
  obtain ⟨⟨hrc, hrs, hfr, hlo, hws, hcw⟩, hcode, hini, hy, hlen, hl, hstt⟩ := cw
  have hK : vx_Back l R p e below s args y 3 8 (PreOf R mc ms Pc) (PostOf Qc mc ms free) (vx_Post XC mc ms free) := vx_backW (hh := hh) (bytes := bytes) (maxL := maxL) (ret := ret) hM hp.1 hrc hrs hfr hlo hws hcw (fun a' U hW => word_at hW (Or.inl (by first | rfl | simp [Cond.onTables, Cond.keeps, Cond.steady])) hini)
  obtain ⟨hx, hb, hml, ho, -⟩ := S
  intro T hT X
  rcases vx_callSX X hx (hh := hh) (bytes := bytes) (maxL := maxL) (ret := ret) ho hl hstt hini hcode hy hK hg (hsize.trans hml.symm) (argsL := As) (rest := rest) (fun sig h => hn.trans (hlen sig h)) hstack hW (by rw [hb]; exact hdg)
    (fun vm₁ hW₁ => ⟨hf.1, hf.2, hp.2 (T.setVm vm₁) hT hW₁⟩) with ⟨v, vm₁, ⟨U', l2, c2, s2⟩, hW₁, X', ⟨g', mk, t, L, e1, e2, hq, h1, hL, h2, h3⟩, st⟩ | ⟨q, vm₁, ⟨U', l2, c2, s2⟩, hW₁, X', ⟨g', mk, t, L, E, ce, e1, e2, hq, hce, hcv, hcl, h1, hL, h2, h3⟩, st⟩
  · dsimp only [Pt.U, Pt.locs, Pt.cells, Pt.slots] at X' e1 e2 h1 h2 h3 st
    subst h1; subst h2; subst h3
    exact Or.inl ⟨v, (T.setVm vm₁).calling g' mk As.toArray, t, U', L, hT, X', hL, e1, e2, hq, st⟩
  · dsimp only [Pt.U, Pt.locs, Pt.cells, Pt.slots] at X' e1 e2 h1 h2 h3 st hcl
    subst h1; subst h2; subst h3
    exact Or.inr ⟨q, (T.setVm vm₁).calling g' mk As.toArray, t, U', L, E, ce, hT, X', hL, e1, e2, hq, hce, hcv, vx_cls hW₁ hcl, st⟩
end
end VXH
theorem vx_ofWH {l : Launch} {y : MethodName} {ws ws' : List Cond} {rm : Room} {Pc : Array Value → State → Prop} {Qc : Array Value → State → Outcome → State → Prop} {XC : String → State → State → Prop} {mc ms : Nat} {free : Addr → Prop} {cc : ByteArray} {maxL : Nat} {ret : Option FieldType} {hh : List (Nat × Nat × Nat × Nat)}
    (hy : plainName y.cls = true) (hw : ws = Cond.codeWith y cc maxL ret hh :: ws')
    (body : ∀ p e s m args below meth c s₁, BodyLoose p l y (headSpec ws rm) cc maxL ret e s m args below meth c s₁ → c.maxLocals = maxL → Pc args s →
      W p l e (headSpec ws rm).room s m args below meth c s.heap [] 0 0 (vx_MQ below Qc XC args s mc ms free) (entryFrame m args maxL)) : vx_Met l y ws rm Pc Qc XC mc ms free := by
  refine MetFree.of_bodyS (code := cc) (maxLocals := maxL) (ret := ret) hy ?_ ?_
  · intro args s m h hn
    obtain ⟨m9, meth, c, hn9, h1, h2, h3, h4, -, h5, h6, -⟩ := Cond.codeWith_spec (atoms_spec (ws := ws) h _ (by rw [hw]; exact List.mem_cons_self))
    cases hn.symm.trans hn9
    exact ⟨meth, c, h1, h2, h3, h4, h5, h6⟩
  · intro p e s m args below meth c s₁ B hml hP _
    have hh0 : s₁.heap = s.heap := by rw [B.state]; rfl
    obtain ⟨t, a1, o, b1, b2, b3⟩ := body p e s m args below meth c s₁ B hml hP s₁ hh0 (Stand.of_body B)
    exact ⟨t, o, a1, b1, b2, b3⟩
end
section

def RX0 : String := "PieceText$History"
def TX0 : u_T := fun k => match k with
  | 0 => ("PieceText$History", "texts", "[LPieceText$Row;", true)
  | 1 => ("PieceText$History", "now", "I", false)
  | 2 => ("PieceText$History", "past", "I", false)
  | _ => ("PieceText$History", "future", "I", false)
def tyX0 : Nat → FieldType := fun k => match k with
  | 0 => .array (.object "PieceText$Row")
  | 1 => .int
  | 2 => .int
  | _ => .int
abbrev wsX00 : List Cond := u_ws RX0 TX0 4
theorem nmX0 : ∀ a, a < 4 → ∀ b, b < 4 → a ≠ b → (TX0 a).2.1 ≠ (TX0 b).2.1 := by decide +kernel
theorem tyX0_ok : ∀ k, k < 4 → parseFieldDescriptor (TX0 k).2.2.1 = some (tyX0 k) := by decide +kernel
abbrev cX0_init : ByteArray := prog_2_method_1_code
def yX0_init : MethodName := ⟨RX0, "<init>", "()V"⟩
abbrev cX0_present : ByteArray := prog_2_method_2_code
def yX0_present : MethodName := ⟨RX0, "present", "()LPieceText$Row;"⟩
abbrev cX0_pastSize : ByteArray := prog_2_method_3_code
def yX0_pastSize : MethodName := ⟨RX0, "pastSize", "()I"⟩
abbrev cX0_futureSize : ByteArray := prog_2_method_4_code
def yX0_futureSize : MethodName := ⟨RX0, "futureSize", "()I"⟩
abbrev cX0_keep : ByteArray := prog_2_method_5_code
def yX0_keep : MethodName := ⟨RX0, "keep", "(LPieceText$Row;)V"⟩
abbrev cX0_stepBack : ByteArray := prog_2_method_6_code
def yX0_stepBack : MethodName := ⟨RX0, "stepBack", "()V"⟩
abbrev cX0_stepOn : ByteArray := prog_2_method_7_code
def yX0_stepOn : MethodName := ⟨RX0, "stepOn", "()V"⟩
abbrev cX0_forget : ByteArray := prog_2_method_8_code
def yX0_forget : MethodName := ⟨RX0, "forget", "()V"⟩
def RX1 : String := "PieceText$Phrases"
def TX1 : u_T := fun k => match k with
  | 0 => ("PieceText$Phrases", "words", "[I", true)
  | 1 => ("PieceText$Phrases", "starts", "[I", true)
  | _ => ("PieceText$Phrases", "count", "I", false)
def tyX1 : Nat → FieldType := fun k => match k with
  | 0 => .array .int
  | 1 => .array .int
  | _ => .int
abbrev wsX10 : List Cond := u_ws RX1 TX1 3
theorem nmX1 : ∀ a, a < 3 → ∀ b, b < 3 → a ≠ b → (TX1 a).2.1 ≠ (TX1 b).2.1 := by decide +kernel
theorem tyX1_ok : ∀ k, k < 3 → parseFieldDescriptor (TX1 k).2.2.1 = some (tyX1 k) := by decide +kernel
abbrev cX1_init : ByteArray := prog_3_method_1_code
def yX1_init : MethodName := ⟨RX1, "<init>", "()V"⟩
abbrev cX1_size : ByteArray := prog_3_method_2_code
def yX1_size : MethodName := ⟨RX1, "size", "()I"⟩
abbrev cX1_get : ByteArray := prog_3_method_3_code
def yX1_get : MethodName := ⟨RX1, "get", "(I)I"⟩
abbrev cX1_set : ByteArray := prog_3_method_4_code
def yX1_set : MethodName := ⟨RX1, "set", "(II)V"⟩
abbrev cX1_forget : ByteArray := prog_3_method_5_code
def yX1_forget : MethodName := ⟨RX1, "forget", "()V"⟩
abbrev cX1_writeDown : ByteArray := prog_3_method_6_code
def yX1_writeDown : MethodName := ⟨RX1, "writeDown", "(LPieceText$Row;)V"⟩
abbrev cX1_addWord : ByteArray := prog_3_method_7_code
def yX1_addWord : MethodName := ⟨RX1, "addWord", "(I)V"⟩
abbrev cX1_numberOf : ByteArray := prog_3_method_8_code
def yX1_numberOf : MethodName := ⟨RX1, "numberOf", "(II)I"⟩
abbrev cX1_readInto : ByteArray := prog_3_method_9_code
def yX1_readInto : MethodName := ⟨RX1, "readInto", "(LPieceText$Row;)I"⟩
abbrev cX1_isPhrase : ByteArray := prog_3_method_10_code
def yX1_isPhrase : MethodName := ⟨RX1, "isPhrase", "(I)Z"⟩
abbrev cX1_lengthOf : ByteArray := prog_3_method_11_code
def yX1_lengthOf : MethodName := ⟨RX1, "lengthOf", "(I)I"⟩
abbrev cX1_addPhrase : ByteArray := prog_3_method_12_code
def yX1_addPhrase : MethodName := ⟨RX1, "addPhrase", "(ILPieceText$Row;)V"⟩
def RX2 : String := "PieceText$Row"
def TX2 : u_T := fun k => match k with
  | 0 => ("PieceText$Row", "characters", "[I", true)
  | _ => ("PieceText$Row", "length", "I", false)
def tyX2 : Nat → FieldType := fun k => match k with
  | 0 => .array .int
  | _ => .int
abbrev wsX20 : List Cond := u_ws RX2 TX2 2
theorem nmX2 : ∀ a, a < 2 → ∀ b, b < 2 → a ≠ b → (TX2 a).2.1 ≠ (TX2 b).2.1 := by decide +kernel
theorem tyX2_ok : ∀ k, k < 2 → parseFieldDescriptor (TX2 k).2.2.1 = some (tyX2 k) := by decide +kernel
abbrev cX2_init : ByteArray := prog_4_method_1_code
def yX2_init : MethodName := ⟨RX2, "<init>", "(I)V"⟩
abbrev cX2_size : ByteArray := prog_4_method_2_code
def yX2_size : MethodName := ⟨RX2, "size", "()I"⟩
abbrev cX2_get : ByteArray := prog_4_method_3_code
def yX2_get : MethodName := ⟨RX2, "get", "(I)I"⟩
abbrev cX2_empty : ByteArray := prog_4_method_4_code
def yX2_empty : MethodName := ⟨RX2, "empty", "()V"⟩
abbrev cX2_add : ByteArray := prog_4_method_5_code
def yX2_add : MethodName := ⟨RX2, "add", "(I)V"⟩
abbrev cX2_addPart : ByteArray := prog_4_method_6_code
def yX2_addPart : MethodName := ⟨RX2, "addPart", "(LPieceText$Row;II)V"⟩
abbrev cX2_hasAt : ByteArray := prog_4_method_7_code
def yX2_hasAt : MethodName := ⟨RX2, "hasAt", "(ILPieceText$Row;)Z"⟩
def RX3 : String := "PieceText"
def TX3 : u_T := fun k => match k with
  | 0 => ("PieceText", "history", "LPieceText$History;", true)
  | 1 => ("PieceText", "sought", "LPieceText$Row;", true)
  | 2 => ("PieceText", "written", "LPieceText$Phrases;", true)
  | 3 => ("PieceText", "draft", "LPieceText$Row;", true)
  | _ => ("PieceText", "seen", "[I", true)
def tyX3 : Nat → FieldType := fun k => match k with
  | 0 => .object "PieceText$History"
  | 1 => .object "PieceText$Row"
  | 2 => .object "PieceText$Phrases"
  | 3 => .object "PieceText$Row"
  | _ => .array .int
abbrev wsX30 : List Cond := u_ws RX3 TX3 5
theorem nmX3 : ∀ a, a < 5 → ∀ b, b < 5 → a ≠ b → (TX3 a).2.1 ≠ (TX3 b).2.1 := by decide +kernel
theorem tyX3_ok : ∀ k, k < 5 → parseFieldDescriptor (TX3 k).2.2.1 = some (tyX3 k) := by decide +kernel
abbrev cX3_init : ByteArray := prog_1_method_1_code
def yX3_init : MethodName := ⟨RX3, "<init>", "()V"⟩
abbrev cX3_insert : ByteArray := prog_1_method_2_code
def yX3_insert : MethodName := ⟨RX3, "insert", "(II)I"⟩
abbrev cX3_delete : ByteArray := prog_1_method_3_code
def yX3_delete : MethodName := ⟨RX3, "delete", "(II)I"⟩
abbrev cX3_copy : ByteArray := prog_1_method_4_code
def yX3_copy : MethodName := ⟨RX3, "copy", "(III)I"⟩
abbrev cX3_at : ByteArray := prog_1_method_5_code
def yX3_at : MethodName := ⟨RX3, "at", "(I)I"⟩
abbrev cX3_undo : ByteArray := prog_1_method_6_code
def yX3_undo : MethodName := ⟨RX3, "undo", "()I"⟩
abbrev cX3_redo : ByteArray := prog_1_method_7_code
def yX3_redo : MethodName := ⟨RX3, "redo", "()I"⟩
abbrev cX3_pattern : ByteArray := prog_1_method_8_code
def yX3_pattern : MethodName := ⟨RX3, "pattern", "(I)I"⟩
abbrev cX3_noPattern : ByteArray := prog_1_method_9_code
def yX3_noPattern : MethodName := ⟨RX3, "noPattern", "()I"⟩
abbrev cX3_find : ByteArray := prog_1_method_10_code
def yX3_find : MethodName := ⟨RX3, "find", "(I)I"⟩
abbrev cX3_replace : ByteArray := prog_1_method_11_code
def yX3_replace : MethodName := ⟨RX3, "replace", "(I)I"⟩
abbrev cX3_snapshot : ByteArray := prog_1_method_12_code
def yX3_snapshot : MethodName := ⟨RX3, "snapshot", "()I"⟩
abbrev cX3_word : ByteArray := prog_1_method_13_code
def yX3_word : MethodName := ⟨RX3, "word", "(I)I"⟩
abbrev cX3_poke : ByteArray := prog_1_method_14_code
def yX3_poke : MethodName := ⟨RX3, "poke", "(II)I"⟩
abbrev cX3_restore : ByteArray := prog_1_method_15_code
def yX3_restore : MethodName := ⟨RX3, "restore", "()I"⟩
abbrev cX3_told : ByteArray := prog_1_method_16_code
def yX3_told : MethodName := ⟨RX3, "told", "(I)I"⟩
abbrev cX3_clear : ByteArray := prog_1_method_17_code
def yX3_clear : MethodName := ⟨RX3, "clear", "()V"⟩
abbrev cX3_keepDraft : ByteArray := prog_1_method_18_code
def yX3_keepDraft : MethodName := ⟨RX3, "keepDraft", "()I"⟩
abbrev cX3_draftReplaced : ByteArray := prog_1_method_19_code
def yX3_draftReplaced : MethodName := ⟨RX3, "draftReplaced", "(I)I"⟩
abbrev cX3_differentCharacters : ByteArray := prog_1_method_20_code
def yX3_differentCharacters : MethodName := ⟨RX3, "differentCharacters", "()I"⟩
abbrev cX3_refuseNoPlace : ByteArray := prog_1_method_21_code
def yX3_refuseNoPlace : MethodName := ⟨RX3, "refuseNoPlace", "(ILPieceText$Row;)V"⟩
abbrev cX3_refuseNoCharacter : ByteArray := prog_1_method_22_code
def yX3_refuseNoCharacter : MethodName := ⟨RX3, "refuseNoCharacter", "(I)V"⟩
abbrev cX3_refuseNoPart : ByteArray := prog_1_method_23_code
def yX3_refuseNoPart : MethodName := ⟨RX3, "refuseNoPart", "(IILPieceText$Row;)V"⟩
abbrev cX3_refuseTooLong : ByteArray := prog_1_method_24_code
def yX3_refuseTooLong : MethodName := ⟨RX3, "refuseTooLong", "(ILPieceText$Row;)V"⟩
abbrev cX3_refuseNoWord : ByteArray := prog_1_method_25_code
def yX3_refuseNoWord : MethodName := ⟨RX3, "refuseNoWord", "(I)V"⟩
def RX4 : String := "PieceTextModel"
def TX4 : u_T := fun k => match k with
  | 0 => ("PieceTextModel", "thrown", "I", false)
  | 1 => ("PieceTextModel", "texts", "[I", true)
  | 2 => ("PieceTextModel", "lengths", "[I", true)
  | 3 => ("PieceTextModel", "past", "I", false)
  | 4 => ("PieceTextModel", "future", "I", false)
  | 5 => ("PieceTextModel", "draft", "[I", true)
  | 6 => ("PieceTextModel", "drafted", "I", false)
  | 7 => ("PieceTextModel", "pattern", "[I", true)
  | 8 => ("PieceTextModel", "patternSize", "I", false)
  | 9 => ("PieceTextModel", "words", "[I", true)
  | 10 => ("PieceTextModel", "wordCount", "I", false)
  | 11 => ("PieceTextModel", "begins", "[I", true)
  | _ => ("PieceTextModel", "sizes", "[I", true)
def tyX4 : Nat → FieldType := fun k => match k with
  | 0 => .int
  | 1 => .array .int
  | 2 => .array .int
  | 3 => .int
  | 4 => .int
  | 5 => .array .int
  | 6 => .int
  | 7 => .array .int
  | 8 => .int
  | 9 => .array .int
  | 10 => .int
  | 11 => .array .int
  | _ => .array .int
abbrev wsX40 : List Cond := u_ws RX4 TX4 13
theorem nmX4 : ∀ a, a < 13 → ∀ b, b < 13 → a ≠ b → (TX4 a).2.1 ≠ (TX4 b).2.1 := by decide +kernel
theorem tyX4_ok : ∀ k, k < 13 → parseFieldDescriptor (TX4 k).2.2.1 = some (tyX4 k) := by decide +kernel
abbrev cX4_init : ByteArray := prog_6_method_1_code
def yX4_init : MethodName := ⟨RX4, "<init>", "()V"⟩
abbrev cX4_thrown : ByteArray := prog_6_method_2_code
def yX4_thrown : MethodName := ⟨RX4, "thrown", "()I"⟩
abbrev cX4_length : ByteArray := prog_6_method_3_code
def yX4_length : MethodName := ⟨RX4, "length", "()I"⟩
abbrev cX4_charAt : ByteArray := prog_6_method_4_code
def yX4_charAt : MethodName := ⟨RX4, "charAt", "(I)I"⟩
abbrev cX4_isIn : ByteArray := prog_6_method_5_code
def yX4_isIn : MethodName := ⟨RX4, "isIn", "(JJJ)Z"⟩
abbrev cX4_draftFrom : ByteArray := prog_6_method_6_code
def yX4_draftFrom : MethodName := ⟨RX4, "draftFrom", "(II)V"⟩
abbrev cX4_draftOne : ByteArray := prog_6_method_7_code
def yX4_draftOne : MethodName := ⟨RX4, "draftOne", "(I)V"⟩
abbrev cX4_act : ByteArray := prog_6_method_8_code
def yX4_act : MethodName := ⟨RX4, "act", "()I"⟩
abbrev cX4_insert : ByteArray := prog_6_method_9_code
def yX4_insert : MethodName := ⟨RX4, "insert", "(II)I"⟩
abbrev cX4_delete : ByteArray := prog_6_method_10_code
def yX4_delete : MethodName := ⟨RX4, "delete", "(II)I"⟩
abbrev cX4_copy : ByteArray := prog_6_method_11_code
def yX4_copy : MethodName := ⟨RX4, "copy", "(III)I"⟩
abbrev cX4_at : ByteArray := prog_6_method_12_code
def yX4_at : MethodName := ⟨RX4, "at", "(I)I"⟩
abbrev cX4_undo : ByteArray := prog_6_method_13_code
def yX4_undo : MethodName := ⟨RX4, "undo", "()I"⟩
abbrev cX4_redo : ByteArray := prog_6_method_14_code
def yX4_redo : MethodName := ⟨RX4, "redo", "()I"⟩
abbrev cX4_pattern : ByteArray := prog_6_method_15_code
def yX4_pattern : MethodName := ⟨RX4, "pattern", "(I)I"⟩
abbrev cX4_noPattern : ByteArray := prog_6_method_16_code
def yX4_noPattern : MethodName := ⟨RX4, "noPattern", "()I"⟩
abbrev cX4_occurs : ByteArray := prog_6_method_17_code
def yX4_occurs : MethodName := ⟨RX4, "occurs", "(I)Z"⟩
abbrev cX4_find : ByteArray := prog_6_method_18_code
def yX4_find : MethodName := ⟨RX4, "find", "(I)I"⟩
abbrev cX4_replace : ByteArray := prog_6_method_19_code
def yX4_replace : MethodName := ⟨RX4, "replace", "(I)I"⟩
abbrev cX4_snapshot : ByteArray := prog_6_method_20_code
def yX4_snapshot : MethodName := ⟨RX4, "snapshot", "()I"⟩
abbrev cX4_word : ByteArray := prog_6_method_21_code
def yX4_word : MethodName := ⟨RX4, "word", "(I)I"⟩
abbrev cX4_poke : ByteArray := prog_6_method_22_code
def yX4_poke : MethodName := ⟨RX4, "poke", "(II)I"⟩
abbrev cX4_restore : ByteArray := prog_6_method_23_code
def yX4_restore : MethodName := ⟨RX4, "restore", "()I"⟩
abbrev cX4_told : ByteArray := prog_6_method_24_code
def yX4_told : MethodName := ⟨RX4, "told", "(I)I"⟩
abbrev cX4_clear : ByteArray := prog_6_method_25_code
def yX4_clear : MethodName := ⟨RX4, "clear", "()V"⟩
def RJ9 : String := "java/lang/Math"
def TJ9 : u_T := fun k => match k with
  | _ => ("", "", "", false)
def tyJ9 : Nat → FieldType := fun k => match k with
  | _ => .int
abbrev wsJ90 : List Cond := u_ws RJ9 TJ9 0
theorem nmJ9 : ∀ a, a < 0 → ∀ b, b < 0 → a ≠ b → (TJ9 a).2.1 ≠ (TJ9 b).2.1 := by decide +kernel
theorem tyJ9_ok : ∀ k, k < 0 → parseFieldDescriptor (TJ9 k).2.2.1 = some (tyJ9 k) := by decide +kernel
abbrev cJ9_min_7cf53 : ByteArray := prog_11_method_69_code
def yJ9_min_7cf53 : MethodName := ⟨RJ9, "min", "(II)I"⟩
def RJ0 : String := "java/lang/String"
def TJ0 : u_T := fun k => match k with
  | _ => ("", "", "", false)
def tyJ0 : Nat → FieldType := fun k => match k with
  | _ => .int
abbrev wsJ00 : List Cond := u_ws RJ0 TJ0 0
theorem nmJ0 : ∀ a, a < 0 → ∀ b, b < 0 → a ≠ b → (TJ0 a).2.1 ≠ (TJ0 b).2.1 := by decide +kernel
theorem tyJ0_ok : ∀ k, k < 0 → parseFieldDescriptor (TJ0 k).2.2.1 = some (tyJ0 k) := by decide +kernel
def RJ10 : String := "java/lang/System"
def TJ10 : u_T := fun k => match k with
  | _ => ("", "", "", false)
def tyJ10 : Nat → FieldType := fun k => match k with
  | _ => .int
abbrev wsJ100 : List Cond := u_ws RJ10 TJ10 0
theorem nmJ10 : ∀ a, a < 0 → ∀ b, b < 0 → a ≠ b → (TJ10 a).2.1 ≠ (TJ10 b).2.1 := by decide +kernel
theorem tyJ10_ok : ∀ k, k < 0 → parseFieldDescriptor (TJ10 k).2.2.1 = some (tyJ10 k) := by decide +kernel
def RJ7 : String := "java/util/Arrays"
def TJ7 : u_T := fun k => match k with
  | _ => ("", "", "", false)
def tyJ7 : Nat → FieldType := fun k => match k with
  | _ => .int
abbrev wsJ70 : List Cond := u_ws RJ7 TJ7 0
theorem nmJ7 : ∀ a, a < 0 → ∀ b, b < 0 → a ≠ b → (TJ7 a).2.1 ≠ (TJ7 b).2.1 := by decide +kernel
theorem tyJ7_ok : ∀ k, k < 0 → parseFieldDescriptor (TJ7 k).2.2.1 = some (tyJ7 k) := by decide +kernel
abbrev cJ7_fill_53178 : ByteArray := prog_17_method_103_code
def yJ7_fill_53178 : MethodName := ⟨RJ7, "fill", "([II)V"⟩
def RL : String := "PieceTextLaw"
abbrev cL_insert : ByteArray := method_3_code
def yL_insert : MethodName := ⟨RL, "insert", "(LPieceText;II[J)I"⟩
abbrev cL_delete : ByteArray := method_4_code
def yL_delete : MethodName := ⟨RL, "delete", "(LPieceText;II[J)I"⟩
abbrev cL_copy : ByteArray := method_5_code
def yL_copy : MethodName := ⟨RL, "copy", "(LPieceText;III[J)I"⟩
abbrev cL_at : ByteArray := method_6_code
def yL_at : MethodName := ⟨RL, "at", "(LPieceText;I[J)I"⟩
abbrev cL_undo : ByteArray := method_7_code
def yL_undo : MethodName := ⟨RL, "undo", "(LPieceText;[J)I"⟩
abbrev cL_redo : ByteArray := method_8_code
def yL_redo : MethodName := ⟨RL, "redo", "(LPieceText;[J)I"⟩
abbrev cL_pattern : ByteArray := method_9_code
def yL_pattern : MethodName := ⟨RL, "pattern", "(LPieceText;I[J)I"⟩
abbrev cL_find : ByteArray := method_10_code
def yL_find : MethodName := ⟨RL, "find", "(LPieceText;I[J)I"⟩
abbrev cL_replace : ByteArray := method_11_code
def yL_replace : MethodName := ⟨RL, "replace", "(LPieceText;I[J)I"⟩
abbrev cL_word : ByteArray := method_12_code
def yL_word : MethodName := ⟨RL, "word", "(LPieceText;I[J)I"⟩
abbrev cL_poke : ByteArray := method_13_code
def yL_poke : MethodName := ⟨RL, "poke", "(LPieceText;II[J)I"⟩
abbrev cL_law : ByteArray := code
def yL_law : MethodName := ⟨RL, "law", "([I)Z"⟩
def wsX2_init : List Cond := .code yX2_init cX2_init 2 none :: ([.methodLink RX2 1 objectInit, .instanceMethod objectInit, .code objectInit ⟨#[0xb1]⟩ 1 none, .arrayClass .int, .fieldLink RX2 7 "PieceText$Row" "characters" "[I", .fieldLink RX2 13 "PieceText$Row" "length" "I"] ++ wsX20)
def wsX0_init : List Cond := .code yX0_init cX0_init 2 none :: ([.methodLink RX0 3 objectInit, .instanceMethod objectInit, .code objectInit ⟨#[0xb1]⟩ 1 none, .classLink RX0 11 RX2, .fieldLink RX0 13 "PieceText$History" "texts" "[LPieceText$Row;", .instantiable RX2 2, .initialized RX2, .fieldLink RX0 20 "PieceText$History" "now" "I", .fieldLink RX0 24 "PieceText$History" "past" "I", .fieldLink RX0 27 "PieceText$History" "future" "I", .methodLink RX0 17 yX2_init, .instanceMethod yX2_init, .code yX2_init cX2_init 2 none, .methodLink RX2 1 objectInit, .arrayClass .int, .fieldLink RX2 7 "PieceText$Row" "characters" "[I", .fieldLink RX2 13 "PieceText$Row" "length" "I"] ++ wsX00 ++ wsX20)
def wsX0_present : List Cond := .code yX0_present cX0_present 1 (some (.object "PieceText$Row")) :: ([.fieldLink RX0 13 "PieceText$History" "texts" "[LPieceText$Row;", .fieldLink RX0 20 "PieceText$History" "now" "I"] ++ wsX00)
def wsX0_pastSize : List Cond := .code yX0_pastSize cX0_pastSize 1 (some .int) :: ([.fieldLink RX0 24 "PieceText$History" "past" "I"] ++ wsX00)
def wsX0_futureSize : List Cond := .code yX0_futureSize cX0_futureSize 1 (some .int) :: ([.fieldLink RX0 27 "PieceText$History" "future" "I"] ++ wsX00)
def wsX2_empty : List Cond := .code yX2_empty cX2_empty 1 none :: ([.fieldLink RX2 13 "PieceText$Row" "length" "I"] ++ wsX20)
def wsX2_size : List Cond := .code yX2_size cX2_size 1 (some .int) :: ([.fieldLink RX2 13 "PieceText$Row" "length" "I"] ++ wsX20)
def wsX2_addPart : List Cond := .code yX2_addPart cX2_addPart 4 none :: ([.fieldLink RX2 7 "PieceText$Row" "characters" "[I", .fieldLink RX2 13 "PieceText$Row" "length" "I", .methodLink RX2 17 arraycopyName, .native arraycopyName, .static arraycopyName, .initialized "java/lang/System"] ++ wsX20)
def wsX0_keep_r1 : List Cond := [Cond.fieldLink RX0 20 "PieceText$History" "now" "I", Cond.fieldLink RX0 13 "PieceText$History" "texts" "[LPieceText$Row;", Cond.fieldLink RX0 24 "PieceText$History" "past" "I", Cond.methodLink RX0 41 Lib.Math.min.name, Cond.static Lib.Math.min.name, Cond.initialized "java/lang/Math", Cond.code Lib.Math.min.name Lib.Math.min.code 2 (some .int), Cond.fieldLink RX0 27 "PieceText$History" "future" "I", Cond.methodLink RX0 30 yX2_empty, Cond.instanceMethod yX2_empty, Cond.selects RX2 yX2_empty yX2_empty, Cond.initialized RX2, Cond.code yX2_empty cX2_empty 1 none, Cond.fieldLink RX2 13 "PieceText$Row" "length" "I", Cond.methodLink RX0 33 yX2_size, Cond.instanceMethod yX2_size, Cond.selects RX2 yX2_size yX2_size, Cond.code yX2_size cX2_size 1 (some .int), Cond.methodLink RX0 37 yX2_addPart, Cond.instanceMethod yX2_addPart, Cond.selects RX2 yX2_addPart yX2_addPart, Cond.code yX2_addPart cX2_addPart 4 none, Cond.fieldLink RX2 7 "PieceText$Row" "characters" "[I", Cond.methodLink RX2 17 arraycopyName]
def wsX0_keep_r2 : List Cond := [Cond.native arraycopyName, Cond.static arraycopyName, Cond.initialized "java/lang/System"]
def wsX0_keep : List Cond := .code yX0_keep cX0_keep 2 none :: ((wsX0_keep_r1 ++ wsX0_keep_r2) ++ wsX00 ++ wsX20)
def wsX0_stepBack : List Cond := .code yX0_stepBack cX0_stepBack 1 none :: ([.fieldLink RX0 20 "PieceText$History" "now" "I", .fieldLink RX0 24 "PieceText$History" "past" "I", .fieldLink RX0 27 "PieceText$History" "future" "I"] ++ wsX00)
def wsX0_stepOn : List Cond := .code yX0_stepOn cX0_stepOn 1 none :: ([.fieldLink RX0 20 "PieceText$History" "now" "I", .fieldLink RX0 24 "PieceText$History" "past" "I", .fieldLink RX0 27 "PieceText$History" "future" "I"] ++ wsX00)
def wsX0_forget : List Cond := .code yX0_forget cX0_forget 1 none :: ([.fieldLink RX0 13 "PieceText$History" "texts" "[LPieceText$Row;", .fieldLink RX0 20 "PieceText$History" "now" "I", .fieldLink RX0 24 "PieceText$History" "past" "I", .fieldLink RX0 27 "PieceText$History" "future" "I", .methodLink RX0 30 yX2_empty, .instanceMethod yX2_empty, .selects RX2 yX2_empty yX2_empty, .initialized RX2, .code yX2_empty cX2_empty 1 none, .fieldLink RX2 13 "PieceText$Row" "length" "I"] ++ wsX00 ++ wsX20)
def wsX1_init : List Cond := .code yX1_init cX1_init 1 none :: ([.methodLink RX1 3 objectInit, .instanceMethod objectInit, .code objectInit ⟨#[0xb1]⟩ 1 none, .arrayClass .int, .fieldLink RX1 9 "PieceText$Phrases" "words" "[I", .fieldLink RX1 15 "PieceText$Phrases" "starts" "[I", .fieldLink RX1 18 "PieceText$Phrases" "count" "I"] ++ wsX10)
def wsX1_size : List Cond := .code yX1_size cX1_size 1 (some .int) :: ([.fieldLink RX1 18 "PieceText$Phrases" "count" "I"] ++ wsX10)
def wsX1_get : List Cond := .code yX1_get cX1_get 2 (some .int) :: ([.fieldLink RX1 9 "PieceText$Phrases" "words" "[I"] ++ wsX10)
def wsX1_set : List Cond := .code yX1_set cX1_set 3 none :: ([.fieldLink RX1 9 "PieceText$Phrases" "words" "[I"] ++ wsX10)
def wsX1_forget : List Cond := .code yX1_forget cX1_forget 1 none :: ([.fieldLink RX1 18 "PieceText$Phrases" "count" "I"] ++ wsX10)
def wsX2_get : List Cond := .code yX2_get cX2_get 2 (some .int) :: ([.fieldLink RX2 7 "PieceText$Row" "characters" "[I"] ++ wsX20)
def wsX1_numberOf : List Cond := .code yX1_numberOf cX1_numberOf 4 (some .int) :: ([.fieldLink RX1 18 "PieceText$Phrases" "count" "I", .fieldLink RX1 9 "PieceText$Phrases" "words" "[I"] ++ wsX10)
def wsX1_addWord : List Cond := .code yX1_addWord cX1_addWord 2 none :: ([.fieldLink RX1 9 "PieceText$Phrases" "words" "[I", .fieldLink RX1 18 "PieceText$Phrases" "count" "I"] ++ wsX10)
def wsX1_writeDown : List Cond := .code yX1_writeDown cX1_writeDown 6 none :: ([.fieldLink RX1 18 "PieceText$Phrases" "count" "I", .methodLink RX1 22 yX2_size, .instanceMethod yX2_size, .selects RX2 yX2_size yX2_size, .initialized RX2, .code yX2_size cX2_size 1 (some .int), .fieldLink RX2 13 "PieceText$Row" "length" "I", .methodLink RX1 28 yX2_get, .instanceMethod yX2_get, .selects RX2 yX2_get yX2_get, .code yX2_get cX2_get 2 (some .int), .fieldLink RX2 7 "PieceText$Row" "characters" "[I", .methodLink RX1 32 yX1_numberOf, .instanceMethod yX1_numberOf, .selects RX1 yX1_numberOf yX1_numberOf, .initialized RX1, .code yX1_numberOf cX1_numberOf 4 (some .int), .fieldLink RX1 9 "PieceText$Phrases" "words" "[I", .methodLink RX1 36 yX1_addWord, .instanceMethod yX1_addWord, .selects RX1 yX1_addWord yX1_addWord, .code yX1_addWord cX1_addWord 2 none] ++ wsX10 ++ wsX20)
def wsX1_isPhrase : List Cond := .code yX1_isPhrase cX1_isPhrase 3 (some .boolean) :: ([.fieldLink RX1 9 "PieceText$Phrases" "words" "[I", .fieldLink RX1 18 "PieceText$Phrases" "count" "I"] ++ wsX10)
def wsX1_lengthOf : List Cond := .code yX1_lengthOf cX1_lengthOf 4 (some .int) :: ([.fieldLink RX1 15 "PieceText$Phrases" "starts" "[I"] ++ wsX10)
def wsX2_add : List Cond := .code yX2_add cX2_add 2 none :: ([.fieldLink RX2 7 "PieceText$Row" "characters" "[I", .fieldLink RX2 13 "PieceText$Row" "length" "I"] ++ wsX20)
def wsX1_addPhrase : List Cond := .code yX1_addPhrase cX1_addPhrase 4 none :: ([.fieldLink RX1 15 "PieceText$Phrases" "starts" "[I", .methodLink RX1 54 yX2_addPart, .instanceMethod yX2_addPart, .selects RX2 yX2_addPart yX2_addPart, .initialized RX2, .code yX2_addPart cX2_addPart 4 none, .fieldLink RX2 7 "PieceText$Row" "characters" "[I", .fieldLink RX2 13 "PieceText$Row" "length" "I", .methodLink RX2 17 arraycopyName, .native arraycopyName, .static arraycopyName, .initialized "java/lang/System", .methodLink RX1 58 yX2_add, .instanceMethod yX2_add, .selects RX2 yX2_add yX2_add, .code yX2_add cX2_add 2 none] ++ wsX10 ++ wsX20)
def wsX1_readInto_r1 : List Cond := [Cond.fieldLink RX1 15 "PieceText$Phrases" "starts" "[I", Cond.fieldLink RX1 18 "PieceText$Phrases" "count" "I", Cond.fieldLink RX1 9 "PieceText$Phrases" "words" "[I", Cond.methodLink RX1 40 yX2_empty, Cond.instanceMethod yX2_empty, Cond.selects RX2 yX2_empty yX2_empty, Cond.initialized RX2, Cond.code yX2_empty cX2_empty 1 none, Cond.fieldLink RX2 13 "PieceText$Row" "length" "I", Cond.methodLink RX1 43 yX1_isPhrase, Cond.instanceMethod yX1_isPhrase, Cond.selects RX1 yX1_isPhrase yX1_isPhrase, Cond.initialized RX1, Cond.code yX1_isPhrase cX1_isPhrase 3 (some .boolean), Cond.methodLink RX1 47 yX1_lengthOf, Cond.instanceMethod yX1_lengthOf, Cond.selects RX1 yX1_lengthOf yX1_lengthOf, Cond.code yX1_lengthOf cX1_lengthOf 4 (some .int), Cond.methodLink RX1 22 yX2_size, Cond.instanceMethod yX2_size, Cond.selects RX2 yX2_size yX2_size, Cond.code yX2_size cX2_size 1 (some .int), Cond.methodLink RX1 50 yX1_addPhrase, Cond.instanceMethod yX1_addPhrase]
def wsX1_readInto_r2 : List Cond := [Cond.selects RX1 yX1_addPhrase yX1_addPhrase, Cond.code yX1_addPhrase cX1_addPhrase 4 none, Cond.methodLink RX1 54 yX2_addPart, Cond.instanceMethod yX2_addPart, Cond.selects RX2 yX2_addPart yX2_addPart, Cond.code yX2_addPart cX2_addPart 4 none, Cond.fieldLink RX2 7 "PieceText$Row" "characters" "[I", Cond.methodLink RX2 17 arraycopyName, Cond.native arraycopyName, Cond.static arraycopyName, Cond.initialized "java/lang/System", Cond.methodLink RX1 58 yX2_add, Cond.instanceMethod yX2_add, Cond.selects RX2 yX2_add yX2_add, Cond.code yX2_add cX2_add 2 none]
def wsX1_readInto : List Cond := .code yX1_readInto cX1_readInto 3 (some .int) :: ((wsX1_readInto_r1 ++ wsX1_readInto_r2) ++ wsX10 ++ wsX20)
def wsX2_hasAt : List Cond := .code yX2_hasAt cX2_hasAt 4 (some .boolean) :: ([.fieldLink RX2 13 "PieceText$Row" "length" "I", .fieldLink RX2 7 "PieceText$Row" "characters" "[I"] ++ wsX20)
def wsX3_init_r1 : List Cond := [Cond.methodLink RX3 1 objectInit, Cond.instanceMethod objectInit, Cond.code objectInit ⟨#[0xb1]⟩ 1 none, Cond.classLink RX3 7 RX0, Cond.instantiable RX0 4, Cond.initialized RX0, Cond.fieldLink RX3 10 "PieceText" "history" "LPieceText$History;", Cond.classLink RX3 16 RX2, Cond.instantiable RX2 2, Cond.initialized RX2, Cond.fieldLink RX3 21 "PieceText" "sought" "LPieceText$Row;", Cond.classLink RX3 25 RX1, Cond.instantiable RX1 3, Cond.initialized RX1, Cond.fieldLink RX3 28 "PieceText" "written" "LPieceText$Phrases;", Cond.fieldLink RX3 32 "PieceText" "draft" "LPieceText$Row;", Cond.arrayClass .int, Cond.fieldLink RX3 35 "PieceText" "seen" "[I", Cond.methodLink RX3 9 yX0_init, Cond.instanceMethod yX0_init, Cond.code yX0_init cX0_init 2 none, Cond.methodLink RX0 3 objectInit, Cond.classLink RX0 11 RX2, Cond.fieldLink RX0 13 "PieceText$History" "texts" "[LPieceText$Row;"]
def wsX3_init_r2 : List Cond := [Cond.fieldLink RX0 20 "PieceText$History" "now" "I", Cond.fieldLink RX0 24 "PieceText$History" "past" "I", Cond.fieldLink RX0 27 "PieceText$History" "future" "I", Cond.methodLink RX0 17 yX2_init, Cond.instanceMethod yX2_init, Cond.code yX2_init cX2_init 2 none, Cond.methodLink RX2 1 objectInit, Cond.fieldLink RX2 7 "PieceText$Row" "characters" "[I", Cond.fieldLink RX2 13 "PieceText$Row" "length" "I", Cond.methodLink RX3 18 yX2_init, Cond.methodLink RX3 27 yX1_init, Cond.instanceMethod yX1_init, Cond.code yX1_init cX1_init 1 none, Cond.methodLink RX1 3 objectInit, Cond.fieldLink RX1 9 "PieceText$Phrases" "words" "[I", Cond.fieldLink RX1 15 "PieceText$Phrases" "starts" "[I", Cond.fieldLink RX1 18 "PieceText$Phrases" "count" "I"]
def wsX3_init : List Cond := .code yX3_init cX3_init 1 none :: ((wsX3_init_r1 ++ wsX3_init_r2) ++ wsX00 ++ wsX30 ++ wsX20 ++ wsX10)
def wsX3_refuseNoPlace : List Cond := .code yX3_refuseNoPlace cX3_refuseNoPlace 2 none :: ([.classLink RX3 74 "java/lang/IndexOutOfBoundsException", .initialized "java/lang/IndexOutOfBoundsException", .methodLink RX3 63 yX2_size, .instanceMethod yX2_size, .selects RX2 yX2_size yX2_size, .initialized RX2, .code yX2_size cX2_size 1 (some .int), .fieldLink RX2 13 "PieceText$Row" "length" "I"] ++ wsX20 ++ (vx_atS RX3 78 "java/lang/IndexOutOfBoundsException" ["java/lang/RuntimeException", "java/lang/Exception"]).filter goodWord)
def wsX3_refuseNoCharacter : List Cond := .code yX3_refuseNoCharacter cX3_refuseNoCharacter 1 none :: ([.classLink RX3 153 "java/lang/IllegalArgumentException", .initialized "java/lang/IllegalArgumentException"] ++ (vx_atS RX3 157 "java/lang/IllegalArgumentException" ["java/lang/RuntimeException", "java/lang/Exception"]).filter goodWord)
def wsX3_refuseTooLong : List Cond := .code yX3_refuseTooLong cX3_refuseTooLong 2 none :: ([.classLink RX3 104 "java/lang/UnsupportedOperationException", .initialized "java/lang/UnsupportedOperationException", .methodLink RX3 63 yX2_size, .instanceMethod yX2_size, .selects RX2 yX2_size yX2_size, .initialized RX2, .code yX2_size cX2_size 1 (some .int), .fieldLink RX2 13 "PieceText$Row" "length" "I"] ++ wsX20 ++ (vx_atS RX3 108 "java/lang/UnsupportedOperationException" ["java/lang/RuntimeException", "java/lang/Exception"]).filter goodWord)
def wsX3_keepDraft_r1 : List Cond := [Cond.fieldLink RX3 10 "PieceText" "history" "LPieceText$History;", Cond.fieldLink RX3 32 "PieceText" "draft" "LPieceText$Row;", Cond.methodLink RX3 142 yX0_keep, Cond.instanceMethod yX0_keep, Cond.selects RX0 yX0_keep yX0_keep, Cond.initialized RX0, Cond.code yX0_keep cX0_keep 2 none, Cond.fieldLink RX0 20 "PieceText$History" "now" "I", Cond.fieldLink RX0 13 "PieceText$History" "texts" "[LPieceText$Row;", Cond.fieldLink RX0 24 "PieceText$History" "past" "I", Cond.methodLink RX0 41 Lib.Math.min.name, Cond.static Lib.Math.min.name, Cond.initialized "java/lang/Math", Cond.code Lib.Math.min.name Lib.Math.min.code 2 (some .int), Cond.fieldLink RX0 27 "PieceText$History" "future" "I", Cond.methodLink RX0 30 yX2_empty, Cond.instanceMethod yX2_empty, Cond.selects RX2 yX2_empty yX2_empty, Cond.initialized RX2, Cond.code yX2_empty cX2_empty 1 none, Cond.fieldLink RX2 13 "PieceText$Row" "length" "I", Cond.methodLink RX0 33 yX2_size, Cond.instanceMethod yX2_size, Cond.selects RX2 yX2_size yX2_size]
def wsX3_keepDraft_r2 : List Cond := [Cond.code yX2_size cX2_size 1 (some .int), Cond.methodLink RX0 37 yX2_addPart, Cond.instanceMethod yX2_addPart, Cond.selects RX2 yX2_addPart yX2_addPart, Cond.code yX2_addPart cX2_addPart 4 none, Cond.fieldLink RX2 7 "PieceText$Row" "characters" "[I", Cond.methodLink RX2 17 arraycopyName, Cond.native arraycopyName, Cond.static arraycopyName, Cond.initialized "java/lang/System", Cond.methodLink RX3 63 yX2_size]
def wsX3_keepDraft : List Cond := .code yX3_keepDraft cX3_keepDraft 1 (some .int) :: ((wsX3_keepDraft_r1 ++ wsX3_keepDraft_r2) ++ wsX30 ++ wsX00 ++ wsX20)
def wsX3_insert_r1 : List Cond := [Cond.fieldLink RX3 10 "PieceText" "history" "LPieceText$History;", Cond.fieldLink RX3 32 "PieceText" "draft" "LPieceText$Row;", Cond.methodLink RX3 39 yX0_present, Cond.instanceMethod yX0_present, Cond.selects RX0 yX0_present yX0_present, Cond.initialized RX0, Cond.code yX0_present cX0_present 1 (some (.object "PieceText$Row")), Cond.fieldLink RX0 13 "PieceText$History" "texts" "[LPieceText$Row;", Cond.fieldLink RX0 20 "PieceText$History" "now" "I", Cond.methodLink RX3 43 yX3_refuseNoPlace, Cond.static yX3_refuseNoPlace, Cond.initialized RX3, Cond.code yX3_refuseNoPlace cX3_refuseNoPlace 2 none, Cond.classLink RX3 74 "java/lang/IndexOutOfBoundsException", Cond.initialized "java/lang/IndexOutOfBoundsException", Cond.methodLink RX3 63 yX2_size, Cond.instanceMethod yX2_size, Cond.selects RX2 yX2_size yX2_size, Cond.initialized RX2, Cond.code yX2_size cX2_size 1 (some .int), Cond.fieldLink RX2 13 "PieceText$Row" "length" "I", Cond.methodLink RX3 47 yX3_refuseNoCharacter, Cond.static yX3_refuseNoCharacter, Cond.code yX3_refuseNoCharacter cX3_refuseNoCharacter 1 none]
def wsX3_insert_r2 : List Cond := [Cond.classLink RX3 153 "java/lang/IllegalArgumentException", Cond.initialized "java/lang/IllegalArgumentException", Cond.methodLink RX3 50 yX3_refuseTooLong, Cond.static yX3_refuseTooLong, Cond.code yX3_refuseTooLong cX3_refuseTooLong 2 none, Cond.classLink RX3 104 "java/lang/UnsupportedOperationException", Cond.initialized "java/lang/UnsupportedOperationException", Cond.methodLink RX3 53 yX2_empty, Cond.instanceMethod yX2_empty, Cond.selects RX2 yX2_empty yX2_empty, Cond.code yX2_empty cX2_empty 1 none, Cond.methodLink RX3 56 yX2_addPart, Cond.instanceMethod yX2_addPart, Cond.selects RX2 yX2_addPart yX2_addPart, Cond.code yX2_addPart cX2_addPart 4 none, Cond.fieldLink RX2 7 "PieceText$Row" "characters" "[I", Cond.methodLink RX2 17 arraycopyName, Cond.native arraycopyName, Cond.static arraycopyName, Cond.initialized "java/lang/System", Cond.methodLink RX3 60 yX2_add, Cond.instanceMethod yX2_add, Cond.selects RX2 yX2_add yX2_add, Cond.code yX2_add cX2_add 2 none]
def wsX3_insert_r3 : List Cond := [Cond.methodLink RX3 67 yX3_keepDraft, Cond.instanceMethod yX3_keepDraft, Cond.selects RX3 yX3_keepDraft yX3_keepDraft, Cond.code yX3_keepDraft cX3_keepDraft 1 (some .int), Cond.methodLink RX3 142 yX0_keep, Cond.instanceMethod yX0_keep, Cond.selects RX0 yX0_keep yX0_keep, Cond.code yX0_keep cX0_keep 2 none, Cond.fieldLink RX0 24 "PieceText$History" "past" "I", Cond.methodLink RX0 41 Lib.Math.min.name, Cond.static Lib.Math.min.name, Cond.initialized "java/lang/Math", Cond.code Lib.Math.min.name Lib.Math.min.code 2 (some .int), Cond.fieldLink RX0 27 "PieceText$History" "future" "I", Cond.methodLink RX0 30 yX2_empty, Cond.methodLink RX0 33 yX2_size, Cond.methodLink RX0 37 yX2_addPart]
def wsX3_insert : List Cond := .code yX3_insert cX3_insert 4 (some .int) :: ((wsX3_insert_r1 ++ (wsX3_insert_r2 ++ wsX3_insert_r3)) ++ wsX30 ++ wsX00 ++ wsX20 ++ (vx_atS RX3 78 "java/lang/IndexOutOfBoundsException" ["java/lang/RuntimeException", "java/lang/Exception"]).filter goodWord ++ (vx_atS RX3 157 "java/lang/IllegalArgumentException" ["java/lang/RuntimeException", "java/lang/Exception"]).filter goodWord ++ (vx_atS RX3 108 "java/lang/UnsupportedOperationException" ["java/lang/RuntimeException", "java/lang/Exception"]).filter goodWord)
def wsX3_refuseNoPart : List Cond := .code yX3_refuseNoPart cX3_refuseNoPart 3 none :: ([.classLink RX3 153 "java/lang/IllegalArgumentException", .initialized "java/lang/IllegalArgumentException", .methodLink RX3 63 yX2_size, .instanceMethod yX2_size, .selects RX2 yX2_size yX2_size, .initialized RX2, .code yX2_size cX2_size 1 (some .int), .fieldLink RX2 13 "PieceText$Row" "length" "I"] ++ wsX20 ++ (vx_atS RX3 157 "java/lang/IllegalArgumentException" ["java/lang/RuntimeException", "java/lang/Exception"]).filter goodWord)
def wsX3_delete_r1 : List Cond := [Cond.fieldLink RX3 10 "PieceText" "history" "LPieceText$History;", Cond.fieldLink RX3 32 "PieceText" "draft" "LPieceText$Row;", Cond.methodLink RX3 39 yX0_present, Cond.instanceMethod yX0_present, Cond.selects RX0 yX0_present yX0_present, Cond.initialized RX0, Cond.code yX0_present cX0_present 1 (some (.object "PieceText$Row")), Cond.fieldLink RX0 13 "PieceText$History" "texts" "[LPieceText$Row;", Cond.fieldLink RX0 20 "PieceText$History" "now" "I", Cond.methodLink RX3 43 yX3_refuseNoPlace, Cond.static yX3_refuseNoPlace, Cond.initialized RX3, Cond.code yX3_refuseNoPlace cX3_refuseNoPlace 2 none, Cond.classLink RX3 74 "java/lang/IndexOutOfBoundsException", Cond.initialized "java/lang/IndexOutOfBoundsException", Cond.methodLink RX3 63 yX2_size, Cond.instanceMethod yX2_size, Cond.selects RX2 yX2_size yX2_size, Cond.initialized RX2, Cond.code yX2_size cX2_size 1 (some .int), Cond.fieldLink RX2 13 "PieceText$Row" "length" "I", Cond.methodLink RX3 70 yX3_refuseNoPart, Cond.static yX3_refuseNoPart, Cond.code yX3_refuseNoPart cX3_refuseNoPart 3 none]
def wsX3_delete_r2 : List Cond := [Cond.classLink RX3 153 "java/lang/IllegalArgumentException", Cond.initialized "java/lang/IllegalArgumentException", Cond.methodLink RX3 53 yX2_empty, Cond.instanceMethod yX2_empty, Cond.selects RX2 yX2_empty yX2_empty, Cond.code yX2_empty cX2_empty 1 none, Cond.methodLink RX3 56 yX2_addPart, Cond.instanceMethod yX2_addPart, Cond.selects RX2 yX2_addPart yX2_addPart, Cond.code yX2_addPart cX2_addPart 4 none, Cond.fieldLink RX2 7 "PieceText$Row" "characters" "[I", Cond.methodLink RX2 17 arraycopyName, Cond.native arraycopyName, Cond.static arraycopyName, Cond.initialized "java/lang/System", Cond.methodLink RX3 67 yX3_keepDraft, Cond.instanceMethod yX3_keepDraft, Cond.selects RX3 yX3_keepDraft yX3_keepDraft, Cond.code yX3_keepDraft cX3_keepDraft 1 (some .int), Cond.methodLink RX3 142 yX0_keep, Cond.instanceMethod yX0_keep, Cond.selects RX0 yX0_keep yX0_keep, Cond.code yX0_keep cX0_keep 2 none, Cond.fieldLink RX0 24 "PieceText$History" "past" "I"]
def wsX3_delete_r3 : List Cond := [Cond.methodLink RX0 41 Lib.Math.min.name, Cond.static Lib.Math.min.name, Cond.initialized "java/lang/Math", Cond.code Lib.Math.min.name Lib.Math.min.code 2 (some .int), Cond.fieldLink RX0 27 "PieceText$History" "future" "I", Cond.methodLink RX0 30 yX2_empty, Cond.methodLink RX0 33 yX2_size, Cond.methodLink RX0 37 yX2_addPart]
def wsX3_delete : List Cond := .code yX3_delete cX3_delete 4 (some .int) :: ((wsX3_delete_r1 ++ (wsX3_delete_r2 ++ wsX3_delete_r3)) ++ wsX30 ++ wsX00 ++ wsX20 ++ (vx_atS RX3 78 "java/lang/IndexOutOfBoundsException" ["java/lang/RuntimeException", "java/lang/Exception"]).filter goodWord ++ (vx_atS RX3 157 "java/lang/IllegalArgumentException" ["java/lang/RuntimeException", "java/lang/Exception"]).filter goodWord)
def wsX3_copy_r1 : List Cond := [Cond.fieldLink RX3 10 "PieceText" "history" "LPieceText$History;", Cond.fieldLink RX3 32 "PieceText" "draft" "LPieceText$Row;", Cond.methodLink RX3 39 yX0_present, Cond.instanceMethod yX0_present, Cond.selects RX0 yX0_present yX0_present, Cond.initialized RX0, Cond.code yX0_present cX0_present 1 (some (.object "PieceText$Row")), Cond.fieldLink RX0 13 "PieceText$History" "texts" "[LPieceText$Row;", Cond.fieldLink RX0 20 "PieceText$History" "now" "I", Cond.methodLink RX3 43 yX3_refuseNoPlace, Cond.static yX3_refuseNoPlace, Cond.initialized RX3, Cond.code yX3_refuseNoPlace cX3_refuseNoPlace 2 none, Cond.classLink RX3 74 "java/lang/IndexOutOfBoundsException", Cond.initialized "java/lang/IndexOutOfBoundsException", Cond.methodLink RX3 63 yX2_size, Cond.instanceMethod yX2_size, Cond.selects RX2 yX2_size yX2_size, Cond.initialized RX2, Cond.code yX2_size cX2_size 1 (some .int), Cond.fieldLink RX2 13 "PieceText$Row" "length" "I", Cond.methodLink RX3 70 yX3_refuseNoPart, Cond.static yX3_refuseNoPart, Cond.code yX3_refuseNoPart cX3_refuseNoPart 3 none]
def wsX3_copy_r2 : List Cond := [Cond.classLink RX3 153 "java/lang/IllegalArgumentException", Cond.initialized "java/lang/IllegalArgumentException", Cond.methodLink RX3 50 yX3_refuseTooLong, Cond.static yX3_refuseTooLong, Cond.code yX3_refuseTooLong cX3_refuseTooLong 2 none, Cond.classLink RX3 104 "java/lang/UnsupportedOperationException", Cond.initialized "java/lang/UnsupportedOperationException", Cond.methodLink RX3 53 yX2_empty, Cond.instanceMethod yX2_empty, Cond.selects RX2 yX2_empty yX2_empty, Cond.code yX2_empty cX2_empty 1 none, Cond.methodLink RX3 56 yX2_addPart, Cond.instanceMethod yX2_addPart, Cond.selects RX2 yX2_addPart yX2_addPart, Cond.code yX2_addPart cX2_addPart 4 none, Cond.fieldLink RX2 7 "PieceText$Row" "characters" "[I", Cond.methodLink RX2 17 arraycopyName, Cond.native arraycopyName, Cond.static arraycopyName, Cond.initialized "java/lang/System", Cond.methodLink RX3 67 yX3_keepDraft, Cond.instanceMethod yX3_keepDraft, Cond.selects RX3 yX3_keepDraft yX3_keepDraft, Cond.code yX3_keepDraft cX3_keepDraft 1 (some .int)]
def wsX3_copy_r3 : List Cond := [Cond.methodLink RX3 142 yX0_keep, Cond.instanceMethod yX0_keep, Cond.selects RX0 yX0_keep yX0_keep, Cond.code yX0_keep cX0_keep 2 none, Cond.fieldLink RX0 24 "PieceText$History" "past" "I", Cond.methodLink RX0 41 Lib.Math.min.name, Cond.static Lib.Math.min.name, Cond.initialized "java/lang/Math", Cond.code Lib.Math.min.name Lib.Math.min.code 2 (some .int), Cond.fieldLink RX0 27 "PieceText$History" "future" "I", Cond.methodLink RX0 30 yX2_empty, Cond.methodLink RX0 33 yX2_size, Cond.methodLink RX0 37 yX2_addPart]
def wsX3_copy : List Cond := .code yX3_copy cX3_copy 5 (some .int) :: ((wsX3_copy_r1 ++ (wsX3_copy_r2 ++ wsX3_copy_r3)) ++ wsX30 ++ wsX00 ++ wsX20 ++ (vx_atS RX3 78 "java/lang/IndexOutOfBoundsException" ["java/lang/RuntimeException", "java/lang/Exception"]).filter goodWord ++ (vx_atS RX3 157 "java/lang/IllegalArgumentException" ["java/lang/RuntimeException", "java/lang/Exception"]).filter goodWord ++ (vx_atS RX3 108 "java/lang/UnsupportedOperationException" ["java/lang/RuntimeException", "java/lang/Exception"]).filter goodWord)
def wsX3_at : List Cond := .code yX3_at cX3_at 3 (some .int) :: ([.classLink RX3 74 "java/lang/IndexOutOfBoundsException", .initialized "java/lang/IndexOutOfBoundsException", .fieldLink RX3 10 "PieceText" "history" "LPieceText$History;", .methodLink RX3 39 yX0_present, .instanceMethod yX0_present, .selects RX0 yX0_present yX0_present, .initialized RX0, .code yX0_present cX0_present 1 (some (.object "PieceText$Row")), .fieldLink RX0 13 "PieceText$History" "texts" "[LPieceText$Row;", .fieldLink RX0 20 "PieceText$History" "now" "I", .methodLink RX3 63 yX2_size, .instanceMethod yX2_size, .selects RX2 yX2_size yX2_size, .initialized RX2, .code yX2_size cX2_size 1 (some .int), .fieldLink RX2 13 "PieceText$Row" "length" "I", .methodLink RX3 81 yX2_get, .instanceMethod yX2_get, .selects RX2 yX2_get yX2_get, .code yX2_get cX2_get 2 (some .int), .fieldLink RX2 7 "PieceText$Row" "characters" "[I"] ++ wsX30 ++ wsX00 ++ wsX20 ++ (vx_atS RX3 78 "java/lang/IndexOutOfBoundsException" ["java/lang/RuntimeException", "java/lang/Exception"]).filter goodWord)
def wsX3_undo_r1 : List Cond := [Cond.classLink RX3 88 "java/lang/IllegalStateException", Cond.initialized "java/lang/IllegalStateException", Cond.fieldLink RX3 10 "PieceText" "history" "LPieceText$History;", Cond.methodLink RX3 85 yX0_pastSize, Cond.instanceMethod yX0_pastSize, Cond.selects RX0 yX0_pastSize yX0_pastSize, Cond.initialized RX0, Cond.code yX0_pastSize cX0_pastSize 1 (some .int), Cond.fieldLink RX0 24 "PieceText$History" "past" "I", Cond.methodLink RX3 93 yX0_stepBack, Cond.instanceMethod yX0_stepBack, Cond.selects RX0 yX0_stepBack yX0_stepBack, Cond.code yX0_stepBack cX0_stepBack 1 none, Cond.fieldLink RX0 20 "PieceText$History" "now" "I", Cond.fieldLink RX0 27 "PieceText$History" "future" "I", Cond.methodLink RX3 39 yX0_present, Cond.instanceMethod yX0_present, Cond.selects RX0 yX0_present yX0_present, Cond.code yX0_present cX0_present 1 (some (.object "PieceText$Row")), Cond.fieldLink RX0 13 "PieceText$History" "texts" "[LPieceText$Row;", Cond.methodLink RX3 63 yX2_size, Cond.instanceMethod yX2_size, Cond.selects RX2 yX2_size yX2_size, Cond.initialized RX2]
def wsX3_undo_r2 : List Cond := [Cond.code yX2_size cX2_size 1 (some .int), Cond.fieldLink RX2 13 "PieceText$Row" "length" "I"]
def wsX3_undo : List Cond := .code yX3_undo cX3_undo 1 (some .int) :: ((wsX3_undo_r1 ++ wsX3_undo_r2) ++ wsX30 ++ wsX00 ++ wsX20 ++ (vx_atS RX3 92 "java/lang/IllegalStateException" ["java/lang/RuntimeException", "java/lang/Exception"]).filter goodWord)
def wsX3_redo_r1 : List Cond := [Cond.classLink RX3 88 "java/lang/IllegalStateException", Cond.initialized "java/lang/IllegalStateException", Cond.fieldLink RX3 10 "PieceText" "history" "LPieceText$History;", Cond.methodLink RX3 96 yX0_futureSize, Cond.instanceMethod yX0_futureSize, Cond.selects RX0 yX0_futureSize yX0_futureSize, Cond.initialized RX0, Cond.code yX0_futureSize cX0_futureSize 1 (some .int), Cond.fieldLink RX0 27 "PieceText$History" "future" "I", Cond.methodLink RX3 101 yX0_stepOn, Cond.instanceMethod yX0_stepOn, Cond.selects RX0 yX0_stepOn yX0_stepOn, Cond.code yX0_stepOn cX0_stepOn 1 none, Cond.fieldLink RX0 20 "PieceText$History" "now" "I", Cond.fieldLink RX0 24 "PieceText$History" "past" "I", Cond.methodLink RX3 39 yX0_present, Cond.instanceMethod yX0_present, Cond.selects RX0 yX0_present yX0_present, Cond.code yX0_present cX0_present 1 (some (.object "PieceText$Row")), Cond.fieldLink RX0 13 "PieceText$History" "texts" "[LPieceText$Row;", Cond.methodLink RX3 63 yX2_size, Cond.instanceMethod yX2_size, Cond.selects RX2 yX2_size yX2_size, Cond.initialized RX2]
def wsX3_redo_r2 : List Cond := [Cond.code yX2_size cX2_size 1 (some .int), Cond.fieldLink RX2 13 "PieceText$Row" "length" "I"]
def wsX3_redo : List Cond := .code yX3_redo cX3_redo 1 (some .int) :: ((wsX3_redo_r1 ++ wsX3_redo_r2) ++ wsX30 ++ wsX00 ++ wsX20 ++ (vx_atS RX3 92 "java/lang/IllegalStateException" ["java/lang/RuntimeException", "java/lang/Exception"]).filter goodWord)
def wsX3_pattern : List Cond := .code yX3_pattern cX3_pattern 2 (some .int) :: ([.classLink RX3 104 "java/lang/UnsupportedOperationException", .initialized "java/lang/UnsupportedOperationException", .fieldLink RX3 21 "PieceText" "sought" "LPieceText$Row;", .methodLink RX3 47 yX3_refuseNoCharacter, .static yX3_refuseNoCharacter, .initialized RX3, .code yX3_refuseNoCharacter cX3_refuseNoCharacter 1 none, .classLink RX3 153 "java/lang/IllegalArgumentException", .initialized "java/lang/IllegalArgumentException", .methodLink RX3 63 yX2_size, .instanceMethod yX2_size, .selects RX2 yX2_size yX2_size, .initialized RX2, .code yX2_size cX2_size 1 (some .int), .fieldLink RX2 13 "PieceText$Row" "length" "I", .methodLink RX3 60 yX2_add, .instanceMethod yX2_add, .selects RX2 yX2_add yX2_add, .code yX2_add cX2_add 2 none, .fieldLink RX2 7 "PieceText$Row" "characters" "[I"] ++ wsX30 ++ wsX20 ++ (vx_atS RX3 108 "java/lang/UnsupportedOperationException" ["java/lang/RuntimeException", "java/lang/Exception"]).filter goodWord ++ (vx_atS RX3 157 "java/lang/IllegalArgumentException" ["java/lang/RuntimeException", "java/lang/Exception"]).filter goodWord)
def wsX3_noPattern : List Cond := .code yX3_noPattern cX3_noPattern 2 (some .int) :: ([.fieldLink RX3 21 "PieceText" "sought" "LPieceText$Row;", .methodLink RX3 63 yX2_size, .instanceMethod yX2_size, .selects RX2 yX2_size yX2_size, .initialized RX2, .code yX2_size cX2_size 1 (some .int), .fieldLink RX2 13 "PieceText$Row" "length" "I", .methodLink RX3 53 yX2_empty, .instanceMethod yX2_empty, .selects RX2 yX2_empty yX2_empty, .code yX2_empty cX2_empty 1 none] ++ wsX30 ++ wsX20)
def wsX3_find_r1 : List Cond := [Cond.fieldLink RX3 10 "PieceText" "history" "LPieceText$History;", Cond.fieldLink RX3 21 "PieceText" "sought" "LPieceText$Row;", Cond.methodLink RX3 39 yX0_present, Cond.instanceMethod yX0_present, Cond.selects RX0 yX0_present yX0_present, Cond.initialized RX0, Cond.code yX0_present cX0_present 1 (some (.object "PieceText$Row")), Cond.fieldLink RX0 13 "PieceText$History" "texts" "[LPieceText$Row;", Cond.fieldLink RX0 20 "PieceText$History" "now" "I", Cond.methodLink RX3 43 yX3_refuseNoPlace, Cond.static yX3_refuseNoPlace, Cond.initialized RX3, Cond.code yX3_refuseNoPlace cX3_refuseNoPlace 2 none, Cond.classLink RX3 74 "java/lang/IndexOutOfBoundsException", Cond.initialized "java/lang/IndexOutOfBoundsException", Cond.methodLink RX3 63 yX2_size, Cond.instanceMethod yX2_size, Cond.selects RX2 yX2_size yX2_size, Cond.initialized RX2, Cond.code yX2_size cX2_size 1 (some .int), Cond.fieldLink RX2 13 "PieceText$Row" "length" "I", Cond.methodLink RX3 109 yX2_hasAt, Cond.instanceMethod yX2_hasAt, Cond.selects RX2 yX2_hasAt yX2_hasAt]
def wsX3_find_r2 : List Cond := [Cond.code yX2_hasAt cX2_hasAt 4 (some .boolean), Cond.fieldLink RX2 7 "PieceText$Row" "characters" "[I"]
def wsX3_find : List Cond := .code yX3_find cX3_find 4 (some .int) :: ((wsX3_find_r1 ++ wsX3_find_r2) ++ wsX30 ++ wsX00 ++ wsX20 ++ (vx_atS RX3 78 "java/lang/IndexOutOfBoundsException" ["java/lang/RuntimeException", "java/lang/Exception"]).filter goodWord)
def wsX3_draftReplaced_r1 : List Cond := [Cond.fieldLink RX3 10 "PieceText" "history" "LPieceText$History;", Cond.fieldLink RX3 32 "PieceText" "draft" "LPieceText$Row;", Cond.fieldLink RX3 21 "PieceText" "sought" "LPieceText$Row;", Cond.methodLink RX3 39 yX0_present, Cond.instanceMethod yX0_present, Cond.selects RX0 yX0_present yX0_present, Cond.initialized RX0, Cond.code yX0_present cX0_present 1 (some (.object "PieceText$Row")), Cond.fieldLink RX0 13 "PieceText$History" "texts" "[LPieceText$Row;", Cond.fieldLink RX0 20 "PieceText$History" "now" "I", Cond.methodLink RX3 53 yX2_empty, Cond.instanceMethod yX2_empty, Cond.selects RX2 yX2_empty yX2_empty, Cond.initialized RX2, Cond.code yX2_empty cX2_empty 1 none, Cond.fieldLink RX2 13 "PieceText$Row" "length" "I", Cond.methodLink RX3 63 yX2_size, Cond.instanceMethod yX2_size, Cond.selects RX2 yX2_size yX2_size, Cond.code yX2_size cX2_size 1 (some .int), Cond.methodLink RX3 109 yX2_hasAt, Cond.instanceMethod yX2_hasAt, Cond.selects RX2 yX2_hasAt yX2_hasAt, Cond.code yX2_hasAt cX2_hasAt 4 (some .boolean)]
def wsX3_draftReplaced_r2 : List Cond := [Cond.fieldLink RX2 7 "PieceText$Row" "characters" "[I", Cond.methodLink RX3 60 yX2_add, Cond.instanceMethod yX2_add, Cond.selects RX2 yX2_add yX2_add, Cond.code yX2_add cX2_add 2 none, Cond.methodLink RX3 81 yX2_get, Cond.instanceMethod yX2_get, Cond.selects RX2 yX2_get yX2_get, Cond.code yX2_get cX2_get 2 (some .int)]
def wsX3_draftReplaced : List Cond := .code yX3_draftReplaced cX3_draftReplaced 6 (some .int) :: ((wsX3_draftReplaced_r1 ++ wsX3_draftReplaced_r2) ++ wsX30 ++ wsX00 ++ wsX20)
def wsX3_replace_r1 : List Cond := [Cond.classLink RX3 88 "java/lang/IllegalStateException", Cond.initialized "java/lang/IllegalStateException", Cond.fieldLink RX3 21 "PieceText" "sought" "LPieceText$Row;", Cond.methodLink RX3 47 yX3_refuseNoCharacter, Cond.static yX3_refuseNoCharacter, Cond.initialized RX3, Cond.code yX3_refuseNoCharacter cX3_refuseNoCharacter 1 none, Cond.classLink RX3 153 "java/lang/IllegalArgumentException", Cond.initialized "java/lang/IllegalArgumentException", Cond.methodLink RX3 63 yX2_size, Cond.instanceMethod yX2_size, Cond.selects RX2 yX2_size yX2_size, Cond.initialized RX2, Cond.code yX2_size cX2_size 1 (some .int), Cond.fieldLink RX2 13 "PieceText$Row" "length" "I", Cond.methodLink RX3 115 yX3_draftReplaced, Cond.instanceMethod yX3_draftReplaced, Cond.selects RX3 yX3_draftReplaced yX3_draftReplaced, Cond.code yX3_draftReplaced cX3_draftReplaced 6 (some .int), Cond.fieldLink RX3 10 "PieceText" "history" "LPieceText$History;", Cond.fieldLink RX3 32 "PieceText" "draft" "LPieceText$Row;", Cond.methodLink RX3 39 yX0_present, Cond.instanceMethod yX0_present, Cond.selects RX0 yX0_present yX0_present]
def wsX3_replace_r2 : List Cond := [Cond.initialized RX0, Cond.code yX0_present cX0_present 1 (some (.object "PieceText$Row")), Cond.fieldLink RX0 13 "PieceText$History" "texts" "[LPieceText$Row;", Cond.fieldLink RX0 20 "PieceText$History" "now" "I", Cond.methodLink RX3 53 yX2_empty, Cond.instanceMethod yX2_empty, Cond.selects RX2 yX2_empty yX2_empty, Cond.code yX2_empty cX2_empty 1 none, Cond.methodLink RX3 109 yX2_hasAt, Cond.instanceMethod yX2_hasAt, Cond.selects RX2 yX2_hasAt yX2_hasAt, Cond.code yX2_hasAt cX2_hasAt 4 (some .boolean), Cond.fieldLink RX2 7 "PieceText$Row" "characters" "[I", Cond.methodLink RX3 60 yX2_add, Cond.instanceMethod yX2_add, Cond.selects RX2 yX2_add yX2_add, Cond.code yX2_add cX2_add 2 none, Cond.methodLink RX3 81 yX2_get, Cond.instanceMethod yX2_get, Cond.selects RX2 yX2_get yX2_get, Cond.code yX2_get cX2_get 2 (some .int), Cond.methodLink RX3 67 yX3_keepDraft, Cond.instanceMethod yX3_keepDraft, Cond.selects RX3 yX3_keepDraft yX3_keepDraft]
def wsX3_replace_r3 : List Cond := [Cond.code yX3_keepDraft cX3_keepDraft 1 (some .int), Cond.methodLink RX3 142 yX0_keep, Cond.instanceMethod yX0_keep, Cond.selects RX0 yX0_keep yX0_keep, Cond.code yX0_keep cX0_keep 2 none, Cond.fieldLink RX0 24 "PieceText$History" "past" "I", Cond.methodLink RX0 41 Lib.Math.min.name, Cond.static Lib.Math.min.name, Cond.initialized "java/lang/Math", Cond.code Lib.Math.min.name Lib.Math.min.code 2 (some .int), Cond.fieldLink RX0 27 "PieceText$History" "future" "I", Cond.methodLink RX0 30 yX2_empty, Cond.methodLink RX0 33 yX2_size, Cond.methodLink RX0 37 yX2_addPart, Cond.instanceMethod yX2_addPart, Cond.selects RX2 yX2_addPart yX2_addPart, Cond.code yX2_addPart cX2_addPart 4 none, Cond.methodLink RX2 17 arraycopyName, Cond.native arraycopyName, Cond.static arraycopyName, Cond.initialized "java/lang/System"]
def wsX3_replace : List Cond := .code yX3_replace cX3_replace 3 (some .int) :: ((wsX3_replace_r1 ++ (wsX3_replace_r2 ++ wsX3_replace_r3)) ++ wsX30 ++ wsX20 ++ wsX00 ++ (vx_atS RX3 92 "java/lang/IllegalStateException" ["java/lang/RuntimeException", "java/lang/Exception"]).filter goodWord ++ (vx_atS RX3 157 "java/lang/IllegalArgumentException" ["java/lang/RuntimeException", "java/lang/Exception"]).filter goodWord)
def wsX3_snapshot_r1 : List Cond := [Cond.fieldLink RX3 28 "PieceText" "written" "LPieceText$Phrases;", Cond.fieldLink RX3 10 "PieceText" "history" "LPieceText$History;", Cond.methodLink RX3 39 yX0_present, Cond.instanceMethod yX0_present, Cond.selects RX0 yX0_present yX0_present, Cond.initialized RX0, Cond.code yX0_present cX0_present 1 (some (.object "PieceText$Row")), Cond.fieldLink RX0 13 "PieceText$History" "texts" "[LPieceText$Row;", Cond.fieldLink RX0 20 "PieceText$History" "now" "I", Cond.methodLink RX3 118 yX1_writeDown, Cond.instanceMethod yX1_writeDown, Cond.selects RX1 yX1_writeDown yX1_writeDown, Cond.initialized RX1, Cond.code yX1_writeDown cX1_writeDown 6 none, Cond.fieldLink RX1 18 "PieceText$Phrases" "count" "I", Cond.methodLink RX1 22 yX2_size, Cond.instanceMethod yX2_size, Cond.selects RX2 yX2_size yX2_size, Cond.initialized RX2, Cond.code yX2_size cX2_size 1 (some .int), Cond.fieldLink RX2 13 "PieceText$Row" "length" "I", Cond.methodLink RX1 28 yX2_get, Cond.instanceMethod yX2_get, Cond.selects RX2 yX2_get yX2_get]
def wsX3_snapshot_r2 : List Cond := [Cond.code yX2_get cX2_get 2 (some .int), Cond.fieldLink RX2 7 "PieceText$Row" "characters" "[I", Cond.methodLink RX1 32 yX1_numberOf, Cond.instanceMethod yX1_numberOf, Cond.selects RX1 yX1_numberOf yX1_numberOf, Cond.code yX1_numberOf cX1_numberOf 4 (some .int), Cond.fieldLink RX1 9 "PieceText$Phrases" "words" "[I", Cond.methodLink RX1 36 yX1_addWord, Cond.instanceMethod yX1_addWord, Cond.selects RX1 yX1_addWord yX1_addWord, Cond.code yX1_addWord cX1_addWord 2 none, Cond.methodLink RX3 122 yX1_size, Cond.instanceMethod yX1_size, Cond.selects RX1 yX1_size yX1_size, Cond.code yX1_size cX1_size 1 (some .int)]
def wsX3_snapshot : List Cond := .code yX3_snapshot cX3_snapshot 1 (some .int) :: ((wsX3_snapshot_r1 ++ wsX3_snapshot_r2) ++ wsX30 ++ wsX00 ++ wsX10 ++ wsX20)
def wsX3_refuseNoWord : List Cond := .code yX3_refuseNoWord cX3_refuseNoWord 2 none :: ([.classLink RX3 74 "java/lang/IndexOutOfBoundsException", .initialized "java/lang/IndexOutOfBoundsException", .fieldLink RX3 28 "PieceText" "written" "LPieceText$Phrases;", .methodLink RX3 122 yX1_size, .instanceMethod yX1_size, .selects RX1 yX1_size yX1_size, .initialized RX1, .code yX1_size cX1_size 1 (some .int), .fieldLink RX1 18 "PieceText$Phrases" "count" "I"] ++ wsX30 ++ wsX10 ++ (vx_atS RX3 78 "java/lang/IndexOutOfBoundsException" ["java/lang/RuntimeException", "java/lang/Exception"]).filter goodWord)
def wsX3_word : List Cond := .code yX3_word cX3_word 2 (some .int) :: ([.fieldLink RX3 28 "PieceText" "written" "LPieceText$Phrases;", .methodLink RX3 123 yX3_refuseNoWord, .instanceMethod yX3_refuseNoWord, .selects RX3 yX3_refuseNoWord yX3_refuseNoWord, .initialized RX3, .code yX3_refuseNoWord cX3_refuseNoWord 2 none, .classLink RX3 74 "java/lang/IndexOutOfBoundsException", .initialized "java/lang/IndexOutOfBoundsException", .methodLink RX3 122 yX1_size, .instanceMethod yX1_size, .selects RX1 yX1_size yX1_size, .initialized RX1, .code yX1_size cX1_size 1 (some .int), .fieldLink RX1 18 "PieceText$Phrases" "count" "I", .methodLink RX3 126 yX1_get, .instanceMethod yX1_get, .selects RX1 yX1_get yX1_get, .code yX1_get cX1_get 2 (some .int), .fieldLink RX1 9 "PieceText$Phrases" "words" "[I"] ++ wsX30 ++ wsX10 ++ (vx_atS RX3 78 "java/lang/IndexOutOfBoundsException" ["java/lang/RuntimeException", "java/lang/Exception"]).filter goodWord)
def wsX3_poke : List Cond := .code yX3_poke cX3_poke 4 (some .int) :: ([.fieldLink RX3 28 "PieceText" "written" "LPieceText$Phrases;", .methodLink RX3 123 yX3_refuseNoWord, .instanceMethod yX3_refuseNoWord, .selects RX3 yX3_refuseNoWord yX3_refuseNoWord, .initialized RX3, .code yX3_refuseNoWord cX3_refuseNoWord 2 none, .classLink RX3 74 "java/lang/IndexOutOfBoundsException", .initialized "java/lang/IndexOutOfBoundsException", .methodLink RX3 122 yX1_size, .instanceMethod yX1_size, .selects RX1 yX1_size yX1_size, .initialized RX1, .code yX1_size cX1_size 1 (some .int), .fieldLink RX1 18 "PieceText$Phrases" "count" "I", .methodLink RX3 126 yX1_get, .instanceMethod yX1_get, .selects RX1 yX1_get yX1_get, .code yX1_get cX1_get 2 (some .int), .fieldLink RX1 9 "PieceText$Phrases" "words" "[I", .methodLink RX3 127 yX1_set, .instanceMethod yX1_set, .selects RX1 yX1_set yX1_set, .code yX1_set cX1_set 3 none] ++ wsX30 ++ wsX10 ++ (vx_atS RX3 78 "java/lang/IndexOutOfBoundsException" ["java/lang/RuntimeException", "java/lang/Exception"]).filter goodWord)
def wsX3_restore_r1 : List Cond := [Cond.fieldLink RX3 28 "PieceText" "written" "LPieceText$Phrases;", Cond.fieldLink RX3 32 "PieceText" "draft" "LPieceText$Row;", Cond.methodLink RX3 131 yX1_readInto, Cond.instanceMethod yX1_readInto, Cond.selects RX1 yX1_readInto yX1_readInto, Cond.initialized RX1, Cond.code yX1_readInto cX1_readInto 3 (some .int), Cond.fieldLink RX1 15 "PieceText$Phrases" "starts" "[I", Cond.fieldLink RX1 18 "PieceText$Phrases" "count" "I", Cond.fieldLink RX1 9 "PieceText$Phrases" "words" "[I", Cond.methodLink RX1 40 yX2_empty, Cond.instanceMethod yX2_empty, Cond.selects RX2 yX2_empty yX2_empty, Cond.initialized RX2, Cond.code yX2_empty cX2_empty 1 none, Cond.fieldLink RX2 13 "PieceText$Row" "length" "I", Cond.methodLink RX1 43 yX1_isPhrase, Cond.instanceMethod yX1_isPhrase, Cond.selects RX1 yX1_isPhrase yX1_isPhrase, Cond.code yX1_isPhrase cX1_isPhrase 3 (some .boolean), Cond.methodLink RX1 47 yX1_lengthOf, Cond.instanceMethod yX1_lengthOf, Cond.selects RX1 yX1_lengthOf yX1_lengthOf, Cond.code yX1_lengthOf cX1_lengthOf 4 (some .int)]
def wsX3_restore_r2 : List Cond := [Cond.methodLink RX1 22 yX2_size, Cond.instanceMethod yX2_size, Cond.selects RX2 yX2_size yX2_size, Cond.code yX2_size cX2_size 1 (some .int), Cond.methodLink RX1 50 yX1_addPhrase, Cond.instanceMethod yX1_addPhrase, Cond.selects RX1 yX1_addPhrase yX1_addPhrase, Cond.code yX1_addPhrase cX1_addPhrase 4 none, Cond.methodLink RX1 54 yX2_addPart, Cond.instanceMethod yX2_addPart, Cond.selects RX2 yX2_addPart yX2_addPart, Cond.code yX2_addPart cX2_addPart 4 none, Cond.fieldLink RX2 7 "PieceText$Row" "characters" "[I", Cond.methodLink RX2 17 arraycopyName, Cond.native arraycopyName, Cond.static arraycopyName, Cond.initialized "java/lang/System", Cond.methodLink RX1 58 yX2_add, Cond.instanceMethod yX2_add, Cond.selects RX2 yX2_add yX2_add, Cond.code yX2_add cX2_add 2 none, Cond.methodLink RX3 67 yX3_keepDraft, Cond.instanceMethod yX3_keepDraft, Cond.selects RX3 yX3_keepDraft yX3_keepDraft]
def wsX3_restore_r3 : List Cond := [Cond.initialized RX3, Cond.code yX3_keepDraft cX3_keepDraft 1 (some .int), Cond.fieldLink RX3 10 "PieceText" "history" "LPieceText$History;", Cond.methodLink RX3 142 yX0_keep, Cond.instanceMethod yX0_keep, Cond.selects RX0 yX0_keep yX0_keep, Cond.initialized RX0, Cond.code yX0_keep cX0_keep 2 none, Cond.fieldLink RX0 20 "PieceText$History" "now" "I", Cond.fieldLink RX0 13 "PieceText$History" "texts" "[LPieceText$Row;", Cond.fieldLink RX0 24 "PieceText$History" "past" "I", Cond.methodLink RX0 41 Lib.Math.min.name, Cond.static Lib.Math.min.name, Cond.initialized "java/lang/Math", Cond.code Lib.Math.min.name Lib.Math.min.code 2 (some .int), Cond.fieldLink RX0 27 "PieceText$History" "future" "I", Cond.methodLink RX0 30 yX2_empty, Cond.methodLink RX0 33 yX2_size, Cond.methodLink RX0 37 yX2_addPart, Cond.methodLink RX3 63 yX2_size]
def wsX3_restore : List Cond := .code yX3_restore cX3_restore 2 (some .int) :: ((wsX3_restore_r1 ++ (wsX3_restore_r2 ++ wsX3_restore_r3)) ++ wsX30 ++ wsX10 ++ wsX20 ++ wsX00)
def wsJ7_fill_53178 : List Cond := .code yJ7_fill_53178 cJ7_fill_53178 4 none :: ([])
def wsX3_differentCharacters : List Cond := .code yX3_differentCharacters cX3_differentCharacters 5 (some .int) :: ([.fieldLink RX3 10 "PieceText" "history" "LPieceText$History;", .fieldLink RX3 35 "PieceText" "seen" "[I", .methodLink RX3 39 yX0_present, .instanceMethod yX0_present, .selects RX0 yX0_present yX0_present, .initialized RX0, .code yX0_present cX0_present 1 (some (.object "PieceText$Row")), .fieldLink RX0 13 "PieceText$History" "texts" "[LPieceText$Row;", .fieldLink RX0 20 "PieceText$History" "now" "I", .methodLink RX3 145 yJ7_fill_53178, .static yJ7_fill_53178, .initialized RJ7, .code yJ7_fill_53178 cJ7_fill_53178 4 none, .methodLink RX3 63 yX2_size, .instanceMethod yX2_size, .selects RX2 yX2_size yX2_size, .initialized RX2, .code yX2_size cX2_size 1 (some .int), .fieldLink RX2 13 "PieceText$Row" "length" "I", .methodLink RX3 81 yX2_get, .instanceMethod yX2_get, .selects RX2 yX2_get yX2_get, .code yX2_get cX2_get 2 (some .int), .fieldLink RX2 7 "PieceText$Row" "characters" "[I"] ++ wsX30 ++ wsX00 ++ wsX20)
def wsX3_told_r1 : List Cond := [Cond.fieldLink RX3 10 "PieceText" "history" "LPieceText$History;", Cond.fieldLink RX3 21 "PieceText" "sought" "LPieceText$Row;", Cond.fieldLink RX3 28 "PieceText" "written" "LPieceText$Phrases;", Cond.methodLink RX3 39 yX0_present, Cond.instanceMethod yX0_present, Cond.selects RX0 yX0_present yX0_present, Cond.initialized RX0, Cond.code yX0_present cX0_present 1 (some (.object "PieceText$Row")), Cond.fieldLink RX0 13 "PieceText$History" "texts" "[LPieceText$Row;", Cond.fieldLink RX0 20 "PieceText$History" "now" "I", Cond.methodLink RX3 63 yX2_size, Cond.instanceMethod yX2_size, Cond.selects RX2 yX2_size yX2_size, Cond.initialized RX2, Cond.code yX2_size cX2_size 1 (some .int), Cond.fieldLink RX2 13 "PieceText$Row" "length" "I", Cond.methodLink RX3 85 yX0_pastSize, Cond.instanceMethod yX0_pastSize, Cond.selects RX0 yX0_pastSize yX0_pastSize, Cond.code yX0_pastSize cX0_pastSize 1 (some .int), Cond.fieldLink RX0 24 "PieceText$History" "past" "I", Cond.methodLink RX3 96 yX0_futureSize, Cond.instanceMethod yX0_futureSize, Cond.selects RX0 yX0_futureSize yX0_futureSize]
def wsX3_told_r2 : List Cond := [Cond.code yX0_futureSize cX0_futureSize 1 (some .int), Cond.fieldLink RX0 27 "PieceText$History" "future" "I", Cond.methodLink RX3 122 yX1_size, Cond.instanceMethod yX1_size, Cond.selects RX1 yX1_size yX1_size, Cond.initialized RX1, Cond.code yX1_size cX1_size 1 (some .int), Cond.fieldLink RX1 18 "PieceText$Phrases" "count" "I", Cond.methodLink RX3 135 yX3_differentCharacters, Cond.instanceMethod yX3_differentCharacters, Cond.selects RX3 yX3_differentCharacters yX3_differentCharacters, Cond.initialized RX3, Cond.code yX3_differentCharacters cX3_differentCharacters 5 (some .int), Cond.fieldLink RX3 35 "PieceText" "seen" "[I", Cond.methodLink RX3 145 yJ7_fill_53178, Cond.static yJ7_fill_53178, Cond.initialized RJ7, Cond.code yJ7_fill_53178 cJ7_fill_53178 4 none, Cond.methodLink RX3 81 yX2_get, Cond.instanceMethod yX2_get, Cond.selects RX2 yX2_get yX2_get, Cond.code yX2_get cX2_get 2 (some .int), Cond.fieldLink RX2 7 "PieceText$Row" "characters" "[I"]
def wsX3_told : List Cond := .code yX3_told cX3_told 2 (some .int) :: ((wsX3_told_r1 ++ wsX3_told_r2) ++ wsX30 ++ wsX00 ++ wsX20 ++ wsX10)
def wsX3_clear_r1 : List Cond := [Cond.fieldLink RX3 10 "PieceText" "history" "LPieceText$History;", Cond.fieldLink RX3 21 "PieceText" "sought" "LPieceText$Row;", Cond.fieldLink RX3 28 "PieceText" "written" "LPieceText$Phrases;", Cond.methodLink RX3 138 yX0_forget, Cond.instanceMethod yX0_forget, Cond.selects RX0 yX0_forget yX0_forget, Cond.initialized RX0, Cond.code yX0_forget cX0_forget 1 none, Cond.fieldLink RX0 13 "PieceText$History" "texts" "[LPieceText$Row;", Cond.fieldLink RX0 20 "PieceText$History" "now" "I", Cond.fieldLink RX0 24 "PieceText$History" "past" "I", Cond.fieldLink RX0 27 "PieceText$History" "future" "I", Cond.methodLink RX0 30 yX2_empty, Cond.instanceMethod yX2_empty, Cond.selects RX2 yX2_empty yX2_empty, Cond.initialized RX2, Cond.code yX2_empty cX2_empty 1 none, Cond.fieldLink RX2 13 "PieceText$Row" "length" "I", Cond.methodLink RX3 53 yX2_empty, Cond.methodLink RX3 141 yX1_forget, Cond.instanceMethod yX1_forget, Cond.selects RX1 yX1_forget yX1_forget, Cond.initialized RX1, Cond.code yX1_forget cX1_forget 1 none]
def wsX3_clear_r2 : List Cond := [Cond.fieldLink RX1 18 "PieceText$Phrases" "count" "I"]
def wsX3_clear : List Cond := .code yX3_clear cX3_clear 1 none :: ((wsX3_clear_r1 ++ wsX3_clear_r2) ++ wsX30 ++ wsX00 ++ wsX20 ++ wsX10)
def wsX4_init : List Cond := .code yX4_init cX4_init 1 none :: ([.methodLink RX4 1 objectInit, .instanceMethod objectInit, .code objectInit ⟨#[0xb1]⟩ 1 none, .arrayClass .int, .fieldLink RX4 7 "PieceTextModel" "texts" "[I", .fieldLink RX4 13 "PieceTextModel" "lengths" "[I", .fieldLink RX4 16 "PieceTextModel" "draft" "[I", .fieldLink RX4 19 "PieceTextModel" "pattern" "[I", .fieldLink RX4 22 "PieceTextModel" "words" "[I", .fieldLink RX4 25 "PieceTextModel" "begins" "[I", .fieldLink RX4 28 "PieceTextModel" "sizes" "[I"] ++ wsX40)
def wsX4_thrown : List Cond := .code yX4_thrown cX4_thrown 1 (some .int) :: ([.fieldLink RX4 31 "PieceTextModel" "thrown" "I"] ++ wsX40)
def wsX4_length : List Cond := .code yX4_length cX4_length 1 (some .int) :: ([.fieldLink RX4 13 "PieceTextModel" "lengths" "[I", .fieldLink RX4 35 "PieceTextModel" "past" "I"] ++ wsX40)
def wsX4_charAt : List Cond := .code yX4_charAt cX4_charAt 2 (some .int) :: ([.fieldLink RX4 7 "PieceTextModel" "texts" "[I", .fieldLink RX4 35 "PieceTextModel" "past" "I"] ++ wsX40)
def wsX4_isIn : List Cond := .code yX4_isIn cX4_isIn 6 (some .boolean) :: ([])
def wsX4_draftFrom : List Cond := .code yX4_draftFrom cX4_draftFrom 4 none :: ([.fieldLink RX4 16 "PieceTextModel" "draft" "[I", .fieldLink RX4 38 "PieceTextModel" "drafted" "I", .methodLink RX4 41 yX4_charAt, .instanceMethod yX4_charAt, .selects RX4 yX4_charAt yX4_charAt, .initialized RX4, .code yX4_charAt cX4_charAt 2 (some .int), .fieldLink RX4 7 "PieceTextModel" "texts" "[I", .fieldLink RX4 35 "PieceTextModel" "past" "I"] ++ wsX40)
def wsX4_draftOne : List Cond := .code yX4_draftOne cX4_draftOne 2 none :: ([.fieldLink RX4 16 "PieceTextModel" "draft" "[I", .fieldLink RX4 38 "PieceTextModel" "drafted" "I"] ++ wsX40)
def wsX4_act : List Cond := .code yX4_act cX4_act 2 (some .int) :: ([.fieldLink RX4 35 "PieceTextModel" "past" "I", .fieldLink RX4 7 "PieceTextModel" "texts" "[I", .fieldLink RX4 13 "PieceTextModel" "lengths" "[I", .fieldLink RX4 45 "PieceTextModel" "future" "I", .fieldLink RX4 38 "PieceTextModel" "drafted" "I", .fieldLink RX4 16 "PieceTextModel" "draft" "[I"] ++ wsX40)
def wsX4_insert_r1 : List Cond := [Cond.constantLong RX4 56 (255), Cond.fieldLink RX4 31 "PieceTextModel" "thrown" "I", Cond.fieldLink RX4 38 "PieceTextModel" "drafted" "I", Cond.methodLink RX4 48 yX4_length, Cond.instanceMethod yX4_length, Cond.selects RX4 yX4_length yX4_length, Cond.initialized RX4, Cond.code yX4_length cX4_length 1 (some .int), Cond.fieldLink RX4 13 "PieceTextModel" "lengths" "[I", Cond.fieldLink RX4 35 "PieceTextModel" "past" "I", Cond.methodLink RX4 52 yX4_isIn, Cond.static yX4_isIn, Cond.code yX4_isIn cX4_isIn 6 (some .boolean), Cond.methodLink RX4 58 yX4_draftFrom, Cond.instanceMethod yX4_draftFrom, Cond.selects RX4 yX4_draftFrom yX4_draftFrom, Cond.code yX4_draftFrom cX4_draftFrom 4 none, Cond.fieldLink RX4 16 "PieceTextModel" "draft" "[I", Cond.methodLink RX4 41 yX4_charAt, Cond.instanceMethod yX4_charAt, Cond.selects RX4 yX4_charAt yX4_charAt, Cond.code yX4_charAt cX4_charAt 2 (some .int), Cond.fieldLink RX4 7 "PieceTextModel" "texts" "[I", Cond.methodLink RX4 62 yX4_draftOne]
def wsX4_insert_r2 : List Cond := [Cond.instanceMethod yX4_draftOne, Cond.selects RX4 yX4_draftOne yX4_draftOne, Cond.code yX4_draftOne cX4_draftOne 2 none, Cond.methodLink RX4 66 yX4_act, Cond.instanceMethod yX4_act, Cond.selects RX4 yX4_act yX4_act, Cond.code yX4_act cX4_act 2 (some .int), Cond.fieldLink RX4 45 "PieceTextModel" "future" "I"]
def wsX4_insert : List Cond := .code yX4_insert cX4_insert 3 (some .int) :: ((wsX4_insert_r1 ++ wsX4_insert_r2) ++ wsX40)
def wsX4_delete_r1 : List Cond := [Cond.fieldLink RX4 31 "PieceTextModel" "thrown" "I", Cond.fieldLink RX4 38 "PieceTextModel" "drafted" "I", Cond.methodLink RX4 48 yX4_length, Cond.instanceMethod yX4_length, Cond.selects RX4 yX4_length yX4_length, Cond.initialized RX4, Cond.code yX4_length cX4_length 1 (some .int), Cond.fieldLink RX4 13 "PieceTextModel" "lengths" "[I", Cond.fieldLink RX4 35 "PieceTextModel" "past" "I", Cond.methodLink RX4 52 yX4_isIn, Cond.static yX4_isIn, Cond.code yX4_isIn cX4_isIn 6 (some .boolean), Cond.methodLink RX4 58 yX4_draftFrom, Cond.instanceMethod yX4_draftFrom, Cond.selects RX4 yX4_draftFrom yX4_draftFrom, Cond.code yX4_draftFrom cX4_draftFrom 4 none, Cond.fieldLink RX4 16 "PieceTextModel" "draft" "[I", Cond.methodLink RX4 41 yX4_charAt, Cond.instanceMethod yX4_charAt, Cond.selects RX4 yX4_charAt yX4_charAt, Cond.code yX4_charAt cX4_charAt 2 (some .int), Cond.fieldLink RX4 7 "PieceTextModel" "texts" "[I", Cond.methodLink RX4 66 yX4_act, Cond.instanceMethod yX4_act]
def wsX4_delete_r2 : List Cond := [Cond.selects RX4 yX4_act yX4_act, Cond.code yX4_act cX4_act 2 (some .int), Cond.fieldLink RX4 45 "PieceTextModel" "future" "I"]
def wsX4_delete : List Cond := .code yX4_delete cX4_delete 3 (some .int) :: ((wsX4_delete_r1 ++ wsX4_delete_r2) ++ wsX40)
def wsX4_copy_r1 : List Cond := [Cond.fieldLink RX4 31 "PieceTextModel" "thrown" "I", Cond.fieldLink RX4 38 "PieceTextModel" "drafted" "I", Cond.methodLink RX4 48 yX4_length, Cond.instanceMethod yX4_length, Cond.selects RX4 yX4_length yX4_length, Cond.initialized RX4, Cond.code yX4_length cX4_length 1 (some .int), Cond.fieldLink RX4 13 "PieceTextModel" "lengths" "[I", Cond.fieldLink RX4 35 "PieceTextModel" "past" "I", Cond.methodLink RX4 52 yX4_isIn, Cond.static yX4_isIn, Cond.code yX4_isIn cX4_isIn 6 (some .boolean), Cond.methodLink RX4 58 yX4_draftFrom, Cond.instanceMethod yX4_draftFrom, Cond.selects RX4 yX4_draftFrom yX4_draftFrom, Cond.code yX4_draftFrom cX4_draftFrom 4 none, Cond.fieldLink RX4 16 "PieceTextModel" "draft" "[I", Cond.methodLink RX4 41 yX4_charAt, Cond.instanceMethod yX4_charAt, Cond.selects RX4 yX4_charAt yX4_charAt, Cond.code yX4_charAt cX4_charAt 2 (some .int), Cond.fieldLink RX4 7 "PieceTextModel" "texts" "[I", Cond.methodLink RX4 66 yX4_act, Cond.instanceMethod yX4_act]
def wsX4_copy_r2 : List Cond := [Cond.selects RX4 yX4_act yX4_act, Cond.code yX4_act cX4_act 2 (some .int), Cond.fieldLink RX4 45 "PieceTextModel" "future" "I"]
def wsX4_copy : List Cond := .code yX4_copy cX4_copy 5 (some .int) :: ((wsX4_copy_r1 ++ wsX4_copy_r2) ++ wsX40)
def wsX4_at : List Cond := .code yX4_at cX4_at 2 (some .int) :: ([.fieldLink RX4 31 "PieceTextModel" "thrown" "I", .methodLink RX4 48 yX4_length, .instanceMethod yX4_length, .selects RX4 yX4_length yX4_length, .initialized RX4, .code yX4_length cX4_length 1 (some .int), .fieldLink RX4 13 "PieceTextModel" "lengths" "[I", .fieldLink RX4 35 "PieceTextModel" "past" "I", .methodLink RX4 52 yX4_isIn, .static yX4_isIn, .code yX4_isIn cX4_isIn 6 (some .boolean), .methodLink RX4 41 yX4_charAt, .instanceMethod yX4_charAt, .selects RX4 yX4_charAt yX4_charAt, .code yX4_charAt cX4_charAt 2 (some .int), .fieldLink RX4 7 "PieceTextModel" "texts" "[I"] ++ wsX40)
def wsX4_undo : List Cond := .code yX4_undo cX4_undo 1 (some .int) :: ([.fieldLink RX4 35 "PieceTextModel" "past" "I", .fieldLink RX4 31 "PieceTextModel" "thrown" "I", .fieldLink RX4 45 "PieceTextModel" "future" "I", .methodLink RX4 48 yX4_length, .instanceMethod yX4_length, .selects RX4 yX4_length yX4_length, .initialized RX4, .code yX4_length cX4_length 1 (some .int), .fieldLink RX4 13 "PieceTextModel" "lengths" "[I"] ++ wsX40)
def wsX4_redo : List Cond := .code yX4_redo cX4_redo 1 (some .int) :: ([.fieldLink RX4 45 "PieceTextModel" "future" "I", .fieldLink RX4 31 "PieceTextModel" "thrown" "I", .fieldLink RX4 35 "PieceTextModel" "past" "I", .methodLink RX4 48 yX4_length, .instanceMethod yX4_length, .selects RX4 yX4_length yX4_length, .initialized RX4, .code yX4_length cX4_length 1 (some .int), .fieldLink RX4 13 "PieceTextModel" "lengths" "[I"] ++ wsX40)
def wsX4_pattern : List Cond := .code yX4_pattern cX4_pattern 2 (some .int) :: ([.constantLong RX4 56 (255), .fieldLink RX4 69 "PieceTextModel" "patternSize" "I", .fieldLink RX4 31 "PieceTextModel" "thrown" "I", .fieldLink RX4 19 "PieceTextModel" "pattern" "[I", .methodLink RX4 52 yX4_isIn, .static yX4_isIn, .initialized RX4, .code yX4_isIn cX4_isIn 6 (some .boolean)] ++ wsX40)
def wsX4_noPattern : List Cond := .code yX4_noPattern cX4_noPattern 2 (some .int) :: ([.fieldLink RX4 31 "PieceTextModel" "thrown" "I", .fieldLink RX4 69 "PieceTextModel" "patternSize" "I"] ++ wsX40)
def wsX4_occurs : List Cond := .code yX4_occurs cX4_occurs 4 (some .boolean) :: ([.fieldLink RX4 69 "PieceTextModel" "patternSize" "I", .fieldLink RX4 19 "PieceTextModel" "pattern" "[I", .methodLink RX4 48 yX4_length, .instanceMethod yX4_length, .selects RX4 yX4_length yX4_length, .initialized RX4, .code yX4_length cX4_length 1 (some .int), .fieldLink RX4 13 "PieceTextModel" "lengths" "[I", .fieldLink RX4 35 "PieceTextModel" "past" "I", .methodLink RX4 41 yX4_charAt, .instanceMethod yX4_charAt, .selects RX4 yX4_charAt yX4_charAt, .code yX4_charAt cX4_charAt 2 (some .int), .fieldLink RX4 7 "PieceTextModel" "texts" "[I"] ++ wsX40)
def wsX4_find : List Cond := .code yX4_find cX4_find 3 (some .int) :: ([.fieldLink RX4 31 "PieceTextModel" "thrown" "I", .methodLink RX4 48 yX4_length, .instanceMethod yX4_length, .selects RX4 yX4_length yX4_length, .initialized RX4, .code yX4_length cX4_length 1 (some .int), .fieldLink RX4 13 "PieceTextModel" "lengths" "[I", .fieldLink RX4 35 "PieceTextModel" "past" "I", .methodLink RX4 52 yX4_isIn, .static yX4_isIn, .code yX4_isIn cX4_isIn 6 (some .boolean), .methodLink RX4 72 yX4_occurs, .instanceMethod yX4_occurs, .selects RX4 yX4_occurs yX4_occurs, .code yX4_occurs cX4_occurs 4 (some .boolean), .fieldLink RX4 69 "PieceTextModel" "patternSize" "I", .fieldLink RX4 19 "PieceTextModel" "pattern" "[I", .methodLink RX4 41 yX4_charAt, .instanceMethod yX4_charAt, .selects RX4 yX4_charAt yX4_charAt, .code yX4_charAt cX4_charAt 2 (some .int), .fieldLink RX4 7 "PieceTextModel" "texts" "[I"] ++ wsX40)
def wsX4_replace_r1 : List Cond := [Cond.constantLong RX4 56 (255), Cond.fieldLink RX4 69 "PieceTextModel" "patternSize" "I", Cond.fieldLink RX4 31 "PieceTextModel" "thrown" "I", Cond.fieldLink RX4 38 "PieceTextModel" "drafted" "I", Cond.methodLink RX4 52 yX4_isIn, Cond.static yX4_isIn, Cond.initialized RX4, Cond.code yX4_isIn cX4_isIn 6 (some .boolean), Cond.methodLink RX4 48 yX4_length, Cond.instanceMethod yX4_length, Cond.selects RX4 yX4_length yX4_length, Cond.code yX4_length cX4_length 1 (some .int), Cond.fieldLink RX4 13 "PieceTextModel" "lengths" "[I", Cond.fieldLink RX4 35 "PieceTextModel" "past" "I", Cond.methodLink RX4 72 yX4_occurs, Cond.instanceMethod yX4_occurs, Cond.selects RX4 yX4_occurs yX4_occurs, Cond.code yX4_occurs cX4_occurs 4 (some .boolean), Cond.fieldLink RX4 19 "PieceTextModel" "pattern" "[I", Cond.methodLink RX4 41 yX4_charAt, Cond.instanceMethod yX4_charAt, Cond.selects RX4 yX4_charAt yX4_charAt, Cond.code yX4_charAt cX4_charAt 2 (some .int), Cond.fieldLink RX4 7 "PieceTextModel" "texts" "[I"]
def wsX4_replace_r2 : List Cond := [Cond.methodLink RX4 62 yX4_draftOne, Cond.instanceMethod yX4_draftOne, Cond.selects RX4 yX4_draftOne yX4_draftOne, Cond.code yX4_draftOne cX4_draftOne 2 none, Cond.fieldLink RX4 16 "PieceTextModel" "draft" "[I", Cond.methodLink RX4 66 yX4_act, Cond.instanceMethod yX4_act, Cond.selects RX4 yX4_act yX4_act, Cond.code yX4_act cX4_act 2 (some .int), Cond.fieldLink RX4 45 "PieceTextModel" "future" "I"]
def wsX4_replace : List Cond := .code yX4_replace cX4_replace 5 (some .int) :: ((wsX4_replace_r1 ++ wsX4_replace_r2) ++ wsX40)
def wsX4_snapshot : List Cond := .code yX4_snapshot cX4_snapshot 7 (some .int) :: ([.fieldLink RX4 31 "PieceTextModel" "thrown" "I", .fieldLink RX4 76 "PieceTextModel" "wordCount" "I", .fieldLink RX4 28 "PieceTextModel" "sizes" "[I", .fieldLink RX4 25 "PieceTextModel" "begins" "[I", .fieldLink RX4 22 "PieceTextModel" "words" "[I", .methodLink RX4 48 yX4_length, .instanceMethod yX4_length, .selects RX4 yX4_length yX4_length, .initialized RX4, .code yX4_length cX4_length 1 (some .int), .fieldLink RX4 13 "PieceTextModel" "lengths" "[I", .fieldLink RX4 35 "PieceTextModel" "past" "I", .methodLink RX4 41 yX4_charAt, .instanceMethod yX4_charAt, .selects RX4 yX4_charAt yX4_charAt, .code yX4_charAt cX4_charAt 2 (some .int), .fieldLink RX4 7 "PieceTextModel" "texts" "[I"] ++ wsX40)
def wsX4_word : List Cond := .code yX4_word cX4_word 2 (some .int) :: ([.fieldLink RX4 76 "PieceTextModel" "wordCount" "I", .fieldLink RX4 31 "PieceTextModel" "thrown" "I", .fieldLink RX4 22 "PieceTextModel" "words" "[I", .methodLink RX4 52 yX4_isIn, .static yX4_isIn, .initialized RX4, .code yX4_isIn cX4_isIn 6 (some .boolean)] ++ wsX40)
def wsX4_poke : List Cond := .code yX4_poke cX4_poke 4 (some .int) :: ([.fieldLink RX4 76 "PieceTextModel" "wordCount" "I", .fieldLink RX4 31 "PieceTextModel" "thrown" "I", .fieldLink RX4 22 "PieceTextModel" "words" "[I", .methodLink RX4 52 yX4_isIn, .static yX4_isIn, .initialized RX4, .code yX4_isIn cX4_isIn 6 (some .boolean)] ++ wsX40)
def wsX4_restore : List Cond := .code yX4_restore cX4_restore 9 (some .int) :: ([.fieldLink RX4 31 "PieceTextModel" "thrown" "I", .fieldLink RX4 38 "PieceTextModel" "drafted" "I", .fieldLink RX4 76 "PieceTextModel" "wordCount" "I", .fieldLink RX4 22 "PieceTextModel" "words" "[I", .fieldLink RX4 28 "PieceTextModel" "sizes" "[I", .fieldLink RX4 25 "PieceTextModel" "begins" "[I", .fieldLink RX4 16 "PieceTextModel" "draft" "[I", .methodLink RX4 62 yX4_draftOne, .instanceMethod yX4_draftOne, .selects RX4 yX4_draftOne yX4_draftOne, .initialized RX4, .code yX4_draftOne cX4_draftOne 2 none, .methodLink RX4 66 yX4_act, .instanceMethod yX4_act, .selects RX4 yX4_act yX4_act, .code yX4_act cX4_act 2 (some .int), .fieldLink RX4 35 "PieceTextModel" "past" "I", .fieldLink RX4 7 "PieceTextModel" "texts" "[I", .fieldLink RX4 13 "PieceTextModel" "lengths" "[I", .fieldLink RX4 45 "PieceTextModel" "future" "I"] ++ wsX40)
def wsX4_told : List Cond := .code yX4_told cX4_told 6 (some .int) :: ([.fieldLink RX4 31 "PieceTextModel" "thrown" "I", .fieldLink RX4 35 "PieceTextModel" "past" "I", .fieldLink RX4 45 "PieceTextModel" "future" "I", .fieldLink RX4 69 "PieceTextModel" "patternSize" "I", .fieldLink RX4 76 "PieceTextModel" "wordCount" "I", .methodLink RX4 48 yX4_length, .instanceMethod yX4_length, .selects RX4 yX4_length yX4_length, .initialized RX4, .code yX4_length cX4_length 1 (some .int), .fieldLink RX4 13 "PieceTextModel" "lengths" "[I", .methodLink RX4 41 yX4_charAt, .instanceMethod yX4_charAt, .selects RX4 yX4_charAt yX4_charAt, .code yX4_charAt cX4_charAt 2 (some .int), .fieldLink RX4 7 "PieceTextModel" "texts" "[I"] ++ wsX40)
def wsX4_clear : List Cond := .code yX4_clear cX4_clear 1 none :: ([.fieldLink RX4 31 "PieceTextModel" "thrown" "I", .fieldLink RX4 35 "PieceTextModel" "past" "I", .fieldLink RX4 45 "PieceTextModel" "future" "I", .fieldLink RX4 13 "PieceTextModel" "lengths" "[I", .fieldLink RX4 69 "PieceTextModel" "patternSize" "I", .fieldLink RX4 76 "PieceTextModel" "wordCount" "I"] ++ wsX40)
def wsJ9_min_7cf53 : List Cond := .code yJ9_min_7cf53 cJ9_min_7cf53 2 (some .int) :: ([])
def wsL_insert_r1 : List Cond := [Cond.classLink RL 13 "java/lang/IndexOutOfBoundsException", Cond.classLink RL 15 "java/lang/IllegalArgumentException", Cond.classLink RL 17 "java/lang/UnsupportedOperationException", Cond.methodLink RL 7 yX3_insert, Cond.instanceMethod yX3_insert, Cond.selects RX3 yX3_insert yX3_insert, Cond.initialized RX3, Cond.code yX3_insert cX3_insert 4 (some .int), Cond.fieldLink RX3 10 "PieceText" "history" "LPieceText$History;", Cond.fieldLink RX3 32 "PieceText" "draft" "LPieceText$Row;", Cond.methodLink RX3 39 yX0_present, Cond.instanceMethod yX0_present, Cond.selects RX0 yX0_present yX0_present, Cond.initialized RX0, Cond.code yX0_present cX0_present 1 (some (.object "PieceText$Row")), Cond.fieldLink RX0 13 "PieceText$History" "texts" "[LPieceText$Row;", Cond.fieldLink RX0 20 "PieceText$History" "now" "I", Cond.methodLink RX3 43 yX3_refuseNoPlace, Cond.static yX3_refuseNoPlace, Cond.code yX3_refuseNoPlace cX3_refuseNoPlace 2 none, Cond.classLink RX3 74 "java/lang/IndexOutOfBoundsException", Cond.initialized "java/lang/IndexOutOfBoundsException", Cond.methodLink RX3 63 yX2_size, Cond.instanceMethod yX2_size]
def wsL_insert_r2 : List Cond := [Cond.selects RX2 yX2_size yX2_size, Cond.initialized RX2, Cond.code yX2_size cX2_size 1 (some .int), Cond.fieldLink RX2 13 "PieceText$Row" "length" "I", Cond.methodLink RX3 47 yX3_refuseNoCharacter, Cond.static yX3_refuseNoCharacter, Cond.code yX3_refuseNoCharacter cX3_refuseNoCharacter 1 none, Cond.classLink RX3 153 "java/lang/IllegalArgumentException", Cond.initialized "java/lang/IllegalArgumentException", Cond.methodLink RX3 50 yX3_refuseTooLong, Cond.static yX3_refuseTooLong, Cond.code yX3_refuseTooLong cX3_refuseTooLong 2 none, Cond.classLink RX3 104 "java/lang/UnsupportedOperationException", Cond.initialized "java/lang/UnsupportedOperationException", Cond.methodLink RX3 53 yX2_empty, Cond.instanceMethod yX2_empty, Cond.selects RX2 yX2_empty yX2_empty, Cond.code yX2_empty cX2_empty 1 none, Cond.methodLink RX3 56 yX2_addPart, Cond.instanceMethod yX2_addPart, Cond.selects RX2 yX2_addPart yX2_addPart, Cond.code yX2_addPart cX2_addPart 4 none, Cond.fieldLink RX2 7 "PieceText$Row" "characters" "[I", Cond.methodLink RX2 17 arraycopyName]
def wsL_insert_r3 : List Cond := [Cond.native arraycopyName, Cond.static arraycopyName, Cond.initialized "java/lang/System", Cond.methodLink RX3 60 yX2_add, Cond.instanceMethod yX2_add, Cond.selects RX2 yX2_add yX2_add, Cond.code yX2_add cX2_add 2 none, Cond.methodLink RX3 67 yX3_keepDraft, Cond.instanceMethod yX3_keepDraft, Cond.selects RX3 yX3_keepDraft yX3_keepDraft, Cond.code yX3_keepDraft cX3_keepDraft 1 (some .int), Cond.methodLink RX3 142 yX0_keep, Cond.instanceMethod yX0_keep, Cond.selects RX0 yX0_keep yX0_keep, Cond.code yX0_keep cX0_keep 2 none, Cond.fieldLink RX0 24 "PieceText$History" "past" "I", Cond.methodLink RX0 41 Lib.Math.min.name, Cond.static Lib.Math.min.name, Cond.initialized "java/lang/Math", Cond.code Lib.Math.min.name Lib.Math.min.code 2 (some .int), Cond.fieldLink RX0 27 "PieceText$History" "future" "I", Cond.methodLink RX0 30 yX2_empty, Cond.methodLink RX0 33 yX2_size, Cond.methodLink RX0 37 yX2_addPart]
def wsL_insert : List Cond := .codeWith yL_insert cL_insert 5 (some .int) [(0, 10, 13, 13), (0, 10, 17, 15), (0, 10, 21, 17)] :: ((wsL_insert_r1 ++ (wsL_insert_r2 ++ wsL_insert_r3)) ++ wsX30 ++ wsX00 ++ wsX20 ++ (vx_atS RX3 78 "java/lang/IndexOutOfBoundsException" ["java/lang/RuntimeException", "java/lang/Exception"]).filter goodWord ++ (vx_atS RX3 157 "java/lang/IllegalArgumentException" ["java/lang/RuntimeException", "java/lang/Exception"]).filter goodWord ++ (vx_atS RX3 108 "java/lang/UnsupportedOperationException" ["java/lang/RuntimeException", "java/lang/Exception"]).filter goodWord)
def wsL_delete_r1 : List Cond := [Cond.classLink RL 13 "java/lang/IndexOutOfBoundsException", Cond.classLink RL 15 "java/lang/IllegalArgumentException", Cond.methodLink RL 19 yX3_delete, Cond.instanceMethod yX3_delete, Cond.selects RX3 yX3_delete yX3_delete, Cond.initialized RX3, Cond.code yX3_delete cX3_delete 4 (some .int), Cond.fieldLink RX3 10 "PieceText" "history" "LPieceText$History;", Cond.fieldLink RX3 32 "PieceText" "draft" "LPieceText$Row;", Cond.methodLink RX3 39 yX0_present, Cond.instanceMethod yX0_present, Cond.selects RX0 yX0_present yX0_present, Cond.initialized RX0, Cond.code yX0_present cX0_present 1 (some (.object "PieceText$Row")), Cond.fieldLink RX0 13 "PieceText$History" "texts" "[LPieceText$Row;", Cond.fieldLink RX0 20 "PieceText$History" "now" "I", Cond.methodLink RX3 43 yX3_refuseNoPlace, Cond.static yX3_refuseNoPlace, Cond.code yX3_refuseNoPlace cX3_refuseNoPlace 2 none, Cond.classLink RX3 74 "java/lang/IndexOutOfBoundsException", Cond.initialized "java/lang/IndexOutOfBoundsException", Cond.methodLink RX3 63 yX2_size, Cond.instanceMethod yX2_size, Cond.selects RX2 yX2_size yX2_size]
def wsL_delete_r2 : List Cond := [Cond.initialized RX2, Cond.code yX2_size cX2_size 1 (some .int), Cond.fieldLink RX2 13 "PieceText$Row" "length" "I", Cond.methodLink RX3 70 yX3_refuseNoPart, Cond.static yX3_refuseNoPart, Cond.code yX3_refuseNoPart cX3_refuseNoPart 3 none, Cond.classLink RX3 153 "java/lang/IllegalArgumentException", Cond.initialized "java/lang/IllegalArgumentException", Cond.methodLink RX3 53 yX2_empty, Cond.instanceMethod yX2_empty, Cond.selects RX2 yX2_empty yX2_empty, Cond.code yX2_empty cX2_empty 1 none, Cond.methodLink RX3 56 yX2_addPart, Cond.instanceMethod yX2_addPart, Cond.selects RX2 yX2_addPart yX2_addPart, Cond.code yX2_addPart cX2_addPart 4 none, Cond.fieldLink RX2 7 "PieceText$Row" "characters" "[I", Cond.methodLink RX2 17 arraycopyName, Cond.native arraycopyName, Cond.static arraycopyName, Cond.initialized "java/lang/System", Cond.methodLink RX3 67 yX3_keepDraft, Cond.instanceMethod yX3_keepDraft, Cond.selects RX3 yX3_keepDraft yX3_keepDraft]
def wsL_delete_r3 : List Cond := [Cond.code yX3_keepDraft cX3_keepDraft 1 (some .int), Cond.methodLink RX3 142 yX0_keep, Cond.instanceMethod yX0_keep, Cond.selects RX0 yX0_keep yX0_keep, Cond.code yX0_keep cX0_keep 2 none, Cond.fieldLink RX0 24 "PieceText$History" "past" "I", Cond.methodLink RX0 41 Lib.Math.min.name, Cond.static Lib.Math.min.name, Cond.initialized "java/lang/Math", Cond.code Lib.Math.min.name Lib.Math.min.code 2 (some .int), Cond.fieldLink RX0 27 "PieceText$History" "future" "I", Cond.methodLink RX0 30 yX2_empty, Cond.methodLink RX0 33 yX2_size, Cond.methodLink RX0 37 yX2_addPart]
def wsL_delete : List Cond := .codeWith yL_delete cL_delete 5 (some .int) [(0, 10, 13, 13), (0, 10, 17, 15)] :: ((wsL_delete_r1 ++ (wsL_delete_r2 ++ wsL_delete_r3)) ++ wsX30 ++ wsX00 ++ wsX20 ++ (vx_atS RX3 78 "java/lang/IndexOutOfBoundsException" ["java/lang/RuntimeException", "java/lang/Exception"]).filter goodWord ++ (vx_atS RX3 157 "java/lang/IllegalArgumentException" ["java/lang/RuntimeException", "java/lang/Exception"]).filter goodWord)
def wsL_copy_r1 : List Cond := [Cond.classLink RL 13 "java/lang/IndexOutOfBoundsException", Cond.classLink RL 15 "java/lang/IllegalArgumentException", Cond.classLink RL 17 "java/lang/UnsupportedOperationException", Cond.methodLink RL 22 yX3_copy, Cond.instanceMethod yX3_copy, Cond.selects RX3 yX3_copy yX3_copy, Cond.initialized RX3, Cond.code yX3_copy cX3_copy 5 (some .int), Cond.fieldLink RX3 10 "PieceText" "history" "LPieceText$History;", Cond.fieldLink RX3 32 "PieceText" "draft" "LPieceText$Row;", Cond.methodLink RX3 39 yX0_present, Cond.instanceMethod yX0_present, Cond.selects RX0 yX0_present yX0_present, Cond.initialized RX0, Cond.code yX0_present cX0_present 1 (some (.object "PieceText$Row")), Cond.fieldLink RX0 13 "PieceText$History" "texts" "[LPieceText$Row;", Cond.fieldLink RX0 20 "PieceText$History" "now" "I", Cond.methodLink RX3 43 yX3_refuseNoPlace, Cond.static yX3_refuseNoPlace, Cond.code yX3_refuseNoPlace cX3_refuseNoPlace 2 none, Cond.classLink RX3 74 "java/lang/IndexOutOfBoundsException", Cond.initialized "java/lang/IndexOutOfBoundsException", Cond.methodLink RX3 63 yX2_size, Cond.instanceMethod yX2_size]
def wsL_copy_r2 : List Cond := [Cond.selects RX2 yX2_size yX2_size, Cond.initialized RX2, Cond.code yX2_size cX2_size 1 (some .int), Cond.fieldLink RX2 13 "PieceText$Row" "length" "I", Cond.methodLink RX3 70 yX3_refuseNoPart, Cond.static yX3_refuseNoPart, Cond.code yX3_refuseNoPart cX3_refuseNoPart 3 none, Cond.classLink RX3 153 "java/lang/IllegalArgumentException", Cond.initialized "java/lang/IllegalArgumentException", Cond.methodLink RX3 50 yX3_refuseTooLong, Cond.static yX3_refuseTooLong, Cond.code yX3_refuseTooLong cX3_refuseTooLong 2 none, Cond.classLink RX3 104 "java/lang/UnsupportedOperationException", Cond.initialized "java/lang/UnsupportedOperationException", Cond.methodLink RX3 53 yX2_empty, Cond.instanceMethod yX2_empty, Cond.selects RX2 yX2_empty yX2_empty, Cond.code yX2_empty cX2_empty 1 none, Cond.methodLink RX3 56 yX2_addPart, Cond.instanceMethod yX2_addPart, Cond.selects RX2 yX2_addPart yX2_addPart, Cond.code yX2_addPart cX2_addPart 4 none, Cond.fieldLink RX2 7 "PieceText$Row" "characters" "[I", Cond.methodLink RX2 17 arraycopyName]
def wsL_copy_r3 : List Cond := [Cond.native arraycopyName, Cond.static arraycopyName, Cond.initialized "java/lang/System", Cond.methodLink RX3 67 yX3_keepDraft, Cond.instanceMethod yX3_keepDraft, Cond.selects RX3 yX3_keepDraft yX3_keepDraft, Cond.code yX3_keepDraft cX3_keepDraft 1 (some .int), Cond.methodLink RX3 142 yX0_keep, Cond.instanceMethod yX0_keep, Cond.selects RX0 yX0_keep yX0_keep, Cond.code yX0_keep cX0_keep 2 none, Cond.fieldLink RX0 24 "PieceText$History" "past" "I", Cond.methodLink RX0 41 Lib.Math.min.name, Cond.static Lib.Math.min.name, Cond.initialized "java/lang/Math", Cond.code Lib.Math.min.name Lib.Math.min.code 2 (some .int), Cond.fieldLink RX0 27 "PieceText$History" "future" "I", Cond.methodLink RX0 30 yX2_empty, Cond.methodLink RX0 33 yX2_size, Cond.methodLink RX0 37 yX2_addPart]
def wsL_copy : List Cond := .codeWith yL_copy cL_copy 6 (some .int) [(0, 12, 15, 13), (0, 12, 19, 15), (0, 12, 23, 17)] :: ((wsL_copy_r1 ++ (wsL_copy_r2 ++ wsL_copy_r3)) ++ wsX30 ++ wsX00 ++ wsX20 ++ (vx_atS RX3 78 "java/lang/IndexOutOfBoundsException" ["java/lang/RuntimeException", "java/lang/Exception"]).filter goodWord ++ (vx_atS RX3 157 "java/lang/IllegalArgumentException" ["java/lang/RuntimeException", "java/lang/Exception"]).filter goodWord ++ (vx_atS RX3 108 "java/lang/UnsupportedOperationException" ["java/lang/RuntimeException", "java/lang/Exception"]).filter goodWord)
def wsL_at_r1 : List Cond := [Cond.classLink RL 13 "java/lang/IndexOutOfBoundsException", Cond.methodLink RL 26 yX3_at, Cond.instanceMethod yX3_at, Cond.selects RX3 yX3_at yX3_at, Cond.initialized RX3, Cond.code yX3_at cX3_at 3 (some .int), Cond.classLink RX3 74 "java/lang/IndexOutOfBoundsException", Cond.initialized "java/lang/IndexOutOfBoundsException", Cond.fieldLink RX3 10 "PieceText" "history" "LPieceText$History;", Cond.methodLink RX3 39 yX0_present, Cond.instanceMethod yX0_present, Cond.selects RX0 yX0_present yX0_present, Cond.initialized RX0, Cond.code yX0_present cX0_present 1 (some (.object "PieceText$Row")), Cond.fieldLink RX0 13 "PieceText$History" "texts" "[LPieceText$Row;", Cond.fieldLink RX0 20 "PieceText$History" "now" "I", Cond.methodLink RX3 63 yX2_size, Cond.instanceMethod yX2_size, Cond.selects RX2 yX2_size yX2_size, Cond.initialized RX2, Cond.code yX2_size cX2_size 1 (some .int), Cond.fieldLink RX2 13 "PieceText$Row" "length" "I", Cond.methodLink RX3 81 yX2_get, Cond.instanceMethod yX2_get]
def wsL_at_r2 : List Cond := [Cond.selects RX2 yX2_get yX2_get, Cond.code yX2_get cX2_get 2 (some .int), Cond.fieldLink RX2 7 "PieceText$Row" "characters" "[I"]
def wsL_at : List Cond := .codeWith yL_at cL_at 4 (some .int) [(0, 9, 12, 13)] :: ((wsL_at_r1 ++ wsL_at_r2) ++ wsX30 ++ wsX00 ++ wsX20 ++ (vx_atS RX3 78 "java/lang/IndexOutOfBoundsException" ["java/lang/RuntimeException", "java/lang/Exception"]).filter goodWord)
def wsL_undo_r1 : List Cond := [Cond.classLink RL 34 "java/lang/IllegalStateException", Cond.methodLink RL 30 yX3_undo, Cond.instanceMethod yX3_undo, Cond.selects RX3 yX3_undo yX3_undo, Cond.initialized RX3, Cond.code yX3_undo cX3_undo 1 (some .int), Cond.classLink RX3 88 "java/lang/IllegalStateException", Cond.initialized "java/lang/IllegalStateException", Cond.fieldLink RX3 10 "PieceText" "history" "LPieceText$History;", Cond.methodLink RX3 85 yX0_pastSize, Cond.instanceMethod yX0_pastSize, Cond.selects RX0 yX0_pastSize yX0_pastSize, Cond.initialized RX0, Cond.code yX0_pastSize cX0_pastSize 1 (some .int), Cond.fieldLink RX0 24 "PieceText$History" "past" "I", Cond.methodLink RX3 93 yX0_stepBack, Cond.instanceMethod yX0_stepBack, Cond.selects RX0 yX0_stepBack yX0_stepBack, Cond.code yX0_stepBack cX0_stepBack 1 none, Cond.fieldLink RX0 20 "PieceText$History" "now" "I", Cond.fieldLink RX0 27 "PieceText$History" "future" "I", Cond.methodLink RX3 39 yX0_present, Cond.instanceMethod yX0_present, Cond.selects RX0 yX0_present yX0_present]
def wsL_undo_r2 : List Cond := [Cond.code yX0_present cX0_present 1 (some (.object "PieceText$Row")), Cond.fieldLink RX0 13 "PieceText$History" "texts" "[LPieceText$Row;", Cond.methodLink RX3 63 yX2_size, Cond.instanceMethod yX2_size, Cond.selects RX2 yX2_size yX2_size, Cond.initialized RX2, Cond.code yX2_size cX2_size 1 (some .int), Cond.fieldLink RX2 13 "PieceText$Row" "length" "I"]
def wsL_undo : List Cond := .codeWith yL_undo cL_undo 3 (some .int) [(0, 8, 11, 34)] :: ((wsL_undo_r1 ++ wsL_undo_r2) ++ wsX30 ++ wsX00 ++ wsX20 ++ (vx_atS RX3 92 "java/lang/IllegalStateException" ["java/lang/RuntimeException", "java/lang/Exception"]).filter goodWord)
def wsL_redo_r1 : List Cond := [Cond.classLink RL 34 "java/lang/IllegalStateException", Cond.methodLink RL 36 yX3_redo, Cond.instanceMethod yX3_redo, Cond.selects RX3 yX3_redo yX3_redo, Cond.initialized RX3, Cond.code yX3_redo cX3_redo 1 (some .int), Cond.classLink RX3 88 "java/lang/IllegalStateException", Cond.initialized "java/lang/IllegalStateException", Cond.fieldLink RX3 10 "PieceText" "history" "LPieceText$History;", Cond.methodLink RX3 96 yX0_futureSize, Cond.instanceMethod yX0_futureSize, Cond.selects RX0 yX0_futureSize yX0_futureSize, Cond.initialized RX0, Cond.code yX0_futureSize cX0_futureSize 1 (some .int), Cond.fieldLink RX0 27 "PieceText$History" "future" "I", Cond.methodLink RX3 101 yX0_stepOn, Cond.instanceMethod yX0_stepOn, Cond.selects RX0 yX0_stepOn yX0_stepOn, Cond.code yX0_stepOn cX0_stepOn 1 none, Cond.fieldLink RX0 20 "PieceText$History" "now" "I", Cond.fieldLink RX0 24 "PieceText$History" "past" "I", Cond.methodLink RX3 39 yX0_present, Cond.instanceMethod yX0_present, Cond.selects RX0 yX0_present yX0_present]
def wsL_redo_r2 : List Cond := [Cond.code yX0_present cX0_present 1 (some (.object "PieceText$Row")), Cond.fieldLink RX0 13 "PieceText$History" "texts" "[LPieceText$Row;", Cond.methodLink RX3 63 yX2_size, Cond.instanceMethod yX2_size, Cond.selects RX2 yX2_size yX2_size, Cond.initialized RX2, Cond.code yX2_size cX2_size 1 (some .int), Cond.fieldLink RX2 13 "PieceText$Row" "length" "I"]
def wsL_redo : List Cond := .codeWith yL_redo cL_redo 3 (some .int) [(0, 8, 11, 34)] :: ((wsL_redo_r1 ++ wsL_redo_r2) ++ wsX30 ++ wsX00 ++ wsX20 ++ (vx_atS RX3 92 "java/lang/IllegalStateException" ["java/lang/RuntimeException", "java/lang/Exception"]).filter goodWord)
def wsL_pattern_r1 : List Cond := [Cond.classLink RL 15 "java/lang/IllegalArgumentException", Cond.classLink RL 17 "java/lang/UnsupportedOperationException", Cond.methodLink RL 39 yX3_pattern, Cond.instanceMethod yX3_pattern, Cond.selects RX3 yX3_pattern yX3_pattern, Cond.initialized RX3, Cond.code yX3_pattern cX3_pattern 2 (some .int), Cond.classLink RX3 104 "java/lang/UnsupportedOperationException", Cond.initialized "java/lang/UnsupportedOperationException", Cond.fieldLink RX3 21 "PieceText" "sought" "LPieceText$Row;", Cond.methodLink RX3 47 yX3_refuseNoCharacter, Cond.static yX3_refuseNoCharacter, Cond.code yX3_refuseNoCharacter cX3_refuseNoCharacter 1 none, Cond.classLink RX3 153 "java/lang/IllegalArgumentException", Cond.initialized "java/lang/IllegalArgumentException", Cond.methodLink RX3 63 yX2_size, Cond.instanceMethod yX2_size, Cond.selects RX2 yX2_size yX2_size, Cond.initialized RX2, Cond.code yX2_size cX2_size 1 (some .int), Cond.fieldLink RX2 13 "PieceText$Row" "length" "I", Cond.methodLink RX3 60 yX2_add, Cond.instanceMethod yX2_add, Cond.selects RX2 yX2_add yX2_add]
def wsL_pattern_r2 : List Cond := [Cond.code yX2_add cX2_add 2 none, Cond.fieldLink RX2 7 "PieceText$Row" "characters" "[I"]
def wsL_pattern : List Cond := .codeWith yL_pattern cL_pattern 4 (some .int) [(0, 9, 12, 15), (0, 9, 15, 17)] :: ((wsL_pattern_r1 ++ wsL_pattern_r2) ++ wsX30 ++ wsX20 ++ (vx_atS RX3 108 "java/lang/UnsupportedOperationException" ["java/lang/RuntimeException", "java/lang/Exception"]).filter goodWord ++ (vx_atS RX3 157 "java/lang/IllegalArgumentException" ["java/lang/RuntimeException", "java/lang/Exception"]).filter goodWord)
def wsL_find_r1 : List Cond := [Cond.classLink RL 13 "java/lang/IndexOutOfBoundsException", Cond.methodLink RL 42 yX3_find, Cond.instanceMethod yX3_find, Cond.selects RX3 yX3_find yX3_find, Cond.initialized RX3, Cond.code yX3_find cX3_find 4 (some .int), Cond.fieldLink RX3 10 "PieceText" "history" "LPieceText$History;", Cond.fieldLink RX3 21 "PieceText" "sought" "LPieceText$Row;", Cond.methodLink RX3 39 yX0_present, Cond.instanceMethod yX0_present, Cond.selects RX0 yX0_present yX0_present, Cond.initialized RX0, Cond.code yX0_present cX0_present 1 (some (.object "PieceText$Row")), Cond.fieldLink RX0 13 "PieceText$History" "texts" "[LPieceText$Row;", Cond.fieldLink RX0 20 "PieceText$History" "now" "I", Cond.methodLink RX3 43 yX3_refuseNoPlace, Cond.static yX3_refuseNoPlace, Cond.code yX3_refuseNoPlace cX3_refuseNoPlace 2 none, Cond.classLink RX3 74 "java/lang/IndexOutOfBoundsException", Cond.initialized "java/lang/IndexOutOfBoundsException", Cond.methodLink RX3 63 yX2_size, Cond.instanceMethod yX2_size, Cond.selects RX2 yX2_size yX2_size, Cond.initialized RX2]
def wsL_find_r2 : List Cond := [Cond.code yX2_size cX2_size 1 (some .int), Cond.fieldLink RX2 13 "PieceText$Row" "length" "I", Cond.methodLink RX3 109 yX2_hasAt, Cond.instanceMethod yX2_hasAt, Cond.selects RX2 yX2_hasAt yX2_hasAt, Cond.code yX2_hasAt cX2_hasAt 4 (some .boolean), Cond.fieldLink RX2 7 "PieceText$Row" "characters" "[I"]
def wsL_find : List Cond := .codeWith yL_find cL_find 4 (some .int) [(0, 9, 12, 13)] :: ((wsL_find_r1 ++ wsL_find_r2) ++ wsX30 ++ wsX00 ++ wsX20 ++ (vx_atS RX3 78 "java/lang/IndexOutOfBoundsException" ["java/lang/RuntimeException", "java/lang/Exception"]).filter goodWord)
def wsL_replace_r1 : List Cond := [Cond.classLink RL 15 "java/lang/IllegalArgumentException", Cond.classLink RL 34 "java/lang/IllegalStateException", Cond.methodLink RL 45 yX3_replace, Cond.instanceMethod yX3_replace, Cond.selects RX3 yX3_replace yX3_replace, Cond.initialized RX3, Cond.code yX3_replace cX3_replace 3 (some .int), Cond.classLink RX3 88 "java/lang/IllegalStateException", Cond.initialized "java/lang/IllegalStateException", Cond.fieldLink RX3 21 "PieceText" "sought" "LPieceText$Row;", Cond.methodLink RX3 47 yX3_refuseNoCharacter, Cond.static yX3_refuseNoCharacter, Cond.code yX3_refuseNoCharacter cX3_refuseNoCharacter 1 none, Cond.classLink RX3 153 "java/lang/IllegalArgumentException", Cond.initialized "java/lang/IllegalArgumentException", Cond.methodLink RX3 63 yX2_size, Cond.instanceMethod yX2_size, Cond.selects RX2 yX2_size yX2_size, Cond.initialized RX2, Cond.code yX2_size cX2_size 1 (some .int), Cond.fieldLink RX2 13 "PieceText$Row" "length" "I", Cond.methodLink RX3 115 yX3_draftReplaced, Cond.instanceMethod yX3_draftReplaced, Cond.selects RX3 yX3_draftReplaced yX3_draftReplaced]
def wsL_replace_r2 : List Cond := [Cond.code yX3_draftReplaced cX3_draftReplaced 6 (some .int), Cond.fieldLink RX3 10 "PieceText" "history" "LPieceText$History;", Cond.fieldLink RX3 32 "PieceText" "draft" "LPieceText$Row;", Cond.methodLink RX3 39 yX0_present, Cond.instanceMethod yX0_present, Cond.selects RX0 yX0_present yX0_present, Cond.initialized RX0, Cond.code yX0_present cX0_present 1 (some (.object "PieceText$Row")), Cond.fieldLink RX0 13 "PieceText$History" "texts" "[LPieceText$Row;", Cond.fieldLink RX0 20 "PieceText$History" "now" "I", Cond.methodLink RX3 53 yX2_empty, Cond.instanceMethod yX2_empty, Cond.selects RX2 yX2_empty yX2_empty, Cond.code yX2_empty cX2_empty 1 none, Cond.methodLink RX3 109 yX2_hasAt, Cond.instanceMethod yX2_hasAt, Cond.selects RX2 yX2_hasAt yX2_hasAt, Cond.code yX2_hasAt cX2_hasAt 4 (some .boolean), Cond.fieldLink RX2 7 "PieceText$Row" "characters" "[I", Cond.methodLink RX3 60 yX2_add, Cond.instanceMethod yX2_add, Cond.selects RX2 yX2_add yX2_add, Cond.code yX2_add cX2_add 2 none, Cond.methodLink RX3 81 yX2_get]
def wsL_replace_r3 : List Cond := [Cond.instanceMethod yX2_get, Cond.selects RX2 yX2_get yX2_get, Cond.code yX2_get cX2_get 2 (some .int), Cond.methodLink RX3 67 yX3_keepDraft, Cond.instanceMethod yX3_keepDraft, Cond.selects RX3 yX3_keepDraft yX3_keepDraft, Cond.code yX3_keepDraft cX3_keepDraft 1 (some .int), Cond.methodLink RX3 142 yX0_keep, Cond.instanceMethod yX0_keep, Cond.selects RX0 yX0_keep yX0_keep, Cond.code yX0_keep cX0_keep 2 none, Cond.fieldLink RX0 24 "PieceText$History" "past" "I", Cond.methodLink RX0 41 Lib.Math.min.name, Cond.static Lib.Math.min.name, Cond.initialized "java/lang/Math", Cond.code Lib.Math.min.name Lib.Math.min.code 2 (some .int), Cond.fieldLink RX0 27 "PieceText$History" "future" "I", Cond.methodLink RX0 30 yX2_empty, Cond.methodLink RX0 33 yX2_size, Cond.methodLink RX0 37 yX2_addPart, Cond.instanceMethod yX2_addPart, Cond.selects RX2 yX2_addPart yX2_addPart, Cond.code yX2_addPart cX2_addPart 4 none, Cond.methodLink RX2 17 arraycopyName]
def wsL_replace_r4 : List Cond := [Cond.native arraycopyName, Cond.static arraycopyName, Cond.initialized "java/lang/System"]
def wsL_replace : List Cond := .codeWith yL_replace cL_replace 4 (some .int) [(0, 9, 12, 15), (0, 9, 15, 34)] :: ((wsL_replace_r1 ++ (wsL_replace_r2 ++ (wsL_replace_r3 ++ wsL_replace_r4))) ++ wsX30 ++ wsX20 ++ wsX00 ++ (vx_atS RX3 92 "java/lang/IllegalStateException" ["java/lang/RuntimeException", "java/lang/Exception"]).filter goodWord ++ (vx_atS RX3 157 "java/lang/IllegalArgumentException" ["java/lang/RuntimeException", "java/lang/Exception"]).filter goodWord)
def wsL_word : List Cond := .codeWith yL_word cL_word 4 (some .int) [(0, 9, 12, 13)] :: ([.classLink RL 13 "java/lang/IndexOutOfBoundsException", .methodLink RL 48 yX3_word, .instanceMethod yX3_word, .selects RX3 yX3_word yX3_word, .initialized RX3, .code yX3_word cX3_word 2 (some .int), .fieldLink RX3 28 "PieceText" "written" "LPieceText$Phrases;", .methodLink RX3 123 yX3_refuseNoWord, .instanceMethod yX3_refuseNoWord, .selects RX3 yX3_refuseNoWord yX3_refuseNoWord, .code yX3_refuseNoWord cX3_refuseNoWord 2 none, .classLink RX3 74 "java/lang/IndexOutOfBoundsException", .initialized "java/lang/IndexOutOfBoundsException", .methodLink RX3 122 yX1_size, .instanceMethod yX1_size, .selects RX1 yX1_size yX1_size, .initialized RX1, .code yX1_size cX1_size 1 (some .int), .fieldLink RX1 18 "PieceText$Phrases" "count" "I", .methodLink RX3 126 yX1_get, .instanceMethod yX1_get, .selects RX1 yX1_get yX1_get, .code yX1_get cX1_get 2 (some .int), .fieldLink RX1 9 "PieceText$Phrases" "words" "[I"] ++ wsX30 ++ wsX10 ++ (vx_atS RX3 78 "java/lang/IndexOutOfBoundsException" ["java/lang/RuntimeException", "java/lang/Exception"]).filter goodWord)
def wsL_poke_r1 : List Cond := [Cond.classLink RL 13 "java/lang/IndexOutOfBoundsException", Cond.methodLink RL 51 yX3_poke, Cond.instanceMethod yX3_poke, Cond.selects RX3 yX3_poke yX3_poke, Cond.initialized RX3, Cond.code yX3_poke cX3_poke 4 (some .int), Cond.fieldLink RX3 28 "PieceText" "written" "LPieceText$Phrases;", Cond.methodLink RX3 123 yX3_refuseNoWord, Cond.instanceMethod yX3_refuseNoWord, Cond.selects RX3 yX3_refuseNoWord yX3_refuseNoWord, Cond.code yX3_refuseNoWord cX3_refuseNoWord 2 none, Cond.classLink RX3 74 "java/lang/IndexOutOfBoundsException", Cond.initialized "java/lang/IndexOutOfBoundsException", Cond.methodLink RX3 122 yX1_size, Cond.instanceMethod yX1_size, Cond.selects RX1 yX1_size yX1_size, Cond.initialized RX1, Cond.code yX1_size cX1_size 1 (some .int), Cond.fieldLink RX1 18 "PieceText$Phrases" "count" "I", Cond.methodLink RX3 126 yX1_get, Cond.instanceMethod yX1_get, Cond.selects RX1 yX1_get yX1_get, Cond.code yX1_get cX1_get 2 (some .int), Cond.fieldLink RX1 9 "PieceText$Phrases" "words" "[I"]
def wsL_poke_r2 : List Cond := [Cond.methodLink RX3 127 yX1_set, Cond.instanceMethod yX1_set, Cond.selects RX1 yX1_set yX1_set, Cond.code yX1_set cX1_set 3 none]
def wsL_poke : List Cond := .codeWith yL_poke cL_poke 5 (some .int) [(0, 10, 13, 13)] :: ((wsL_poke_r1 ++ wsL_poke_r2) ++ wsX30 ++ wsX10 ++ (vx_atS RX3 78 "java/lang/IndexOutOfBoundsException" ["java/lang/RuntimeException", "java/lang/Exception"]).filter goodWord)
abbrev vwCl : List vw_C := [(RX0, TX0, 4), (RX1, TX1, 3), (RX2, TX2, 2), (RX3, TX3, 5), (RX4, TX4, 13)]
end
section
set_option maxRecDepth 20000 in
theorem ggX0_init_X2_init : GoodIn wsX0_init wsX2_init := goodIn_r _ [13, 14, 2, 3, 15, 16, 17, 22, 23] (by decide +kernel) (by decide +kernel)
set_option maxRecDepth 20000 in
theorem gX0_init_X2_init : GoodIn wsX0_init (wsX2_init) := ggX0_init_X2_init
theorem dX0_init_0 : decode cX0_init 0 = .ok (.aload_n 0, 1) := by decide +kernel
theorem dX0_init_1 : decode cX0_init 1 = .ok (.invokespecial 3, 3) := by decide +kernel
theorem dX0_init_4 : decode cX0_init 4 = .ok (.aload_n 0, 1) := by decide +kernel
theorem dX0_init_5 : decode cX0_init 5 = .ok (.bipush 13, 2) := by decide +kernel
theorem dX0_init_7 : decode cX0_init 7 = .ok (.anewarray 11, 3) := by decide +kernel
theorem dX0_init_10 : decode cX0_init 10 = .ok (.putfield 13, 3) := by decide +kernel
theorem dX0_init_13 : decode cX0_init 13 = .ok (.iconst 0, 1) := by decide +kernel
theorem dX0_init_14 : decode cX0_init 14 = .ok (.istore_n 1, 1) := by decide +kernel
theorem dX0_init_15 : decode cX0_init 15 = .ok (.iload_n 1, 1) := by decide +kernel
theorem dX0_init_16 : decode cX0_init 16 = .ok (.bipush 13, 2) := by decide +kernel
theorem dX0_init_18 : decode cX0_init 18 = .ok (.if_icmp .ge 25, 3) := by decide +kernel
theorem dX0_init_21 : decode cX0_init 21 = .ok (.aload_n 0, 1) := by decide +kernel
theorem dX0_init_22 : decode cX0_init 22 = .ok (.getfield 13, 3) := by decide +kernel
theorem dX0_init_25 : decode cX0_init 25 = .ok (.iload_n 1, 1) := by decide +kernel
theorem dX0_init_26 : decode cX0_init 26 = .ok (.new 11, 3) := by decide +kernel
theorem dX0_init_29 : decode cX0_init 29 = .ok (.dup, 1) := by decide +kernel
theorem dX0_init_30 : decode cX0_init 30 = .ok (.sipush 240, 3) := by decide +kernel
theorem dX0_init_33 : decode cX0_init 33 = .ok (.invokespecial 17, 3) := by decide +kernel
theorem dX0_init_36 : decode cX0_init 36 = .ok (.aastore, 1) := by decide +kernel
theorem dX0_init_37 : decode cX0_init 37 = .ok (.iinc 1 1, 3) := by decide +kernel
theorem dX0_init_40 : decode cX0_init 40 = .ok (.goto (-25), 3) := by decide +kernel
theorem dX0_init_43 : decode cX0_init 43 = .ok (.aload_n 0, 1) := by decide +kernel
theorem dX0_init_44 : decode cX0_init 44 = .ok (.iconst 0, 1) := by decide +kernel
theorem dX0_init_45 : decode cX0_init 45 = .ok (.putfield 20, 3) := by decide +kernel
theorem dX0_init_48 : decode cX0_init 48 = .ok (.aload_n 0, 1) := by decide +kernel
theorem dX0_init_49 : decode cX0_init 49 = .ok (.iconst 0, 1) := by decide +kernel
theorem dX0_init_50 : decode cX0_init 50 = .ok (.putfield 24, 3) := by decide +kernel
theorem dX0_init_53 : decode cX0_init 53 = .ok (.aload_n 0, 1) := by decide +kernel
theorem dX0_init_54 : decode cX0_init 54 = .ok (.iconst 0, 1) := by decide +kernel
theorem dX0_init_55 : decode cX0_init 55 = .ok (.putfield 27, 3) := by decide +kernel
theorem dX0_init_58 : decode cX0_init 58 = .ok (.return_, 1) := by decide +kernel
theorem dX0_present_0 : decode cX0_present 0 = .ok (.aload_n 0, 1) := by decide +kernel
theorem dX0_present_1 : decode cX0_present 1 = .ok (.getfield 13, 3) := by decide +kernel
theorem dX0_present_4 : decode cX0_present 4 = .ok (.aload_n 0, 1) := by decide +kernel
theorem dX0_present_5 : decode cX0_present 5 = .ok (.getfield 20, 3) := by decide +kernel
theorem dX0_present_8 : decode cX0_present 8 = .ok (.aaload, 1) := by decide +kernel
theorem dX0_present_9 : decode cX0_present 9 = .ok (.areturn, 1) := by decide +kernel
theorem dX0_pastSize_0 : decode cX0_pastSize 0 = .ok (.aload_n 0, 1) := by decide +kernel
theorem dX0_pastSize_1 : decode cX0_pastSize 1 = .ok (.getfield 24, 3) := by decide +kernel
theorem dX0_pastSize_4 : decode cX0_pastSize 4 = .ok (.ireturn, 1) := by decide +kernel
theorem dX0_futureSize_0 : decode cX0_futureSize 0 = .ok (.aload_n 0, 1) := by decide +kernel
theorem dX0_futureSize_1 : decode cX0_futureSize 1 = .ok (.getfield 27, 3) := by decide +kernel
theorem dX0_futureSize_4 : decode cX0_futureSize 4 = .ok (.ireturn, 1) := by decide +kernel
set_option maxRecDepth 20000 in
theorem ggX0_keep_X2_empty : GoodIn wsX0_keep wsX2_empty := goodIn_r _ [13, 14, 32, 33] (by decide +kernel) (by decide +kernel)
set_option maxRecDepth 20000 in
theorem gX0_keep_X2_empty : GoodIn wsX0_keep (wsV RX0 30 RX2 yX2_empty wsX2_empty) := goodIn_app (goodIn_of _ (by decide +kernel)) ggX0_keep_X2_empty
set_option maxRecDepth 20000 in
theorem ggX0_keep_X2_size : GoodIn wsX0_keep wsX2_size := goodIn_r _ [18, 14, 32, 33] (by decide +kernel) (by decide +kernel)
set_option maxRecDepth 20000 in
theorem gX0_keep_X2_size : GoodIn wsX0_keep (wsV RX0 33 RX2 yX2_size wsX2_size) := goodIn_app (goodIn_of _ (by decide +kernel)) ggX0_keep_X2_size
set_option maxRecDepth 20000 in
theorem ggX0_keep_X2_addPart : GoodIn wsX0_keep wsX2_addPart := goodIn_r _ [22, 23, 14, 24, 25, 26, 27, 32, 33] (by decide +kernel) (by decide +kernel)
set_option maxRecDepth 20000 in
theorem gX0_keep_X2_addPart : GoodIn wsX0_keep (wsV RX0 37 RX2 yX2_addPart wsX2_addPart) := goodIn_app (goodIn_of _ (by decide +kernel)) ggX0_keep_X2_addPart
theorem dX0_keep_0 : decode cX0_keep 0 = .ok (.aload_n 0, 1) := by decide +kernel
theorem dX0_keep_1 : decode cX0_keep 1 = .ok (.aload_n 0, 1) := by decide +kernel
theorem dX0_keep_2 : decode cX0_keep 2 = .ok (.getfield 20, 3) := by decide +kernel
theorem dX0_keep_5 : decode cX0_keep 5 = .ok (.iconst 1, 1) := by decide +kernel
theorem dX0_keep_6 : decode cX0_keep 6 = .ok (.iadd, 1) := by decide +kernel
theorem dX0_keep_7 : decode cX0_keep 7 = .ok (.bipush 13, 2) := by decide +kernel
theorem dX0_keep_9 : decode cX0_keep 9 = .ok (.irem, 1) := by decide +kernel
theorem dX0_keep_10 : decode cX0_keep 10 = .ok (.putfield 20, 3) := by decide +kernel
theorem dX0_keep_13 : decode cX0_keep 13 = .ok (.aload_n 0, 1) := by decide +kernel
theorem dX0_keep_14 : decode cX0_keep 14 = .ok (.getfield 13, 3) := by decide +kernel
theorem dX0_keep_17 : decode cX0_keep 17 = .ok (.aload_n 0, 1) := by decide +kernel
theorem dX0_keep_18 : decode cX0_keep 18 = .ok (.getfield 20, 3) := by decide +kernel
theorem dX0_keep_21 : decode cX0_keep 21 = .ok (.aaload, 1) := by decide +kernel
theorem dX0_keep_22 : decode cX0_keep 22 = .ok (.invokevirtual 30, 3) := by decide +kernel
theorem dX0_keep_25 : decode cX0_keep 25 = .ok (.aload_n 0, 1) := by decide +kernel
theorem dX0_keep_26 : decode cX0_keep 26 = .ok (.getfield 13, 3) := by decide +kernel
theorem dX0_keep_29 : decode cX0_keep 29 = .ok (.aload_n 0, 1) := by decide +kernel
theorem dX0_keep_30 : decode cX0_keep 30 = .ok (.getfield 20, 3) := by decide +kernel
theorem dX0_keep_33 : decode cX0_keep 33 = .ok (.aaload, 1) := by decide +kernel
theorem dX0_keep_34 : decode cX0_keep 34 = .ok (.aload_n 1, 1) := by decide +kernel
theorem dX0_keep_35 : decode cX0_keep 35 = .ok (.iconst 0, 1) := by decide +kernel
theorem dX0_keep_36 : decode cX0_keep 36 = .ok (.aload_n 1, 1) := by decide +kernel
theorem dX0_keep_37 : decode cX0_keep 37 = .ok (.invokevirtual 33, 3) := by decide +kernel
theorem dX0_keep_40 : decode cX0_keep 40 = .ok (.invokevirtual 37, 3) := by decide +kernel
theorem dX0_keep_43 : decode cX0_keep 43 = .ok (.aload_n 0, 1) := by decide +kernel
theorem dX0_keep_44 : decode cX0_keep 44 = .ok (.aload_n 0, 1) := by decide +kernel
theorem dX0_keep_45 : decode cX0_keep 45 = .ok (.getfield 24, 3) := by decide +kernel
theorem dX0_keep_48 : decode cX0_keep 48 = .ok (.iconst 1, 1) := by decide +kernel
theorem dX0_keep_49 : decode cX0_keep 49 = .ok (.iadd, 1) := by decide +kernel
theorem dX0_keep_50 : decode cX0_keep 50 = .ok (.bipush 12, 2) := by decide +kernel
theorem dX0_keep_52 : decode cX0_keep 52 = .ok (.invokestatic 41, 3) := by decide +kernel
theorem dX0_keep_55 : decode cX0_keep 55 = .ok (.putfield 24, 3) := by decide +kernel
theorem dX0_keep_58 : decode cX0_keep 58 = .ok (.aload_n 0, 1) := by decide +kernel
theorem dX0_keep_59 : decode cX0_keep 59 = .ok (.iconst 0, 1) := by decide +kernel
theorem dX0_keep_60 : decode cX0_keep 60 = .ok (.putfield 27, 3) := by decide +kernel
theorem dX0_keep_63 : decode cX0_keep 63 = .ok (.return_, 1) := by decide +kernel
theorem dX0_stepBack_0 : decode cX0_stepBack 0 = .ok (.aload_n 0, 1) := by decide +kernel
theorem dX0_stepBack_1 : decode cX0_stepBack 1 = .ok (.aload_n 0, 1) := by decide +kernel
theorem dX0_stepBack_2 : decode cX0_stepBack 2 = .ok (.getfield 20, 3) := by decide +kernel
theorem dX0_stepBack_5 : decode cX0_stepBack 5 = .ok (.bipush 13, 2) := by decide +kernel
theorem dX0_stepBack_7 : decode cX0_stepBack 7 = .ok (.iadd, 1) := by decide +kernel
theorem dX0_stepBack_8 : decode cX0_stepBack 8 = .ok (.iconst 1, 1) := by decide +kernel
theorem dX0_stepBack_9 : decode cX0_stepBack 9 = .ok (.isub, 1) := by decide +kernel
theorem dX0_stepBack_10 : decode cX0_stepBack 10 = .ok (.bipush 13, 2) := by decide +kernel
theorem dX0_stepBack_12 : decode cX0_stepBack 12 = .ok (.irem, 1) := by decide +kernel
theorem dX0_stepBack_13 : decode cX0_stepBack 13 = .ok (.putfield 20, 3) := by decide +kernel
theorem dX0_stepBack_16 : decode cX0_stepBack 16 = .ok (.aload_n 0, 1) := by decide +kernel
theorem dX0_stepBack_17 : decode cX0_stepBack 17 = .ok (.dup, 1) := by decide +kernel
theorem dX0_stepBack_18 : decode cX0_stepBack 18 = .ok (.getfield 24, 3) := by decide +kernel
theorem dX0_stepBack_21 : decode cX0_stepBack 21 = .ok (.iconst 1, 1) := by decide +kernel
theorem dX0_stepBack_22 : decode cX0_stepBack 22 = .ok (.isub, 1) := by decide +kernel
theorem dX0_stepBack_23 : decode cX0_stepBack 23 = .ok (.putfield 24, 3) := by decide +kernel
theorem dX0_stepBack_26 : decode cX0_stepBack 26 = .ok (.aload_n 0, 1) := by decide +kernel
theorem dX0_stepBack_27 : decode cX0_stepBack 27 = .ok (.dup, 1) := by decide +kernel
theorem dX0_stepBack_28 : decode cX0_stepBack 28 = .ok (.getfield 27, 3) := by decide +kernel
theorem dX0_stepBack_31 : decode cX0_stepBack 31 = .ok (.iconst 1, 1) := by decide +kernel
theorem dX0_stepBack_32 : decode cX0_stepBack 32 = .ok (.iadd, 1) := by decide +kernel
theorem dX0_stepBack_33 : decode cX0_stepBack 33 = .ok (.putfield 27, 3) := by decide +kernel
theorem dX0_stepBack_36 : decode cX0_stepBack 36 = .ok (.return_, 1) := by decide +kernel
theorem dX0_stepOn_0 : decode cX0_stepOn 0 = .ok (.aload_n 0, 1) := by decide +kernel
theorem dX0_stepOn_1 : decode cX0_stepOn 1 = .ok (.aload_n 0, 1) := by decide +kernel
theorem dX0_stepOn_2 : decode cX0_stepOn 2 = .ok (.getfield 20, 3) := by decide +kernel
theorem dX0_stepOn_5 : decode cX0_stepOn 5 = .ok (.iconst 1, 1) := by decide +kernel
theorem dX0_stepOn_6 : decode cX0_stepOn 6 = .ok (.iadd, 1) := by decide +kernel
theorem dX0_stepOn_7 : decode cX0_stepOn 7 = .ok (.bipush 13, 2) := by decide +kernel
theorem dX0_stepOn_9 : decode cX0_stepOn 9 = .ok (.irem, 1) := by decide +kernel
theorem dX0_stepOn_10 : decode cX0_stepOn 10 = .ok (.putfield 20, 3) := by decide +kernel
theorem dX0_stepOn_13 : decode cX0_stepOn 13 = .ok (.aload_n 0, 1) := by decide +kernel
theorem dX0_stepOn_14 : decode cX0_stepOn 14 = .ok (.dup, 1) := by decide +kernel
theorem dX0_stepOn_15 : decode cX0_stepOn 15 = .ok (.getfield 24, 3) := by decide +kernel
theorem dX0_stepOn_18 : decode cX0_stepOn 18 = .ok (.iconst 1, 1) := by decide +kernel
theorem dX0_stepOn_19 : decode cX0_stepOn 19 = .ok (.iadd, 1) := by decide +kernel
theorem dX0_stepOn_20 : decode cX0_stepOn 20 = .ok (.putfield 24, 3) := by decide +kernel
theorem dX0_stepOn_23 : decode cX0_stepOn 23 = .ok (.aload_n 0, 1) := by decide +kernel
theorem dX0_stepOn_24 : decode cX0_stepOn 24 = .ok (.dup, 1) := by decide +kernel
theorem dX0_stepOn_25 : decode cX0_stepOn 25 = .ok (.getfield 27, 3) := by decide +kernel
theorem dX0_stepOn_28 : decode cX0_stepOn 28 = .ok (.iconst 1, 1) := by decide +kernel
theorem dX0_stepOn_29 : decode cX0_stepOn 29 = .ok (.isub, 1) := by decide +kernel
theorem dX0_stepOn_30 : decode cX0_stepOn 30 = .ok (.putfield 27, 3) := by decide +kernel
theorem dX0_stepOn_33 : decode cX0_stepOn 33 = .ok (.return_, 1) := by decide +kernel
set_option maxRecDepth 20000 in
theorem ggX0_forget_X2_empty : GoodIn wsX0_forget wsX2_empty := goodIn_r _ [9, 10, 15, 16] (by decide +kernel) (by decide +kernel)
set_option maxRecDepth 20000 in
theorem gX0_forget_X2_empty : GoodIn wsX0_forget (wsV RX0 30 RX2 yX2_empty wsX2_empty) := goodIn_app (goodIn_of _ (by decide +kernel)) ggX0_forget_X2_empty
theorem dX0_forget_0 : decode cX0_forget 0 = .ok (.aload_n 0, 1) := by decide +kernel
theorem dX0_forget_1 : decode cX0_forget 1 = .ok (.getfield 13, 3) := by decide +kernel
theorem dX0_forget_4 : decode cX0_forget 4 = .ok (.aload_n 0, 1) := by decide +kernel
theorem dX0_forget_5 : decode cX0_forget 5 = .ok (.getfield 20, 3) := by decide +kernel
theorem dX0_forget_8 : decode cX0_forget 8 = .ok (.aaload, 1) := by decide +kernel
theorem dX0_forget_9 : decode cX0_forget 9 = .ok (.invokevirtual 30, 3) := by decide +kernel
theorem dX0_forget_12 : decode cX0_forget 12 = .ok (.aload_n 0, 1) := by decide +kernel
theorem dX0_forget_13 : decode cX0_forget 13 = .ok (.iconst 0, 1) := by decide +kernel
theorem dX0_forget_14 : decode cX0_forget 14 = .ok (.putfield 24, 3) := by decide +kernel
theorem dX0_forget_17 : decode cX0_forget 17 = .ok (.aload_n 0, 1) := by decide +kernel
theorem dX0_forget_18 : decode cX0_forget 18 = .ok (.iconst 0, 1) := by decide +kernel
theorem dX0_forget_19 : decode cX0_forget 19 = .ok (.putfield 27, 3) := by decide +kernel
theorem dX0_forget_22 : decode cX0_forget 22 = .ok (.return_, 1) := by decide +kernel
theorem dX1_init_0 : decode cX1_init 0 = .ok (.aload_n 0, 1) := by decide +kernel
theorem dX1_init_1 : decode cX1_init 1 = .ok (.invokespecial 3, 3) := by decide +kernel
theorem dX1_init_4 : decode cX1_init 4 = .ok (.aload_n 0, 1) := by decide +kernel
theorem dX1_init_5 : decode cX1_init 5 = .ok (.sipush 240, 3) := by decide +kernel
theorem dX1_init_8 : decode cX1_init 8 = .ok (.newarray .int, 2) := by decide +kernel
theorem dX1_init_10 : decode cX1_init 10 = .ok (.putfield 9, 3) := by decide +kernel
theorem dX1_init_13 : decode cX1_init 13 = .ok (.aload_n 0, 1) := by decide +kernel
theorem dX1_init_14 : decode cX1_init 14 = .ok (.sipush 241, 3) := by decide +kernel
theorem dX1_init_17 : decode cX1_init 17 = .ok (.newarray .int, 2) := by decide +kernel
theorem dX1_init_19 : decode cX1_init 19 = .ok (.putfield 15, 3) := by decide +kernel
theorem dX1_init_22 : decode cX1_init 22 = .ok (.aload_n 0, 1) := by decide +kernel
theorem dX1_init_23 : decode cX1_init 23 = .ok (.iconst 0, 1) := by decide +kernel
theorem dX1_init_24 : decode cX1_init 24 = .ok (.putfield 18, 3) := by decide +kernel
theorem dX1_init_27 : decode cX1_init 27 = .ok (.return_, 1) := by decide +kernel
theorem dX1_size_0 : decode cX1_size 0 = .ok (.aload_n 0, 1) := by decide +kernel
theorem dX1_size_1 : decode cX1_size 1 = .ok (.getfield 18, 3) := by decide +kernel
theorem dX1_size_4 : decode cX1_size 4 = .ok (.ireturn, 1) := by decide +kernel
theorem dX1_get_0 : decode cX1_get 0 = .ok (.aload_n 0, 1) := by decide +kernel
theorem dX1_get_1 : decode cX1_get 1 = .ok (.getfield 9, 3) := by decide +kernel
theorem dX1_get_4 : decode cX1_get 4 = .ok (.iload_n 1, 1) := by decide +kernel
theorem dX1_get_5 : decode cX1_get 5 = .ok (.iaload, 1) := by decide +kernel
theorem dX1_get_6 : decode cX1_get 6 = .ok (.ireturn, 1) := by decide +kernel
theorem dX1_set_0 : decode cX1_set 0 = .ok (.aload_n 0, 1) := by decide +kernel
theorem dX1_set_1 : decode cX1_set 1 = .ok (.getfield 9, 3) := by decide +kernel
theorem dX1_set_4 : decode cX1_set 4 = .ok (.iload_n 1, 1) := by decide +kernel
theorem dX1_set_5 : decode cX1_set 5 = .ok (.iload_n 2, 1) := by decide +kernel
theorem dX1_set_6 : decode cX1_set 6 = .ok (.iastore, 1) := by decide +kernel
theorem dX1_set_7 : decode cX1_set 7 = .ok (.return_, 1) := by decide +kernel
theorem dX1_forget_0 : decode cX1_forget 0 = .ok (.aload_n 0, 1) := by decide +kernel
theorem dX1_forget_1 : decode cX1_forget 1 = .ok (.iconst 0, 1) := by decide +kernel
theorem dX1_forget_2 : decode cX1_forget 2 = .ok (.putfield 18, 3) := by decide +kernel
theorem dX1_forget_5 : decode cX1_forget 5 = .ok (.return_, 1) := by decide +kernel
set_option maxRecDepth 20000 in
theorem ggX1_writeDown_X2_size : GoodIn wsX1_writeDown wsX2_size := goodIn_r _ [6, 7, 26, 27] (by decide +kernel) (by decide +kernel)
set_option maxRecDepth 20000 in
theorem gX1_writeDown_X2_size : GoodIn wsX1_writeDown (wsV RX1 22 RX2 yX2_size wsX2_size) := goodIn_app (goodIn_of _ (by decide +kernel)) ggX1_writeDown_X2_size
set_option maxRecDepth 20000 in
theorem ggX1_writeDown_X2_get : GoodIn wsX1_writeDown wsX2_get := goodIn_r _ [11, 12, 26, 27] (by decide +kernel) (by decide +kernel)
set_option maxRecDepth 20000 in
theorem gX1_writeDown_X2_get : GoodIn wsX1_writeDown (wsV RX1 28 RX2 yX2_get wsX2_get) := goodIn_app (goodIn_of _ (by decide +kernel)) ggX1_writeDown_X2_get
set_option maxRecDepth 20000 in
theorem ggX1_writeDown_X1_numberOf : GoodIn wsX1_writeDown wsX1_numberOf := goodIn_r _ [17, 1, 18, 23, 24, 25] (by decide +kernel) (by decide +kernel)
set_option maxRecDepth 20000 in
theorem gX1_writeDown_X1_numberOf : GoodIn wsX1_writeDown (wsV RX1 32 RX1 yX1_numberOf wsX1_numberOf) := goodIn_app (goodIn_of _ (by decide +kernel)) ggX1_writeDown_X1_numberOf
set_option maxRecDepth 20000 in
theorem ggX1_writeDown_X1_addWord : GoodIn wsX1_writeDown wsX1_addWord := goodIn_r _ [22, 18, 1, 23, 24, 25] (by decide +kernel) (by decide +kernel)
set_option maxRecDepth 20000 in
theorem gX1_writeDown_X1_addWord : GoodIn wsX1_writeDown (wsV RX1 36 RX1 yX1_addWord wsX1_addWord) := goodIn_app (goodIn_of _ (by decide +kernel)) ggX1_writeDown_X1_addWord
theorem dX1_writeDown_0 : decode cX1_writeDown 0 = .ok (.aload_n 0, 1) := by decide +kernel
theorem dX1_writeDown_1 : decode cX1_writeDown 1 = .ok (.iconst 0, 1) := by decide +kernel
theorem dX1_writeDown_2 : decode cX1_writeDown 2 = .ok (.putfield 18, 3) := by decide +kernel
theorem dX1_writeDown_5 : decode cX1_writeDown 5 = .ok (.iconst 0, 1) := by decide +kernel
theorem dX1_writeDown_6 : decode cX1_writeDown 6 = .ok (.istore_n 2, 1) := by decide +kernel
theorem dX1_writeDown_7 : decode cX1_writeDown 7 = .ok (.iconst 0, 1) := by decide +kernel
theorem dX1_writeDown_8 : decode cX1_writeDown 8 = .ok (.istore_n 3, 1) := by decide +kernel
theorem dX1_writeDown_9 : decode cX1_writeDown 9 = .ok (.iload_n 3, 1) := by decide +kernel
theorem dX1_writeDown_10 : decode cX1_writeDown 10 = .ok (.aload_n 1, 1) := by decide +kernel
theorem dX1_writeDown_11 : decode cX1_writeDown 11 = .ok (.invokevirtual 22, 3) := by decide +kernel
theorem dX1_writeDown_14 : decode cX1_writeDown 14 = .ok (.if_icmp .ge 45, 3) := by decide +kernel
theorem dX1_writeDown_17 : decode cX1_writeDown 17 = .ok (.sipush 257, 3) := by decide +kernel
theorem dX1_writeDown_20 : decode cX1_writeDown 20 = .ok (.iload_n 2, 1) := by decide +kernel
theorem dX1_writeDown_21 : decode cX1_writeDown 21 = .ok (.imul, 1) := by decide +kernel
theorem dX1_writeDown_22 : decode cX1_writeDown 22 = .ok (.aload_n 1, 1) := by decide +kernel
theorem dX1_writeDown_23 : decode cX1_writeDown 23 = .ok (.iload_n 3, 1) := by decide +kernel
theorem dX1_writeDown_24 : decode cX1_writeDown 24 = .ok (.invokevirtual 28, 3) := by decide +kernel
theorem dX1_writeDown_27 : decode cX1_writeDown 27 = .ok (.iadd, 1) := by decide +kernel
theorem dX1_writeDown_28 : decode cX1_writeDown 28 = .ok (.istore 4, 2) := by decide +kernel
theorem dX1_writeDown_30 : decode cX1_writeDown 30 = .ok (.aload_n 0, 1) := by decide +kernel
theorem dX1_writeDown_31 : decode cX1_writeDown 31 = .ok (.iload 4, 2) := by decide +kernel
theorem dX1_writeDown_33 : decode cX1_writeDown 33 = .ok (.iload_n 2, 1) := by decide +kernel
theorem dX1_writeDown_34 : decode cX1_writeDown 34 = .ok (.invokevirtual 32, 3) := by decide +kernel
theorem dX1_writeDown_37 : decode cX1_writeDown 37 = .ok (.istore 5, 2) := by decide +kernel
theorem dX1_writeDown_39 : decode cX1_writeDown 39 = .ok (.iload 5, 2) := by decide +kernel
theorem dX1_writeDown_41 : decode cX1_writeDown 41 = .ok (.ifCond .ne 9, 3) := by decide +kernel
theorem dX1_writeDown_44 : decode cX1_writeDown 44 = .ok (.aload_n 0, 1) := by decide +kernel
theorem dX1_writeDown_45 : decode cX1_writeDown 45 = .ok (.iload 4, 2) := by decide +kernel
theorem dX1_writeDown_47 : decode cX1_writeDown 47 = .ok (.invokevirtual 36, 3) := by decide +kernel
theorem dX1_writeDown_50 : decode cX1_writeDown 50 = .ok (.iload 5, 2) := by decide +kernel
theorem dX1_writeDown_52 : decode cX1_writeDown 52 = .ok (.istore_n 2, 1) := by decide +kernel
theorem dX1_writeDown_53 : decode cX1_writeDown 53 = .ok (.iinc 3 1, 3) := by decide +kernel
theorem dX1_writeDown_56 : decode cX1_writeDown 56 = .ok (.goto (-47), 3) := by decide +kernel
theorem dX1_writeDown_59 : decode cX1_writeDown 59 = .ok (.iload_n 2, 1) := by decide +kernel
theorem dX1_writeDown_60 : decode cX1_writeDown 60 = .ok (.ifCond .le 16, 3) := by decide +kernel
theorem dX1_writeDown_63 : decode cX1_writeDown 63 = .ok (.aload_n 0, 1) := by decide +kernel
theorem dX1_writeDown_64 : decode cX1_writeDown 64 = .ok (.sipush 257, 3) := by decide +kernel
theorem dX1_writeDown_67 : decode cX1_writeDown 67 = .ok (.iload_n 2, 1) := by decide +kernel
theorem dX1_writeDown_68 : decode cX1_writeDown 68 = .ok (.imul, 1) := by decide +kernel
theorem dX1_writeDown_69 : decode cX1_writeDown 69 = .ok (.sipush 256, 3) := by decide +kernel
theorem dX1_writeDown_72 : decode cX1_writeDown 72 = .ok (.iadd, 1) := by decide +kernel
theorem dX1_writeDown_73 : decode cX1_writeDown 73 = .ok (.invokevirtual 36, 3) := by decide +kernel
theorem dX1_writeDown_76 : decode cX1_writeDown 76 = .ok (.return_, 1) := by decide +kernel
theorem dX1_addWord_0 : decode cX1_addWord 0 = .ok (.aload_n 0, 1) := by decide +kernel
theorem dX1_addWord_1 : decode cX1_addWord 1 = .ok (.getfield 9, 3) := by decide +kernel
theorem dX1_addWord_4 : decode cX1_addWord 4 = .ok (.aload_n 0, 1) := by decide +kernel
theorem dX1_addWord_5 : decode cX1_addWord 5 = .ok (.getfield 18, 3) := by decide +kernel
theorem dX1_addWord_8 : decode cX1_addWord 8 = .ok (.iload_n 1, 1) := by decide +kernel
theorem dX1_addWord_9 : decode cX1_addWord 9 = .ok (.iastore, 1) := by decide +kernel
theorem dX1_addWord_10 : decode cX1_addWord 10 = .ok (.aload_n 0, 1) := by decide +kernel
theorem dX1_addWord_11 : decode cX1_addWord 11 = .ok (.dup, 1) := by decide +kernel
theorem dX1_addWord_12 : decode cX1_addWord 12 = .ok (.getfield 18, 3) := by decide +kernel
theorem dX1_addWord_15 : decode cX1_addWord 15 = .ok (.iconst 1, 1) := by decide +kernel
theorem dX1_addWord_16 : decode cX1_addWord 16 = .ok (.iadd, 1) := by decide +kernel
theorem dX1_addWord_17 : decode cX1_addWord 17 = .ok (.putfield 18, 3) := by decide +kernel
theorem dX1_addWord_20 : decode cX1_addWord 20 = .ok (.return_, 1) := by decide +kernel
theorem dX1_numberOf_0 : decode cX1_numberOf 0 = .ok (.iload_n 2, 1) := by decide +kernel
theorem dX1_numberOf_1 : decode cX1_numberOf 1 = .ok (.istore_n 3, 1) := by decide +kernel
theorem dX1_numberOf_2 : decode cX1_numberOf 2 = .ok (.iload_n 3, 1) := by decide +kernel
theorem dX1_numberOf_3 : decode cX1_numberOf 3 = .ok (.aload_n 0, 1) := by decide +kernel
theorem dX1_numberOf_4 : decode cX1_numberOf 4 = .ok (.getfield 18, 3) := by decide +kernel
theorem dX1_numberOf_7 : decode cX1_numberOf 7 = .ok (.if_icmp .ge 23, 3) := by decide +kernel
theorem dX1_numberOf_10 : decode cX1_numberOf 10 = .ok (.aload_n 0, 1) := by decide +kernel
theorem dX1_numberOf_11 : decode cX1_numberOf 11 = .ok (.getfield 9, 3) := by decide +kernel
theorem dX1_numberOf_14 : decode cX1_numberOf 14 = .ok (.iload_n 3, 1) := by decide +kernel
theorem dX1_numberOf_15 : decode cX1_numberOf 15 = .ok (.iaload, 1) := by decide +kernel
theorem dX1_numberOf_16 : decode cX1_numberOf 16 = .ok (.iload_n 1, 1) := by decide +kernel
theorem dX1_numberOf_17 : decode cX1_numberOf 17 = .ok (.if_icmp .ne 7, 3) := by decide +kernel
theorem dX1_numberOf_20 : decode cX1_numberOf 20 = .ok (.iload_n 3, 1) := by decide +kernel
theorem dX1_numberOf_21 : decode cX1_numberOf 21 = .ok (.iconst 1, 1) := by decide +kernel
theorem dX1_numberOf_22 : decode cX1_numberOf 22 = .ok (.iadd, 1) := by decide +kernel
theorem dX1_numberOf_23 : decode cX1_numberOf 23 = .ok (.ireturn, 1) := by decide +kernel
theorem dX1_numberOf_24 : decode cX1_numberOf 24 = .ok (.iinc 3 1, 3) := by decide +kernel
theorem dX1_numberOf_27 : decode cX1_numberOf 27 = .ok (.goto (-25), 3) := by decide +kernel
theorem dX1_numberOf_30 : decode cX1_numberOf 30 = .ok (.iconst 0, 1) := by decide +kernel
theorem dX1_numberOf_31 : decode cX1_numberOf 31 = .ok (.ireturn, 1) := by decide +kernel
set_option maxRecDepth 20000 in
theorem ggX1_readInto_X2_empty : GoodIn wsX1_readInto wsX2_empty := goodIn_r _ [8, 9, 43, 44] (by decide +kernel) (by decide +kernel)
set_option maxRecDepth 20000 in
theorem gX1_readInto_X2_empty : GoodIn wsX1_readInto (wsV RX1 40 RX2 yX2_empty wsX2_empty) := goodIn_app (goodIn_of _ (by decide +kernel)) ggX1_readInto_X2_empty
set_option maxRecDepth 20000 in
theorem ggX1_readInto_X1_isPhrase : GoodIn wsX1_readInto wsX1_isPhrase := goodIn_r _ [14, 3, 2, 40, 41, 42] (by decide +kernel) (by decide +kernel)
set_option maxRecDepth 20000 in
theorem gX1_readInto_X1_isPhrase : GoodIn wsX1_readInto (wsV RX1 43 RX1 yX1_isPhrase wsX1_isPhrase) := goodIn_app (goodIn_of _ (by decide +kernel)) ggX1_readInto_X1_isPhrase
set_option maxRecDepth 20000 in
theorem ggX1_readInto_X1_lengthOf : GoodIn wsX1_readInto wsX1_lengthOf := goodIn_r _ [18, 1, 40, 41, 42] (by decide +kernel) (by decide +kernel)
set_option maxRecDepth 20000 in
theorem gX1_readInto_X1_lengthOf : GoodIn wsX1_readInto (wsV RX1 47 RX1 yX1_lengthOf wsX1_lengthOf) := goodIn_app (goodIn_of _ (by decide +kernel)) ggX1_readInto_X1_lengthOf
set_option maxRecDepth 20000 in
theorem ggX1_readInto_X2_size : GoodIn wsX1_readInto wsX2_size := goodIn_r _ [22, 9, 43, 44] (by decide +kernel) (by decide +kernel)
set_option maxRecDepth 20000 in
theorem gX1_readInto_X2_size : GoodIn wsX1_readInto (wsV RX1 22 RX2 yX2_size wsX2_size) := goodIn_app (goodIn_of _ (by decide +kernel)) ggX1_readInto_X2_size
set_option maxRecDepth 20000 in
theorem ggX1_readInto_X1_addPhrase : GoodIn wsX1_readInto wsX1_addPhrase := goodIn_r _ [26, 1, 27, 28, 29, 7, 30, 31, 9, 32, 33, 34, 35, 36, 37, 38, 39, 40, 41, 42, 43, 44] (by decide +kernel) (by decide +kernel)
set_option maxRecDepth 20000 in
theorem gX1_readInto_X1_addPhrase : GoodIn wsX1_readInto (wsV RX1 50 RX1 yX1_addPhrase wsX1_addPhrase) := goodIn_app (goodIn_of _ (by decide +kernel)) ggX1_readInto_X1_addPhrase
theorem dX1_readInto_0 : decode cX1_readInto 0 = .ok (.aload_n 1, 1) := by decide +kernel
theorem dX1_readInto_1 : decode cX1_readInto 1 = .ok (.invokevirtual 40, 3) := by decide +kernel
theorem dX1_readInto_4 : decode cX1_readInto 4 = .ok (.aload_n 0, 1) := by decide +kernel
theorem dX1_readInto_5 : decode cX1_readInto 5 = .ok (.getfield 15, 3) := by decide +kernel
theorem dX1_readInto_8 : decode cX1_readInto 8 = .ok (.iconst 0, 1) := by decide +kernel
theorem dX1_readInto_9 : decode cX1_readInto 9 = .ok (.iconst 0, 1) := by decide +kernel
theorem dX1_readInto_10 : decode cX1_readInto 10 = .ok (.iastore, 1) := by decide +kernel
theorem dX1_readInto_11 : decode cX1_readInto 11 = .ok (.iconst 0, 1) := by decide +kernel
theorem dX1_readInto_12 : decode cX1_readInto 12 = .ok (.istore_n 2, 1) := by decide +kernel
theorem dX1_readInto_13 : decode cX1_readInto 13 = .ok (.iload_n 2, 1) := by decide +kernel
theorem dX1_readInto_14 : decode cX1_readInto 14 = .ok (.aload_n 0, 1) := by decide +kernel
theorem dX1_readInto_15 : decode cX1_readInto 15 = .ok (.getfield 18, 3) := by decide +kernel
theorem dX1_readInto_18 : decode cX1_readInto 18 = .ok (.if_icmp .ge 63, 3) := by decide +kernel
theorem dX1_readInto_21 : decode cX1_readInto 21 = .ok (.aload_n 0, 1) := by decide +kernel
theorem dX1_readInto_22 : decode cX1_readInto 22 = .ok (.iload_n 2, 1) := by decide +kernel
theorem dX1_readInto_23 : decode cX1_readInto 23 = .ok (.invokevirtual 43, 3) := by decide +kernel
theorem dX1_readInto_26 : decode cX1_readInto 26 = .ok (.ifCond .eq 24, 3) := by decide +kernel
theorem dX1_readInto_29 : decode cX1_readInto 29 = .ok (.aload_n 0, 1) := by decide +kernel
theorem dX1_readInto_30 : decode cX1_readInto 30 = .ok (.aload_n 0, 1) := by decide +kernel
theorem dX1_readInto_31 : decode cX1_readInto 31 = .ok (.getfield 9, 3) := by decide +kernel
theorem dX1_readInto_34 : decode cX1_readInto 34 = .ok (.iload_n 2, 1) := by decide +kernel
theorem dX1_readInto_35 : decode cX1_readInto 35 = .ok (.iaload, 1) := by decide +kernel
theorem dX1_readInto_36 : decode cX1_readInto 36 = .ok (.invokevirtual 47, 3) := by decide +kernel
theorem dX1_readInto_39 : decode cX1_readInto 39 = .ok (.sipush 240, 3) := by decide +kernel
theorem dX1_readInto_42 : decode cX1_readInto 42 = .ok (.aload_n 1, 1) := by decide +kernel
theorem dX1_readInto_43 : decode cX1_readInto 43 = .ok (.invokevirtual 22, 3) := by decide +kernel
theorem dX1_readInto_46 : decode cX1_readInto 46 = .ok (.isub, 1) := by decide +kernel
theorem dX1_readInto_47 : decode cX1_readInto 47 = .ok (.if_icmp .le 5, 3) := by decide +kernel
theorem dX1_readInto_50 : decode cX1_readInto 50 = .ok (.iload_n 2, 1) := by decide +kernel
theorem dX1_readInto_51 : decode cX1_readInto 51 = .ok (.ireturn, 1) := by decide +kernel
theorem dX1_readInto_52 : decode cX1_readInto 52 = .ok (.aload_n 0, 1) := by decide +kernel
theorem dX1_readInto_53 : decode cX1_readInto 53 = .ok (.aload_n 0, 1) := by decide +kernel
theorem dX1_readInto_54 : decode cX1_readInto 54 = .ok (.getfield 9, 3) := by decide +kernel
theorem dX1_readInto_57 : decode cX1_readInto 57 = .ok (.iload_n 2, 1) := by decide +kernel
theorem dX1_readInto_58 : decode cX1_readInto 58 = .ok (.iaload, 1) := by decide +kernel
theorem dX1_readInto_59 : decode cX1_readInto 59 = .ok (.aload_n 1, 1) := by decide +kernel
theorem dX1_readInto_60 : decode cX1_readInto 60 = .ok (.invokevirtual 50, 3) := by decide +kernel
theorem dX1_readInto_63 : decode cX1_readInto 63 = .ok (.aload_n 0, 1) := by decide +kernel
theorem dX1_readInto_64 : decode cX1_readInto 64 = .ok (.getfield 15, 3) := by decide +kernel
theorem dX1_readInto_67 : decode cX1_readInto 67 = .ok (.iload_n 2, 1) := by decide +kernel
theorem dX1_readInto_68 : decode cX1_readInto 68 = .ok (.iconst 1, 1) := by decide +kernel
theorem dX1_readInto_69 : decode cX1_readInto 69 = .ok (.iadd, 1) := by decide +kernel
theorem dX1_readInto_70 : decode cX1_readInto 70 = .ok (.aload_n 1, 1) := by decide +kernel
theorem dX1_readInto_71 : decode cX1_readInto 71 = .ok (.invokevirtual 22, 3) := by decide +kernel
theorem dX1_readInto_74 : decode cX1_readInto 74 = .ok (.iastore, 1) := by decide +kernel
theorem dX1_readInto_75 : decode cX1_readInto 75 = .ok (.iinc 2 1, 3) := by decide +kernel
theorem dX1_readInto_78 : decode cX1_readInto 78 = .ok (.goto (-65), 3) := by decide +kernel
theorem dX1_readInto_81 : decode cX1_readInto 81 = .ok (.iconst (-1), 1) := by decide +kernel
theorem dX1_readInto_82 : decode cX1_readInto 82 = .ok (.ireturn, 1) := by decide +kernel
theorem dX1_isPhrase_0 : decode cX1_isPhrase 0 = .ok (.aload_n 0, 1) := by decide +kernel
theorem dX1_isPhrase_1 : decode cX1_isPhrase 1 = .ok (.getfield 9, 3) := by decide +kernel
theorem dX1_isPhrase_4 : decode cX1_isPhrase 4 = .ok (.iload_n 1, 1) := by decide +kernel
theorem dX1_isPhrase_5 : decode cX1_isPhrase 5 = .ok (.iaload, 1) := by decide +kernel
theorem dX1_isPhrase_6 : decode cX1_isPhrase 6 = .ok (.istore_n 2, 1) := by decide +kernel
theorem dX1_isPhrase_7 : decode cX1_isPhrase 7 = .ok (.iload_n 2, 1) := by decide +kernel
theorem dX1_isPhrase_8 : decode cX1_isPhrase 8 = .ok (.ifCond .lt 12, 3) := by decide +kernel
theorem dX1_isPhrase_11 : decode cX1_isPhrase 11 = .ok (.iload_n 2, 1) := by decide +kernel
theorem dX1_isPhrase_12 : decode cX1_isPhrase 12 = .ok (.sipush 257, 3) := by decide +kernel
theorem dX1_isPhrase_15 : decode cX1_isPhrase 15 = .ok (.idiv, 1) := by decide +kernel
theorem dX1_isPhrase_16 : decode cX1_isPhrase 16 = .ok (.iload_n 1, 1) := by decide +kernel
theorem dX1_isPhrase_17 : decode cX1_isPhrase 17 = .ok (.if_icmp .le 5, 3) := by decide +kernel
theorem dX1_isPhrase_20 : decode cX1_isPhrase 20 = .ok (.iconst 0, 1) := by decide +kernel
theorem dX1_isPhrase_21 : decode cX1_isPhrase 21 = .ok (.ireturn, 1) := by decide +kernel
theorem dX1_isPhrase_22 : decode cX1_isPhrase 22 = .ok (.iload_n 2, 1) := by decide +kernel
theorem dX1_isPhrase_23 : decode cX1_isPhrase 23 = .ok (.sipush 257, 3) := by decide +kernel
theorem dX1_isPhrase_26 : decode cX1_isPhrase 26 = .ok (.irem, 1) := by decide +kernel
theorem dX1_isPhrase_27 : decode cX1_isPhrase 27 = .ok (.sipush 256, 3) := by decide +kernel
theorem dX1_isPhrase_30 : decode cX1_isPhrase 30 = .ok (.if_icmp .eq 5, 3) := by decide +kernel
theorem dX1_isPhrase_33 : decode cX1_isPhrase 33 = .ok (.iconst 1, 1) := by decide +kernel
theorem dX1_isPhrase_34 : decode cX1_isPhrase 34 = .ok (.ireturn, 1) := by decide +kernel
theorem dX1_isPhrase_35 : decode cX1_isPhrase 35 = .ok (.iload_n 1, 1) := by decide +kernel
theorem dX1_isPhrase_36 : decode cX1_isPhrase 36 = .ok (.aload_n 0, 1) := by decide +kernel
theorem dX1_isPhrase_37 : decode cX1_isPhrase 37 = .ok (.getfield 18, 3) := by decide +kernel
theorem dX1_isPhrase_40 : decode cX1_isPhrase 40 = .ok (.iconst 1, 1) := by decide +kernel
theorem dX1_isPhrase_41 : decode cX1_isPhrase 41 = .ok (.isub, 1) := by decide +kernel
theorem dX1_isPhrase_42 : decode cX1_isPhrase 42 = .ok (.if_icmp .ne 15, 3) := by decide +kernel
theorem dX1_isPhrase_45 : decode cX1_isPhrase 45 = .ok (.iload_n 2, 1) := by decide +kernel
theorem dX1_isPhrase_46 : decode cX1_isPhrase 46 = .ok (.sipush 257, 3) := by decide +kernel
theorem dX1_isPhrase_49 : decode cX1_isPhrase 49 = .ok (.idiv, 1) := by decide +kernel
theorem dX1_isPhrase_50 : decode cX1_isPhrase 50 = .ok (.ifCond .le 7, 3) := by decide +kernel
theorem dX1_isPhrase_53 : decode cX1_isPhrase 53 = .ok (.iconst 1, 1) := by decide +kernel
theorem dX1_isPhrase_54 : decode cX1_isPhrase 54 = .ok (.goto 4, 3) := by decide +kernel
theorem dX1_isPhrase_57 : decode cX1_isPhrase 57 = .ok (.iconst 0, 1) := by decide +kernel
theorem dX1_isPhrase_58 : decode cX1_isPhrase 58 = .ok (.ireturn, 1) := by decide +kernel
theorem dX1_lengthOf_0 : decode cX1_lengthOf 0 = .ok (.iload_n 1, 1) := by decide +kernel
theorem dX1_lengthOf_1 : decode cX1_lengthOf 1 = .ok (.sipush 257, 3) := by decide +kernel
theorem dX1_lengthOf_4 : decode cX1_lengthOf 4 = .ok (.idiv, 1) := by decide +kernel
theorem dX1_lengthOf_5 : decode cX1_lengthOf 5 = .ok (.istore_n 2, 1) := by decide +kernel
theorem dX1_lengthOf_6 : decode cX1_lengthOf 6 = .ok (.iload_n 2, 1) := by decide +kernel
theorem dX1_lengthOf_7 : decode cX1_lengthOf 7 = .ok (.ifCond .ne 7, 3) := by decide +kernel
theorem dX1_lengthOf_10 : decode cX1_lengthOf 10 = .ok (.iconst 0, 1) := by decide +kernel
theorem dX1_lengthOf_11 : decode cX1_lengthOf 11 = .ok (.goto 18, 3) := by decide +kernel
theorem dX1_lengthOf_14 : decode cX1_lengthOf 14 = .ok (.aload_n 0, 1) := by decide +kernel
theorem dX1_lengthOf_15 : decode cX1_lengthOf 15 = .ok (.getfield 15, 3) := by decide +kernel
theorem dX1_lengthOf_18 : decode cX1_lengthOf 18 = .ok (.iload_n 2, 1) := by decide +kernel
theorem dX1_lengthOf_19 : decode cX1_lengthOf 19 = .ok (.iaload, 1) := by decide +kernel
theorem dX1_lengthOf_20 : decode cX1_lengthOf 20 = .ok (.aload_n 0, 1) := by decide +kernel
theorem dX1_lengthOf_21 : decode cX1_lengthOf 21 = .ok (.getfield 15, 3) := by decide +kernel
theorem dX1_lengthOf_24 : decode cX1_lengthOf 24 = .ok (.iload_n 2, 1) := by decide +kernel
theorem dX1_lengthOf_25 : decode cX1_lengthOf 25 = .ok (.iconst 1, 1) := by decide +kernel
theorem dX1_lengthOf_26 : decode cX1_lengthOf 26 = .ok (.isub, 1) := by decide +kernel
theorem dX1_lengthOf_27 : decode cX1_lengthOf 27 = .ok (.iaload, 1) := by decide +kernel
theorem dX1_lengthOf_28 : decode cX1_lengthOf 28 = .ok (.isub, 1) := by decide +kernel
theorem dX1_lengthOf_29 : decode cX1_lengthOf 29 = .ok (.istore_n 3, 1) := by decide +kernel
theorem dX1_lengthOf_30 : decode cX1_lengthOf 30 = .ok (.iload_n 1, 1) := by decide +kernel
theorem dX1_lengthOf_31 : decode cX1_lengthOf 31 = .ok (.sipush 257, 3) := by decide +kernel
theorem dX1_lengthOf_34 : decode cX1_lengthOf 34 = .ok (.irem, 1) := by decide +kernel
theorem dX1_lengthOf_35 : decode cX1_lengthOf 35 = .ok (.sipush 256, 3) := by decide +kernel
theorem dX1_lengthOf_38 : decode cX1_lengthOf 38 = .ok (.if_icmp .ne 7, 3) := by decide +kernel
theorem dX1_lengthOf_41 : decode cX1_lengthOf 41 = .ok (.iload_n 3, 1) := by decide +kernel
theorem dX1_lengthOf_42 : decode cX1_lengthOf 42 = .ok (.goto 6, 3) := by decide +kernel
theorem dX1_lengthOf_45 : decode cX1_lengthOf 45 = .ok (.iload_n 3, 1) := by decide +kernel
theorem dX1_lengthOf_46 : decode cX1_lengthOf 46 = .ok (.iconst 1, 1) := by decide +kernel
theorem dX1_lengthOf_47 : decode cX1_lengthOf 47 = .ok (.iadd, 1) := by decide +kernel
theorem dX1_lengthOf_48 : decode cX1_lengthOf 48 = .ok (.ireturn, 1) := by decide +kernel
set_option maxRecDepth 20000 in
theorem ggX1_addPhrase_X2_addPart : GoodIn wsX1_addPhrase wsX2_addPart := goodIn_r _ [6, 7, 8, 9, 10, 11, 12, 20, 21] (by decide +kernel) (by decide +kernel)
set_option maxRecDepth 20000 in
theorem gX1_addPhrase_X2_addPart : GoodIn wsX1_addPhrase (wsV RX1 54 RX2 yX2_addPart wsX2_addPart) := goodIn_app (goodIn_of _ (by decide +kernel)) ggX1_addPhrase_X2_addPart
set_option maxRecDepth 20000 in
theorem ggX1_addPhrase_X2_add : GoodIn wsX1_addPhrase wsX2_add := goodIn_r _ [16, 7, 8, 20, 21] (by decide +kernel) (by decide +kernel)
set_option maxRecDepth 20000 in
theorem gX1_addPhrase_X2_add : GoodIn wsX1_addPhrase (wsV RX1 58 RX2 yX2_add wsX2_add) := goodIn_app (goodIn_of _ (by decide +kernel)) ggX1_addPhrase_X2_add
theorem dX1_addPhrase_0 : decode cX1_addPhrase 0 = .ok (.iload_n 1, 1) := by decide +kernel
theorem dX1_addPhrase_1 : decode cX1_addPhrase 1 = .ok (.sipush 257, 3) := by decide +kernel
theorem dX1_addPhrase_4 : decode cX1_addPhrase 4 = .ok (.idiv, 1) := by decide +kernel
theorem dX1_addPhrase_5 : decode cX1_addPhrase 5 = .ok (.istore_n 3, 1) := by decide +kernel
theorem dX1_addPhrase_6 : decode cX1_addPhrase 6 = .ok (.iload_n 3, 1) := by decide +kernel
theorem dX1_addPhrase_7 : decode cX1_addPhrase 7 = .ok (.ifCond .le 22, 3) := by decide +kernel
theorem dX1_addPhrase_10 : decode cX1_addPhrase 10 = .ok (.aload_n 2, 1) := by decide +kernel
theorem dX1_addPhrase_11 : decode cX1_addPhrase 11 = .ok (.aload_n 2, 1) := by decide +kernel
theorem dX1_addPhrase_12 : decode cX1_addPhrase 12 = .ok (.aload_n 0, 1) := by decide +kernel
theorem dX1_addPhrase_13 : decode cX1_addPhrase 13 = .ok (.getfield 15, 3) := by decide +kernel
theorem dX1_addPhrase_16 : decode cX1_addPhrase 16 = .ok (.iload_n 3, 1) := by decide +kernel
theorem dX1_addPhrase_17 : decode cX1_addPhrase 17 = .ok (.iconst 1, 1) := by decide +kernel
theorem dX1_addPhrase_18 : decode cX1_addPhrase 18 = .ok (.isub, 1) := by decide +kernel
theorem dX1_addPhrase_19 : decode cX1_addPhrase 19 = .ok (.iaload, 1) := by decide +kernel
theorem dX1_addPhrase_20 : decode cX1_addPhrase 20 = .ok (.aload_n 0, 1) := by decide +kernel
theorem dX1_addPhrase_21 : decode cX1_addPhrase 21 = .ok (.getfield 15, 3) := by decide +kernel
theorem dX1_addPhrase_24 : decode cX1_addPhrase 24 = .ok (.iload_n 3, 1) := by decide +kernel
theorem dX1_addPhrase_25 : decode cX1_addPhrase 25 = .ok (.iaload, 1) := by decide +kernel
theorem dX1_addPhrase_26 : decode cX1_addPhrase 26 = .ok (.invokevirtual 54, 3) := by decide +kernel
theorem dX1_addPhrase_29 : decode cX1_addPhrase 29 = .ok (.iload_n 1, 1) := by decide +kernel
theorem dX1_addPhrase_30 : decode cX1_addPhrase 30 = .ok (.sipush 257, 3) := by decide +kernel
theorem dX1_addPhrase_33 : decode cX1_addPhrase 33 = .ok (.irem, 1) := by decide +kernel
theorem dX1_addPhrase_34 : decode cX1_addPhrase 34 = .ok (.sipush 256, 3) := by decide +kernel
theorem dX1_addPhrase_37 : decode cX1_addPhrase 37 = .ok (.if_icmp .eq 12, 3) := by decide +kernel
theorem dX1_addPhrase_40 : decode cX1_addPhrase 40 = .ok (.aload_n 2, 1) := by decide +kernel
theorem dX1_addPhrase_41 : decode cX1_addPhrase 41 = .ok (.iload_n 1, 1) := by decide +kernel
theorem dX1_addPhrase_42 : decode cX1_addPhrase 42 = .ok (.sipush 257, 3) := by decide +kernel
theorem dX1_addPhrase_45 : decode cX1_addPhrase 45 = .ok (.irem, 1) := by decide +kernel
theorem dX1_addPhrase_46 : decode cX1_addPhrase 46 = .ok (.invokevirtual 58, 3) := by decide +kernel
theorem dX1_addPhrase_49 : decode cX1_addPhrase 49 = .ok (.return_, 1) := by decide +kernel
theorem dX2_init_0 : decode cX2_init 0 = .ok (.aload_n 0, 1) := by decide +kernel
theorem dX2_init_1 : decode cX2_init 1 = .ok (.invokespecial 1, 3) := by decide +kernel
theorem dX2_init_4 : decode cX2_init 4 = .ok (.aload_n 0, 1) := by decide +kernel
theorem dX2_init_5 : decode cX2_init 5 = .ok (.iload_n 1, 1) := by decide +kernel
theorem dX2_init_6 : decode cX2_init 6 = .ok (.newarray .int, 2) := by decide +kernel
theorem dX2_init_8 : decode cX2_init 8 = .ok (.putfield 7, 3) := by decide +kernel
theorem dX2_init_11 : decode cX2_init 11 = .ok (.aload_n 0, 1) := by decide +kernel
theorem dX2_init_12 : decode cX2_init 12 = .ok (.iconst 0, 1) := by decide +kernel
theorem dX2_init_13 : decode cX2_init 13 = .ok (.putfield 13, 3) := by decide +kernel
theorem dX2_init_16 : decode cX2_init 16 = .ok (.return_, 1) := by decide +kernel
theorem dX2_size_0 : decode cX2_size 0 = .ok (.aload_n 0, 1) := by decide +kernel
theorem dX2_size_1 : decode cX2_size 1 = .ok (.getfield 13, 3) := by decide +kernel
theorem dX2_size_4 : decode cX2_size 4 = .ok (.ireturn, 1) := by decide +kernel
theorem dX2_get_0 : decode cX2_get 0 = .ok (.aload_n 0, 1) := by decide +kernel
theorem dX2_get_1 : decode cX2_get 1 = .ok (.getfield 7, 3) := by decide +kernel
theorem dX2_get_4 : decode cX2_get 4 = .ok (.iload_n 1, 1) := by decide +kernel
theorem dX2_get_5 : decode cX2_get 5 = .ok (.iaload, 1) := by decide +kernel
theorem dX2_get_6 : decode cX2_get 6 = .ok (.ireturn, 1) := by decide +kernel
theorem dX2_empty_0 : decode cX2_empty 0 = .ok (.aload_n 0, 1) := by decide +kernel
theorem dX2_empty_1 : decode cX2_empty 1 = .ok (.iconst 0, 1) := by decide +kernel
theorem dX2_empty_2 : decode cX2_empty 2 = .ok (.putfield 13, 3) := by decide +kernel
theorem dX2_empty_5 : decode cX2_empty 5 = .ok (.return_, 1) := by decide +kernel
theorem dX2_add_0 : decode cX2_add 0 = .ok (.aload_n 0, 1) := by decide +kernel
theorem dX2_add_1 : decode cX2_add 1 = .ok (.getfield 7, 3) := by decide +kernel
theorem dX2_add_4 : decode cX2_add 4 = .ok (.aload_n 0, 1) := by decide +kernel
theorem dX2_add_5 : decode cX2_add 5 = .ok (.getfield 13, 3) := by decide +kernel
theorem dX2_add_8 : decode cX2_add 8 = .ok (.iload_n 1, 1) := by decide +kernel
theorem dX2_add_9 : decode cX2_add 9 = .ok (.iastore, 1) := by decide +kernel
theorem dX2_add_10 : decode cX2_add 10 = .ok (.aload_n 0, 1) := by decide +kernel
theorem dX2_add_11 : decode cX2_add 11 = .ok (.dup, 1) := by decide +kernel
theorem dX2_add_12 : decode cX2_add 12 = .ok (.getfield 13, 3) := by decide +kernel
theorem dX2_add_15 : decode cX2_add 15 = .ok (.iconst 1, 1) := by decide +kernel
theorem dX2_add_16 : decode cX2_add 16 = .ok (.iadd, 1) := by decide +kernel
theorem dX2_add_17 : decode cX2_add 17 = .ok (.putfield 13, 3) := by decide +kernel
theorem dX2_add_20 : decode cX2_add 20 = .ok (.return_, 1) := by decide +kernel
theorem dX2_addPart_0 : decode cX2_addPart 0 = .ok (.aload_n 1, 1) := by decide +kernel
theorem dX2_addPart_1 : decode cX2_addPart 1 = .ok (.getfield 7, 3) := by decide +kernel
theorem dX2_addPart_4 : decode cX2_addPart 4 = .ok (.iload_n 2, 1) := by decide +kernel
theorem dX2_addPart_5 : decode cX2_addPart 5 = .ok (.aload_n 0, 1) := by decide +kernel
theorem dX2_addPart_6 : decode cX2_addPart 6 = .ok (.getfield 7, 3) := by decide +kernel
theorem dX2_addPart_9 : decode cX2_addPart 9 = .ok (.aload_n 0, 1) := by decide +kernel
theorem dX2_addPart_10 : decode cX2_addPart 10 = .ok (.getfield 13, 3) := by decide +kernel
theorem dX2_addPart_13 : decode cX2_addPart 13 = .ok (.iload_n 3, 1) := by decide +kernel
theorem dX2_addPart_14 : decode cX2_addPart 14 = .ok (.iload_n 2, 1) := by decide +kernel
theorem dX2_addPart_15 : decode cX2_addPart 15 = .ok (.isub, 1) := by decide +kernel
theorem dX2_addPart_16 : decode cX2_addPart 16 = .ok (.invokestatic 17, 3) := by decide +kernel
theorem dX2_addPart_19 : decode cX2_addPart 19 = .ok (.aload_n 0, 1) := by decide +kernel
theorem dX2_addPart_20 : decode cX2_addPart 20 = .ok (.dup, 1) := by decide +kernel
theorem dX2_addPart_21 : decode cX2_addPart 21 = .ok (.getfield 13, 3) := by decide +kernel
theorem dX2_addPart_24 : decode cX2_addPart 24 = .ok (.iload_n 3, 1) := by decide +kernel
theorem dX2_addPart_25 : decode cX2_addPart 25 = .ok (.iload_n 2, 1) := by decide +kernel
theorem dX2_addPart_26 : decode cX2_addPart 26 = .ok (.isub, 1) := by decide +kernel
theorem dX2_addPart_27 : decode cX2_addPart 27 = .ok (.iadd, 1) := by decide +kernel
theorem dX2_addPart_28 : decode cX2_addPart 28 = .ok (.putfield 13, 3) := by decide +kernel
theorem dX2_addPart_31 : decode cX2_addPart 31 = .ok (.return_, 1) := by decide +kernel
theorem dX2_hasAt_0 : decode cX2_hasAt 0 = .ok (.aload_n 2, 1) := by decide +kernel
theorem dX2_hasAt_1 : decode cX2_hasAt 1 = .ok (.getfield 13, 3) := by decide +kernel
theorem dX2_hasAt_4 : decode cX2_hasAt 4 = .ok (.aload_n 0, 1) := by decide +kernel
theorem dX2_hasAt_5 : decode cX2_hasAt 5 = .ok (.getfield 13, 3) := by decide +kernel
theorem dX2_hasAt_8 : decode cX2_hasAt 8 = .ok (.iload_n 1, 1) := by decide +kernel
theorem dX2_hasAt_9 : decode cX2_hasAt 9 = .ok (.isub, 1) := by decide +kernel
theorem dX2_hasAt_10 : decode cX2_hasAt 10 = .ok (.if_icmp .le 5, 3) := by decide +kernel
theorem dX2_hasAt_13 : decode cX2_hasAt 13 = .ok (.iconst 0, 1) := by decide +kernel
theorem dX2_hasAt_14 : decode cX2_hasAt 14 = .ok (.ireturn, 1) := by decide +kernel
theorem dX2_hasAt_15 : decode cX2_hasAt 15 = .ok (.iconst 0, 1) := by decide +kernel
theorem dX2_hasAt_16 : decode cX2_hasAt 16 = .ok (.istore_n 3, 1) := by decide +kernel
theorem dX2_hasAt_17 : decode cX2_hasAt 17 = .ok (.iload_n 3, 1) := by decide +kernel
theorem dX2_hasAt_18 : decode cX2_hasAt 18 = .ok (.aload_n 2, 1) := by decide +kernel
theorem dX2_hasAt_19 : decode cX2_hasAt 19 = .ok (.getfield 13, 3) := by decide +kernel
theorem dX2_hasAt_22 : decode cX2_hasAt 22 = .ok (.if_icmp .ge 28, 3) := by decide +kernel
theorem dX2_hasAt_25 : decode cX2_hasAt 25 = .ok (.aload_n 0, 1) := by decide +kernel
theorem dX2_hasAt_26 : decode cX2_hasAt 26 = .ok (.getfield 7, 3) := by decide +kernel
theorem dX2_hasAt_29 : decode cX2_hasAt 29 = .ok (.iload_n 1, 1) := by decide +kernel
theorem dX2_hasAt_30 : decode cX2_hasAt 30 = .ok (.iload_n 3, 1) := by decide +kernel
theorem dX2_hasAt_31 : decode cX2_hasAt 31 = .ok (.iadd, 1) := by decide +kernel
theorem dX2_hasAt_32 : decode cX2_hasAt 32 = .ok (.iaload, 1) := by decide +kernel
theorem dX2_hasAt_33 : decode cX2_hasAt 33 = .ok (.aload_n 2, 1) := by decide +kernel
theorem dX2_hasAt_34 : decode cX2_hasAt 34 = .ok (.getfield 7, 3) := by decide +kernel
theorem dX2_hasAt_37 : decode cX2_hasAt 37 = .ok (.iload_n 3, 1) := by decide +kernel
theorem dX2_hasAt_38 : decode cX2_hasAt 38 = .ok (.iaload, 1) := by decide +kernel
theorem dX2_hasAt_39 : decode cX2_hasAt 39 = .ok (.if_icmp .eq 5, 3) := by decide +kernel
theorem dX2_hasAt_42 : decode cX2_hasAt 42 = .ok (.iconst 0, 1) := by decide +kernel
theorem dX2_hasAt_43 : decode cX2_hasAt 43 = .ok (.ireturn, 1) := by decide +kernel
theorem dX2_hasAt_44 : decode cX2_hasAt 44 = .ok (.iinc 3 1, 3) := by decide +kernel
theorem dX2_hasAt_47 : decode cX2_hasAt 47 = .ok (.goto (-30), 3) := by decide +kernel
theorem dX2_hasAt_50 : decode cX2_hasAt 50 = .ok (.iconst 1, 1) := by decide +kernel
theorem dX2_hasAt_51 : decode cX2_hasAt 51 = .ok (.ireturn, 1) := by decide +kernel
theorem dJ7_fill_53178_0 : decode cJ7_fill_53178 0 = .ok (.iconst 0, 1) := by decide +kernel
theorem dJ7_fill_53178_1 : decode cJ7_fill_53178 1 = .ok (.istore_n 2, 1) := by decide +kernel
theorem dJ7_fill_53178_2 : decode cJ7_fill_53178 2 = .ok (.aload_n 0, 1) := by decide +kernel
theorem dJ7_fill_53178_3 : decode cJ7_fill_53178 3 = .ok (.arraylength, 1) := by decide +kernel
theorem dJ7_fill_53178_4 : decode cJ7_fill_53178 4 = .ok (.istore_n 3, 1) := by decide +kernel
theorem dJ7_fill_53178_5 : decode cJ7_fill_53178 5 = .ok (.iload_n 2, 1) := by decide +kernel
theorem dJ7_fill_53178_6 : decode cJ7_fill_53178 6 = .ok (.iload_n 3, 1) := by decide +kernel
theorem dJ7_fill_53178_7 : decode cJ7_fill_53178 7 = .ok (.if_icmp .ge 13, 3) := by decide +kernel
theorem dJ7_fill_53178_10 : decode cJ7_fill_53178 10 = .ok (.aload_n 0, 1) := by decide +kernel
theorem dJ7_fill_53178_11 : decode cJ7_fill_53178 11 = .ok (.iload_n 2, 1) := by decide +kernel
theorem dJ7_fill_53178_12 : decode cJ7_fill_53178 12 = .ok (.iload_n 1, 1) := by decide +kernel
theorem dJ7_fill_53178_13 : decode cJ7_fill_53178 13 = .ok (.iastore, 1) := by decide +kernel
theorem dJ7_fill_53178_14 : decode cJ7_fill_53178 14 = .ok (.iinc 2 1, 3) := by decide +kernel
theorem dJ7_fill_53178_17 : decode cJ7_fill_53178 17 = .ok (.goto (-12), 3) := by decide +kernel
theorem dJ7_fill_53178_20 : decode cJ7_fill_53178 20 = .ok (.return_, 1) := by decide +kernel
theorem dJ9_min_7cf53_0 : decode cJ9_min_7cf53 0 = .ok (.iload_n 0, 1) := by decide +kernel
theorem dJ9_min_7cf53_1 : decode cJ9_min_7cf53 1 = .ok (.iload_n 1, 1) := by decide +kernel
theorem dJ9_min_7cf53_2 : decode cJ9_min_7cf53 2 = .ok (.if_icmp .gt 7, 3) := by decide +kernel
theorem dJ9_min_7cf53_5 : decode cJ9_min_7cf53 5 = .ok (.iload_n 0, 1) := by decide +kernel
theorem dJ9_min_7cf53_6 : decode cJ9_min_7cf53 6 = .ok (.goto 4, 3) := by decide +kernel
theorem dJ9_min_7cf53_9 : decode cJ9_min_7cf53 9 = .ok (.iload_n 1, 1) := by decide +kernel
theorem dJ9_min_7cf53_10 : decode cJ9_min_7cf53 10 = .ok (.ireturn, 1) := by decide +kernel
end
section
set_option maxRecDepth 20000 in
theorem ggX3_init_X0_init : GoodIn wsX3_init wsX0_init := goodIn_r _ [21, 22, 2, 3, 23, 24, 9, 10, 25, 26, 27, 28, 29, 30, 31, 17, 32, 33, 42, 43, 44, 45, 51, 52] (by decide +kernel) (by decide +kernel)
set_option maxRecDepth 20000 in
theorem gX3_init_X0_init : GoodIn wsX3_init (wsX0_init) := ggX3_init_X0_init
set_option maxRecDepth 20000 in
theorem ggX3_init_X2_init : GoodIn wsX3_init wsX2_init := goodIn_r _ [30, 31, 2, 3, 17, 32, 33, 51, 52] (by decide +kernel) (by decide +kernel)
set_option maxRecDepth 20000 in
theorem gX3_init_X2_init : GoodIn wsX3_init (wsX2_init) := ggX3_init_X2_init
set_option maxRecDepth 20000 in
theorem ggX3_init_X1_init : GoodIn wsX3_init wsX1_init := goodIn_r _ [37, 38, 2, 3, 17, 39, 40, 41, 53, 54, 55] (by decide +kernel) (by decide +kernel)
set_option maxRecDepth 20000 in
theorem gX3_init_X1_init : GoodIn wsX3_init (wsX1_init) := ggX3_init_X1_init
theorem dX3_init_0 : decode cX3_init 0 = .ok (.aload_n 0, 1) := by decide +kernel
theorem dX3_init_1 : decode cX3_init 1 = .ok (.invokespecial 1, 3) := by decide +kernel
theorem dX3_init_4 : decode cX3_init 4 = .ok (.aload_n 0, 1) := by decide +kernel
theorem dX3_init_5 : decode cX3_init 5 = .ok (.new 7, 3) := by decide +kernel
theorem dX3_init_8 : decode cX3_init 8 = .ok (.dup, 1) := by decide +kernel
theorem dX3_init_9 : decode cX3_init 9 = .ok (.invokespecial 9, 3) := by decide +kernel
theorem dX3_init_12 : decode cX3_init 12 = .ok (.putfield 10, 3) := by decide +kernel
theorem dX3_init_15 : decode cX3_init 15 = .ok (.aload_n 0, 1) := by decide +kernel
theorem dX3_init_16 : decode cX3_init 16 = .ok (.new 16, 3) := by decide +kernel
theorem dX3_init_19 : decode cX3_init 19 = .ok (.dup, 1) := by decide +kernel
theorem dX3_init_20 : decode cX3_init 20 = .ok (.bipush 16, 2) := by decide +kernel
theorem dX3_init_22 : decode cX3_init 22 = .ok (.invokespecial 18, 3) := by decide +kernel
theorem dX3_init_25 : decode cX3_init 25 = .ok (.putfield 21, 3) := by decide +kernel
theorem dX3_init_28 : decode cX3_init 28 = .ok (.aload_n 0, 1) := by decide +kernel
theorem dX3_init_29 : decode cX3_init 29 = .ok (.new 25, 3) := by decide +kernel
theorem dX3_init_32 : decode cX3_init 32 = .ok (.dup, 1) := by decide +kernel
theorem dX3_init_33 : decode cX3_init 33 = .ok (.invokespecial 27, 3) := by decide +kernel
theorem dX3_init_36 : decode cX3_init 36 = .ok (.putfield 28, 3) := by decide +kernel
theorem dX3_init_39 : decode cX3_init 39 = .ok (.aload_n 0, 1) := by decide +kernel
theorem dX3_init_40 : decode cX3_init 40 = .ok (.new 16, 3) := by decide +kernel
theorem dX3_init_43 : decode cX3_init 43 = .ok (.dup, 1) := by decide +kernel
theorem dX3_init_44 : decode cX3_init 44 = .ok (.sipush 240, 3) := by decide +kernel
theorem dX3_init_47 : decode cX3_init 47 = .ok (.invokespecial 18, 3) := by decide +kernel
theorem dX3_init_50 : decode cX3_init 50 = .ok (.putfield 32, 3) := by decide +kernel
theorem dX3_init_53 : decode cX3_init 53 = .ok (.aload_n 0, 1) := by decide +kernel
theorem dX3_init_54 : decode cX3_init 54 = .ok (.sipush 256, 3) := by decide +kernel
theorem dX3_init_57 : decode cX3_init 57 = .ok (.newarray .int, 2) := by decide +kernel
theorem dX3_init_59 : decode cX3_init 59 = .ok (.putfield 35, 3) := by decide +kernel
theorem dX3_init_62 : decode cX3_init 62 = .ok (.return_, 1) := by decide +kernel
set_option maxRecDepth 20000 in
theorem ggX3_insert_X0_present : GoodIn wsX3_insert wsX0_present := goodIn_r _ [7, 8, 9, 71, 72, 73, 74] (by decide +kernel) (by decide +kernel)
set_option maxRecDepth 20000 in
theorem gX3_insert_X0_present : GoodIn wsX3_insert (wsV RX3 39 RX0 yX0_present wsX0_present) := goodIn_app (goodIn_of _ (by decide +kernel)) ggX3_insert_X0_present
set_option maxRecDepth 20000 in
theorem ggX3_insert_X3_refuseNoPlace : GoodIn wsX3_insert wsX3_refuseNoPlace := goodIn_ca (goodIn_r _ [13, 14, 15, 16, 17, 18, 19, 20, 21, 75, 76] (by decide +kernel) (by decide +kernel)) (goodIn_sub (fun _ h => List.mem_cons_of_mem _ (List.mem_append_left _ (List.mem_append_left _ (List.mem_append_right _ h)))) (by decide +kernel))
set_option maxRecDepth 20000 in
theorem gX3_insert_X3_refuseNoPlace : GoodIn wsX3_insert (va_wsS RX3 43 yX3_refuseNoPlace wsX3_refuseNoPlace) := goodIn_app (goodIn_of _ (by decide +kernel)) ggX3_insert_X3_refuseNoPlace
set_option maxRecDepth 20000 in
theorem ggX3_insert_X3_refuseNoCharacter : GoodIn wsX3_insert wsX3_refuseNoCharacter := goodIn_ca (goodIn_r _ [24, 25, 26] (by decide +kernel) (by decide +kernel)) (goodIn_sub (fun _ h => List.mem_cons_of_mem _ (List.mem_append_left _ (List.mem_append_right _ h))) (by decide +kernel))
set_option maxRecDepth 20000 in
theorem gX3_insert_X3_refuseNoCharacter : GoodIn wsX3_insert (va_wsS RX3 47 yX3_refuseNoCharacter wsX3_refuseNoCharacter) := goodIn_app (goodIn_of _ (by decide +kernel)) ggX3_insert_X3_refuseNoCharacter
set_option maxRecDepth 20000 in
theorem ggX3_insert_X3_refuseTooLong : GoodIn wsX3_insert wsX3_refuseTooLong := goodIn_ca (goodIn_r _ [29, 30, 31, 16, 17, 18, 19, 20, 21, 75, 76] (by decide +kernel) (by decide +kernel)) (goodIn_sub (fun _ h => List.mem_cons_of_mem _ (List.mem_append_right _ h)) (by decide +kernel))
set_option maxRecDepth 20000 in
theorem gX3_insert_X3_refuseTooLong : GoodIn wsX3_insert (va_wsS RX3 50 yX3_refuseTooLong wsX3_refuseTooLong) := goodIn_app (goodIn_of _ (by decide +kernel)) ggX3_insert_X3_refuseTooLong
set_option maxRecDepth 20000 in
theorem ggX3_insert_X2_empty : GoodIn wsX3_insert wsX2_empty := goodIn_r _ [35, 21, 75, 76] (by decide +kernel) (by decide +kernel)
set_option maxRecDepth 20000 in
theorem gX3_insert_X2_empty : GoodIn wsX3_insert (wsV RX3 53 RX2 yX2_empty wsX2_empty) := goodIn_app (goodIn_of _ (by decide +kernel)) ggX3_insert_X2_empty
set_option maxRecDepth 20000 in
theorem ggX3_insert_X2_addPart : GoodIn wsX3_insert wsX2_addPart := goodIn_r _ [39, 40, 21, 41, 42, 43, 44, 75, 76] (by decide +kernel) (by decide +kernel)
set_option maxRecDepth 20000 in
theorem gX3_insert_X2_addPart : GoodIn wsX3_insert (wsV RX3 56 RX2 yX2_addPart wsX2_addPart) := goodIn_app (goodIn_of _ (by decide +kernel)) ggX3_insert_X2_addPart
set_option maxRecDepth 20000 in
theorem ggX3_insert_X2_add : GoodIn wsX3_insert wsX2_add := goodIn_r _ [48, 40, 21, 75, 76] (by decide +kernel) (by decide +kernel)
set_option maxRecDepth 20000 in
theorem gX3_insert_X2_add : GoodIn wsX3_insert (wsV RX3 60 RX2 yX2_add wsX2_add) := goodIn_app (goodIn_of _ (by decide +kernel)) ggX3_insert_X2_add
set_option maxRecDepth 20000 in
theorem ggX3_insert_X2_size : GoodIn wsX3_insert wsX2_size := goodIn_r _ [20, 21, 75, 76] (by decide +kernel) (by decide +kernel)
set_option maxRecDepth 20000 in
theorem gX3_insert_X2_size : GoodIn wsX3_insert (wsV RX3 63 RX2 yX2_size wsX2_size) := goodIn_app (goodIn_of _ (by decide +kernel)) ggX3_insert_X2_size
set_option maxRecDepth 20000 in
theorem ggX3_insert_X3_keepDraft : GoodIn wsX3_insert wsX3_keepDraft := goodIn_r _ [52, 1, 2, 53, 54, 55, 6, 56, 9, 8, 57, 58, 59, 60, 61, 62, 63, 33, 34, 19, 35, 21, 64, 17, 18, 20, 65, 37, 38, 39, 40, 41, 42, 43, 44, 16, 66, 67, 68, 69, 70, 71, 72, 73, 74, 75, 76] (by decide +kernel) (by decide +kernel)
set_option maxRecDepth 20000 in
theorem gX3_insert_X3_keepDraft : GoodIn wsX3_insert (wsV RX3 67 RX3 yX3_keepDraft wsX3_keepDraft) := goodIn_app (goodIn_of _ (by decide +kernel)) ggX3_insert_X3_keepDraft
theorem dX3_insert_0 : decode cX3_insert 0 = .ok (.aload_n 0, 1) := by decide +kernel
theorem dX3_insert_1 : decode cX3_insert 1 = .ok (.getfield 10, 3) := by decide +kernel
theorem dX3_insert_4 : decode cX3_insert 4 = .ok (.invokevirtual 39, 3) := by decide +kernel
theorem dX3_insert_7 : decode cX3_insert 7 = .ok (.astore_n 3, 1) := by decide +kernel
theorem dX3_insert_8 : decode cX3_insert 8 = .ok (.iload_n 1, 1) := by decide +kernel
theorem dX3_insert_9 : decode cX3_insert 9 = .ok (.aload_n 3, 1) := by decide +kernel
theorem dX3_insert_10 : decode cX3_insert 10 = .ok (.invokestatic 43, 3) := by decide +kernel
theorem dX3_insert_13 : decode cX3_insert 13 = .ok (.iload_n 2, 1) := by decide +kernel
theorem dX3_insert_14 : decode cX3_insert 14 = .ok (.invokestatic 47, 3) := by decide +kernel
theorem dX3_insert_17 : decode cX3_insert 17 = .ok (.iconst 1, 1) := by decide +kernel
theorem dX3_insert_18 : decode cX3_insert 18 = .ok (.aload_n 3, 1) := by decide +kernel
theorem dX3_insert_19 : decode cX3_insert 19 = .ok (.invokestatic 50, 3) := by decide +kernel
theorem dX3_insert_22 : decode cX3_insert 22 = .ok (.aload_n 0, 1) := by decide +kernel
theorem dX3_insert_23 : decode cX3_insert 23 = .ok (.getfield 32, 3) := by decide +kernel
theorem dX3_insert_26 : decode cX3_insert 26 = .ok (.invokevirtual 53, 3) := by decide +kernel
theorem dX3_insert_29 : decode cX3_insert 29 = .ok (.aload_n 0, 1) := by decide +kernel
theorem dX3_insert_30 : decode cX3_insert 30 = .ok (.getfield 32, 3) := by decide +kernel
theorem dX3_insert_33 : decode cX3_insert 33 = .ok (.aload_n 3, 1) := by decide +kernel
theorem dX3_insert_34 : decode cX3_insert 34 = .ok (.iconst 0, 1) := by decide +kernel
theorem dX3_insert_35 : decode cX3_insert 35 = .ok (.iload_n 1, 1) := by decide +kernel
theorem dX3_insert_36 : decode cX3_insert 36 = .ok (.invokevirtual 56, 3) := by decide +kernel
theorem dX3_insert_39 : decode cX3_insert 39 = .ok (.aload_n 0, 1) := by decide +kernel
theorem dX3_insert_40 : decode cX3_insert 40 = .ok (.getfield 32, 3) := by decide +kernel
theorem dX3_insert_43 : decode cX3_insert 43 = .ok (.iload_n 2, 1) := by decide +kernel
theorem dX3_insert_44 : decode cX3_insert 44 = .ok (.invokevirtual 60, 3) := by decide +kernel
theorem dX3_insert_47 : decode cX3_insert 47 = .ok (.aload_n 0, 1) := by decide +kernel
theorem dX3_insert_48 : decode cX3_insert 48 = .ok (.getfield 32, 3) := by decide +kernel
theorem dX3_insert_51 : decode cX3_insert 51 = .ok (.aload_n 3, 1) := by decide +kernel
theorem dX3_insert_52 : decode cX3_insert 52 = .ok (.iload_n 1, 1) := by decide +kernel
theorem dX3_insert_53 : decode cX3_insert 53 = .ok (.aload_n 3, 1) := by decide +kernel
theorem dX3_insert_54 : decode cX3_insert 54 = .ok (.invokevirtual 63, 3) := by decide +kernel
theorem dX3_insert_57 : decode cX3_insert 57 = .ok (.invokevirtual 56, 3) := by decide +kernel
theorem dX3_insert_60 : decode cX3_insert 60 = .ok (.aload_n 0, 1) := by decide +kernel
theorem dX3_insert_61 : decode cX3_insert 61 = .ok (.invokevirtual 67, 3) := by decide +kernel
theorem dX3_insert_64 : decode cX3_insert 64 = .ok (.ireturn, 1) := by decide +kernel
set_option maxRecDepth 20000 in
theorem ggX3_delete_X0_present : GoodIn wsX3_delete wsX0_present := goodIn_r _ [7, 8, 9, 62, 63, 64, 65] (by decide +kernel) (by decide +kernel)
set_option maxRecDepth 20000 in
theorem gX3_delete_X0_present : GoodIn wsX3_delete (wsV RX3 39 RX0 yX0_present wsX0_present) := goodIn_app (goodIn_of _ (by decide +kernel)) ggX3_delete_X0_present
set_option maxRecDepth 20000 in
theorem ggX3_delete_X3_refuseNoPlace : GoodIn wsX3_delete wsX3_refuseNoPlace := goodIn_ca (goodIn_r _ [13, 14, 15, 16, 17, 18, 19, 20, 21, 66, 67] (by decide +kernel) (by decide +kernel)) (goodIn_sub (fun _ h => List.mem_cons_of_mem _ (List.mem_append_left _ (List.mem_append_right _ h))) (by decide +kernel))
set_option maxRecDepth 20000 in
theorem gX3_delete_X3_refuseNoPlace : GoodIn wsX3_delete (va_wsS RX3 43 yX3_refuseNoPlace wsX3_refuseNoPlace) := goodIn_app (goodIn_of _ (by decide +kernel)) ggX3_delete_X3_refuseNoPlace
set_option maxRecDepth 20000 in
theorem ggX3_delete_X3_refuseNoPart : GoodIn wsX3_delete wsX3_refuseNoPart := goodIn_ca (goodIn_r _ [24, 25, 26, 16, 17, 18, 19, 20, 21, 66, 67] (by decide +kernel) (by decide +kernel)) (goodIn_sub (fun _ h => List.mem_cons_of_mem _ (List.mem_append_right _ h)) (by decide +kernel))
set_option maxRecDepth 20000 in
theorem gX3_delete_X3_refuseNoPart : GoodIn wsX3_delete (va_wsS RX3 70 yX3_refuseNoPart wsX3_refuseNoPart) := goodIn_app (goodIn_of _ (by decide +kernel)) ggX3_delete_X3_refuseNoPart
set_option maxRecDepth 20000 in
theorem ggX3_delete_X2_empty : GoodIn wsX3_delete wsX2_empty := goodIn_r _ [30, 21, 66, 67] (by decide +kernel) (by decide +kernel)
set_option maxRecDepth 20000 in
theorem gX3_delete_X2_empty : GoodIn wsX3_delete (wsV RX3 53 RX2 yX2_empty wsX2_empty) := goodIn_app (goodIn_of _ (by decide +kernel)) ggX3_delete_X2_empty
set_option maxRecDepth 20000 in
theorem ggX3_delete_X2_addPart : GoodIn wsX3_delete wsX2_addPart := goodIn_r _ [34, 35, 21, 36, 37, 38, 39, 66, 67] (by decide +kernel) (by decide +kernel)
set_option maxRecDepth 20000 in
theorem gX3_delete_X2_addPart : GoodIn wsX3_delete (wsV RX3 56 RX2 yX2_addPart wsX2_addPart) := goodIn_app (goodIn_of _ (by decide +kernel)) ggX3_delete_X2_addPart
set_option maxRecDepth 20000 in
theorem ggX3_delete_X2_size : GoodIn wsX3_delete wsX2_size := goodIn_r _ [20, 21, 66, 67] (by decide +kernel) (by decide +kernel)
set_option maxRecDepth 20000 in
theorem gX3_delete_X2_size : GoodIn wsX3_delete (wsV RX3 63 RX2 yX2_size wsX2_size) := goodIn_app (goodIn_of _ (by decide +kernel)) ggX3_delete_X2_size
set_option maxRecDepth 20000 in
theorem ggX3_delete_X3_keepDraft : GoodIn wsX3_delete wsX3_keepDraft := goodIn_r _ [43, 1, 2, 44, 45, 46, 6, 47, 9, 8, 48, 49, 50, 51, 52, 53, 54, 28, 29, 19, 30, 21, 55, 17, 18, 20, 56, 32, 33, 34, 35, 36, 37, 38, 39, 16, 57, 58, 59, 60, 61, 62, 63, 64, 65, 66, 67] (by decide +kernel) (by decide +kernel)
set_option maxRecDepth 20000 in
theorem gX3_delete_X3_keepDraft : GoodIn wsX3_delete (wsV RX3 67 RX3 yX3_keepDraft wsX3_keepDraft) := goodIn_app (goodIn_of _ (by decide +kernel)) ggX3_delete_X3_keepDraft
theorem dX3_delete_0 : decode cX3_delete 0 = .ok (.aload_n 0, 1) := by decide +kernel
theorem dX3_delete_1 : decode cX3_delete 1 = .ok (.getfield 10, 3) := by decide +kernel
theorem dX3_delete_4 : decode cX3_delete 4 = .ok (.invokevirtual 39, 3) := by decide +kernel
theorem dX3_delete_7 : decode cX3_delete 7 = .ok (.astore_n 3, 1) := by decide +kernel
theorem dX3_delete_8 : decode cX3_delete 8 = .ok (.iload_n 1, 1) := by decide +kernel
theorem dX3_delete_9 : decode cX3_delete 9 = .ok (.aload_n 3, 1) := by decide +kernel
theorem dX3_delete_10 : decode cX3_delete 10 = .ok (.invokestatic 43, 3) := by decide +kernel
theorem dX3_delete_13 : decode cX3_delete 13 = .ok (.iload_n 1, 1) := by decide +kernel
theorem dX3_delete_14 : decode cX3_delete 14 = .ok (.iload_n 2, 1) := by decide +kernel
theorem dX3_delete_15 : decode cX3_delete 15 = .ok (.aload_n 3, 1) := by decide +kernel
theorem dX3_delete_16 : decode cX3_delete 16 = .ok (.invokestatic 70, 3) := by decide +kernel
theorem dX3_delete_19 : decode cX3_delete 19 = .ok (.aload_n 0, 1) := by decide +kernel
theorem dX3_delete_20 : decode cX3_delete 20 = .ok (.getfield 32, 3) := by decide +kernel
theorem dX3_delete_23 : decode cX3_delete 23 = .ok (.invokevirtual 53, 3) := by decide +kernel
theorem dX3_delete_26 : decode cX3_delete 26 = .ok (.aload_n 0, 1) := by decide +kernel
theorem dX3_delete_27 : decode cX3_delete 27 = .ok (.getfield 32, 3) := by decide +kernel
theorem dX3_delete_30 : decode cX3_delete 30 = .ok (.aload_n 3, 1) := by decide +kernel
theorem dX3_delete_31 : decode cX3_delete 31 = .ok (.iconst 0, 1) := by decide +kernel
theorem dX3_delete_32 : decode cX3_delete 32 = .ok (.iload_n 1, 1) := by decide +kernel
theorem dX3_delete_33 : decode cX3_delete 33 = .ok (.invokevirtual 56, 3) := by decide +kernel
theorem dX3_delete_36 : decode cX3_delete 36 = .ok (.aload_n 0, 1) := by decide +kernel
theorem dX3_delete_37 : decode cX3_delete 37 = .ok (.getfield 32, 3) := by decide +kernel
theorem dX3_delete_40 : decode cX3_delete 40 = .ok (.aload_n 3, 1) := by decide +kernel
theorem dX3_delete_41 : decode cX3_delete 41 = .ok (.iload_n 1, 1) := by decide +kernel
theorem dX3_delete_42 : decode cX3_delete 42 = .ok (.iload_n 2, 1) := by decide +kernel
theorem dX3_delete_43 : decode cX3_delete 43 = .ok (.iadd, 1) := by decide +kernel
theorem dX3_delete_44 : decode cX3_delete 44 = .ok (.aload_n 3, 1) := by decide +kernel
theorem dX3_delete_45 : decode cX3_delete 45 = .ok (.invokevirtual 63, 3) := by decide +kernel
theorem dX3_delete_48 : decode cX3_delete 48 = .ok (.invokevirtual 56, 3) := by decide +kernel
theorem dX3_delete_51 : decode cX3_delete 51 = .ok (.aload_n 0, 1) := by decide +kernel
theorem dX3_delete_52 : decode cX3_delete 52 = .ok (.invokevirtual 67, 3) := by decide +kernel
theorem dX3_delete_55 : decode cX3_delete 55 = .ok (.ireturn, 1) := by decide +kernel
set_option maxRecDepth 20000 in
theorem ggX3_copy_X0_present : GoodIn wsX3_copy wsX0_present := goodIn_r _ [7, 8, 9, 67, 68, 69, 70] (by decide +kernel) (by decide +kernel)
set_option maxRecDepth 20000 in
theorem gX3_copy_X0_present : GoodIn wsX3_copy (wsV RX3 39 RX0 yX0_present wsX0_present) := goodIn_app (goodIn_of _ (by decide +kernel)) ggX3_copy_X0_present
set_option maxRecDepth 20000 in
theorem ggX3_copy_X3_refuseNoPlace : GoodIn wsX3_copy wsX3_refuseNoPlace := goodIn_ca (goodIn_r _ [13, 14, 15, 16, 17, 18, 19, 20, 21, 71, 72] (by decide +kernel) (by decide +kernel)) (goodIn_sub (fun _ h => List.mem_cons_of_mem _ (List.mem_append_left _ (List.mem_append_left _ (List.mem_append_right _ h)))) (by decide +kernel))
set_option maxRecDepth 20000 in
theorem gX3_copy_X3_refuseNoPlace : GoodIn wsX3_copy (va_wsS RX3 43 yX3_refuseNoPlace wsX3_refuseNoPlace) := goodIn_app (goodIn_of _ (by decide +kernel)) ggX3_copy_X3_refuseNoPlace
set_option maxRecDepth 20000 in
theorem ggX3_copy_X3_refuseNoPart : GoodIn wsX3_copy wsX3_refuseNoPart := goodIn_ca (goodIn_r _ [24, 25, 26, 16, 17, 18, 19, 20, 21, 71, 72] (by decide +kernel) (by decide +kernel)) (goodIn_sub (fun _ h => List.mem_cons_of_mem _ (List.mem_append_left _ (List.mem_append_right _ h))) (by decide +kernel))
set_option maxRecDepth 20000 in
theorem gX3_copy_X3_refuseNoPart : GoodIn wsX3_copy (va_wsS RX3 70 yX3_refuseNoPart wsX3_refuseNoPart) := goodIn_app (goodIn_of _ (by decide +kernel)) ggX3_copy_X3_refuseNoPart
set_option maxRecDepth 20000 in
theorem ggX3_copy_X3_refuseTooLong : GoodIn wsX3_copy wsX3_refuseTooLong := goodIn_ca (goodIn_r _ [29, 30, 31, 16, 17, 18, 19, 20, 21, 71, 72] (by decide +kernel) (by decide +kernel)) (goodIn_sub (fun _ h => List.mem_cons_of_mem _ (List.mem_append_right _ h)) (by decide +kernel))
set_option maxRecDepth 20000 in
theorem gX3_copy_X3_refuseTooLong : GoodIn wsX3_copy (va_wsS RX3 50 yX3_refuseTooLong wsX3_refuseTooLong) := goodIn_app (goodIn_of _ (by decide +kernel)) ggX3_copy_X3_refuseTooLong
set_option maxRecDepth 20000 in
theorem ggX3_copy_X2_empty : GoodIn wsX3_copy wsX2_empty := goodIn_r _ [35, 21, 71, 72] (by decide +kernel) (by decide +kernel)
set_option maxRecDepth 20000 in
theorem gX3_copy_X2_empty : GoodIn wsX3_copy (wsV RX3 53 RX2 yX2_empty wsX2_empty) := goodIn_app (goodIn_of _ (by decide +kernel)) ggX3_copy_X2_empty
set_option maxRecDepth 20000 in
theorem ggX3_copy_X2_addPart : GoodIn wsX3_copy wsX2_addPart := goodIn_r _ [39, 40, 21, 41, 42, 43, 44, 71, 72] (by decide +kernel) (by decide +kernel)
set_option maxRecDepth 20000 in
theorem gX3_copy_X2_addPart : GoodIn wsX3_copy (wsV RX3 56 RX2 yX2_addPart wsX2_addPart) := goodIn_app (goodIn_of _ (by decide +kernel)) ggX3_copy_X2_addPart
set_option maxRecDepth 20000 in
theorem ggX3_copy_X2_size : GoodIn wsX3_copy wsX2_size := goodIn_r _ [20, 21, 71, 72] (by decide +kernel) (by decide +kernel)
set_option maxRecDepth 20000 in
theorem gX3_copy_X2_size : GoodIn wsX3_copy (wsV RX3 63 RX2 yX2_size wsX2_size) := goodIn_app (goodIn_of _ (by decide +kernel)) ggX3_copy_X2_size
set_option maxRecDepth 20000 in
theorem ggX3_copy_X3_keepDraft : GoodIn wsX3_copy wsX3_keepDraft := goodIn_r _ [48, 1, 2, 49, 50, 51, 6, 52, 9, 8, 53, 54, 55, 56, 57, 58, 59, 33, 34, 19, 35, 21, 60, 17, 18, 20, 61, 37, 38, 39, 40, 41, 42, 43, 44, 16, 62, 63, 64, 65, 66, 67, 68, 69, 70, 71, 72] (by decide +kernel) (by decide +kernel)
set_option maxRecDepth 20000 in
theorem gX3_copy_X3_keepDraft : GoodIn wsX3_copy (wsV RX3 67 RX3 yX3_keepDraft wsX3_keepDraft) := goodIn_app (goodIn_of _ (by decide +kernel)) ggX3_copy_X3_keepDraft
theorem dX3_copy_0 : decode cX3_copy 0 = .ok (.aload_n 0, 1) := by decide +kernel
theorem dX3_copy_1 : decode cX3_copy 1 = .ok (.getfield 10, 3) := by decide +kernel
theorem dX3_copy_4 : decode cX3_copy 4 = .ok (.invokevirtual 39, 3) := by decide +kernel
theorem dX3_copy_7 : decode cX3_copy 7 = .ok (.astore 4, 2) := by decide +kernel
theorem dX3_copy_9 : decode cX3_copy 9 = .ok (.iload_n 1, 1) := by decide +kernel
theorem dX3_copy_10 : decode cX3_copy 10 = .ok (.aload 4, 2) := by decide +kernel
theorem dX3_copy_12 : decode cX3_copy 12 = .ok (.invokestatic 43, 3) := by decide +kernel
theorem dX3_copy_15 : decode cX3_copy 15 = .ok (.iload_n 3, 1) := by decide +kernel
theorem dX3_copy_16 : decode cX3_copy 16 = .ok (.aload 4, 2) := by decide +kernel
theorem dX3_copy_18 : decode cX3_copy 18 = .ok (.invokestatic 43, 3) := by decide +kernel
theorem dX3_copy_21 : decode cX3_copy 21 = .ok (.iload_n 1, 1) := by decide +kernel
theorem dX3_copy_22 : decode cX3_copy 22 = .ok (.iload_n 2, 1) := by decide +kernel
theorem dX3_copy_23 : decode cX3_copy 23 = .ok (.aload 4, 2) := by decide +kernel
theorem dX3_copy_25 : decode cX3_copy 25 = .ok (.invokestatic 70, 3) := by decide +kernel
theorem dX3_copy_28 : decode cX3_copy 28 = .ok (.iload_n 2, 1) := by decide +kernel
theorem dX3_copy_29 : decode cX3_copy 29 = .ok (.aload 4, 2) := by decide +kernel
theorem dX3_copy_31 : decode cX3_copy 31 = .ok (.invokestatic 50, 3) := by decide +kernel
theorem dX3_copy_34 : decode cX3_copy 34 = .ok (.aload_n 0, 1) := by decide +kernel
theorem dX3_copy_35 : decode cX3_copy 35 = .ok (.getfield 32, 3) := by decide +kernel
theorem dX3_copy_38 : decode cX3_copy 38 = .ok (.invokevirtual 53, 3) := by decide +kernel
theorem dX3_copy_41 : decode cX3_copy 41 = .ok (.aload_n 0, 1) := by decide +kernel
theorem dX3_copy_42 : decode cX3_copy 42 = .ok (.getfield 32, 3) := by decide +kernel
theorem dX3_copy_45 : decode cX3_copy 45 = .ok (.aload 4, 2) := by decide +kernel
theorem dX3_copy_47 : decode cX3_copy 47 = .ok (.iconst 0, 1) := by decide +kernel
theorem dX3_copy_48 : decode cX3_copy 48 = .ok (.iload_n 3, 1) := by decide +kernel
theorem dX3_copy_49 : decode cX3_copy 49 = .ok (.invokevirtual 56, 3) := by decide +kernel
theorem dX3_copy_52 : decode cX3_copy 52 = .ok (.aload_n 0, 1) := by decide +kernel
theorem dX3_copy_53 : decode cX3_copy 53 = .ok (.getfield 32, 3) := by decide +kernel
theorem dX3_copy_56 : decode cX3_copy 56 = .ok (.aload 4, 2) := by decide +kernel
theorem dX3_copy_58 : decode cX3_copy 58 = .ok (.iload_n 1, 1) := by decide +kernel
theorem dX3_copy_59 : decode cX3_copy 59 = .ok (.iload_n 1, 1) := by decide +kernel
theorem dX3_copy_60 : decode cX3_copy 60 = .ok (.iload_n 2, 1) := by decide +kernel
theorem dX3_copy_61 : decode cX3_copy 61 = .ok (.iadd, 1) := by decide +kernel
theorem dX3_copy_62 : decode cX3_copy 62 = .ok (.invokevirtual 56, 3) := by decide +kernel
theorem dX3_copy_65 : decode cX3_copy 65 = .ok (.aload_n 0, 1) := by decide +kernel
theorem dX3_copy_66 : decode cX3_copy 66 = .ok (.getfield 32, 3) := by decide +kernel
theorem dX3_copy_69 : decode cX3_copy 69 = .ok (.aload 4, 2) := by decide +kernel
theorem dX3_copy_71 : decode cX3_copy 71 = .ok (.iload_n 3, 1) := by decide +kernel
theorem dX3_copy_72 : decode cX3_copy 72 = .ok (.aload 4, 2) := by decide +kernel
theorem dX3_copy_74 : decode cX3_copy 74 = .ok (.invokevirtual 63, 3) := by decide +kernel
theorem dX3_copy_77 : decode cX3_copy 77 = .ok (.invokevirtual 56, 3) := by decide +kernel
theorem dX3_copy_80 : decode cX3_copy 80 = .ok (.aload_n 0, 1) := by decide +kernel
theorem dX3_copy_81 : decode cX3_copy 81 = .ok (.invokevirtual 67, 3) := by decide +kernel
theorem dX3_copy_84 : decode cX3_copy 84 = .ok (.ireturn, 1) := by decide +kernel
set_option maxRecDepth 20000 in
theorem ggX3_at_X0_present : GoodIn wsX3_at wsX0_present := goodIn_r _ [8, 9, 10, 27, 28, 29, 30] (by decide +kernel) (by decide +kernel)
set_option maxRecDepth 20000 in
theorem gX3_at_X0_present : GoodIn wsX3_at (wsV RX3 39 RX0 yX0_present wsX0_present) := goodIn_app (goodIn_of _ (by decide +kernel)) ggX3_at_X0_present
set_option maxRecDepth 20000 in
theorem ggX3_at_X2_size : GoodIn wsX3_at wsX2_size := goodIn_r _ [15, 16, 31, 32] (by decide +kernel) (by decide +kernel)
set_option maxRecDepth 20000 in
theorem gX3_at_X2_size : GoodIn wsX3_at (wsV RX3 63 RX2 yX2_size wsX2_size) := goodIn_app (goodIn_of _ (by decide +kernel)) ggX3_at_X2_size
set_option maxRecDepth 20000 in
theorem ggX3_at_X2_get : GoodIn wsX3_at wsX2_get := goodIn_r _ [20, 21, 31, 32] (by decide +kernel) (by decide +kernel)
set_option maxRecDepth 20000 in
theorem gX3_at_X2_get : GoodIn wsX3_at (wsV RX3 81 RX2 yX2_get wsX2_get) := goodIn_app (goodIn_of _ (by decide +kernel)) ggX3_at_X2_get
theorem dX3_at_0 : decode cX3_at 0 = .ok (.aload_n 0, 1) := by decide +kernel
theorem dX3_at_1 : decode cX3_at 1 = .ok (.getfield 10, 3) := by decide +kernel
theorem dX3_at_4 : decode cX3_at 4 = .ok (.invokevirtual 39, 3) := by decide +kernel
theorem dX3_at_7 : decode cX3_at 7 = .ok (.astore_n 2, 1) := by decide +kernel
theorem dX3_at_8 : decode cX3_at 8 = .ok (.iload_n 1, 1) := by decide +kernel
theorem dX3_at_9 : decode cX3_at 9 = .ok (.ifCond .lt 11, 3) := by decide +kernel
theorem dX3_at_12 : decode cX3_at 12 = .ok (.iload_n 1, 1) := by decide +kernel
theorem dX3_at_13 : decode cX3_at 13 = .ok (.aload_n 2, 1) := by decide +kernel
theorem dX3_at_14 : decode cX3_at 14 = .ok (.invokevirtual 63, 3) := by decide +kernel
theorem dX3_at_17 : decode cX3_at 17 = .ok (.if_icmp .lt 13, 3) := by decide +kernel
theorem dX3_at_20 : decode cX3_at 20 = .ok (.new 74, 3) := by decide +kernel
theorem dX3_at_23 : decode cX3_at 23 = .ok (.dup, 1) := by decide +kernel
theorem dX3_at_24 : decode cX3_at 24 = .ok (.ldc 76, 2) := by decide +kernel
theorem dX3_at_26 : decode cX3_at 26 = .ok (.invokespecial 78, 3) := by decide +kernel
theorem dX3_at_29 : decode cX3_at 29 = .ok (.athrow, 1) := by decide +kernel
theorem dX3_at_30 : decode cX3_at 30 = .ok (.aload_n 2, 1) := by decide +kernel
theorem dX3_at_31 : decode cX3_at 31 = .ok (.iload_n 1, 1) := by decide +kernel
theorem dX3_at_32 : decode cX3_at 32 = .ok (.invokevirtual 81, 3) := by decide +kernel
theorem dX3_at_35 : decode cX3_at 35 = .ok (.ireturn, 1) := by decide +kernel
set_option maxRecDepth 20000 in
theorem ggX3_undo_X0_pastSize : GoodIn wsX3_undo wsX0_pastSize := goodIn_r _ [8, 9, 32, 33, 34, 35] (by decide +kernel) (by decide +kernel)
set_option maxRecDepth 20000 in
theorem gX3_undo_X0_pastSize : GoodIn wsX3_undo (wsV RX3 85 RX0 yX0_pastSize wsX0_pastSize) := goodIn_app (goodIn_of _ (by decide +kernel)) ggX3_undo_X0_pastSize
set_option maxRecDepth 20000 in
theorem ggX3_undo_X0_stepBack : GoodIn wsX3_undo wsX0_stepBack := goodIn_r _ [13, 14, 9, 15, 32, 33, 34, 35] (by decide +kernel) (by decide +kernel)
set_option maxRecDepth 20000 in
theorem gX3_undo_X0_stepBack : GoodIn wsX3_undo (wsV RX3 93 RX0 yX0_stepBack wsX0_stepBack) := goodIn_app (goodIn_of _ (by decide +kernel)) ggX3_undo_X0_stepBack
set_option maxRecDepth 20000 in
theorem ggX3_undo_X0_present : GoodIn wsX3_undo wsX0_present := goodIn_r _ [19, 20, 14, 32, 33, 34, 35] (by decide +kernel) (by decide +kernel)
set_option maxRecDepth 20000 in
theorem gX3_undo_X0_present : GoodIn wsX3_undo (wsV RX3 39 RX0 yX0_present wsX0_present) := goodIn_app (goodIn_of _ (by decide +kernel)) ggX3_undo_X0_present
set_option maxRecDepth 20000 in
theorem ggX3_undo_X2_size : GoodIn wsX3_undo wsX2_size := goodIn_r _ [25, 26, 36, 37] (by decide +kernel) (by decide +kernel)
set_option maxRecDepth 20000 in
theorem gX3_undo_X2_size : GoodIn wsX3_undo (wsV RX3 63 RX2 yX2_size wsX2_size) := goodIn_app (goodIn_of _ (by decide +kernel)) ggX3_undo_X2_size
theorem dX3_undo_0 : decode cX3_undo 0 = .ok (.aload_n 0, 1) := by decide +kernel
theorem dX3_undo_1 : decode cX3_undo 1 = .ok (.getfield 10, 3) := by decide +kernel
theorem dX3_undo_4 : decode cX3_undo 4 = .ok (.invokevirtual 85, 3) := by decide +kernel
theorem dX3_undo_7 : decode cX3_undo 7 = .ok (.ifCond .ne 13, 3) := by decide +kernel
theorem dX3_undo_10 : decode cX3_undo 10 = .ok (.new 88, 3) := by decide +kernel
theorem dX3_undo_13 : decode cX3_undo 13 = .ok (.dup, 1) := by decide +kernel
theorem dX3_undo_14 : decode cX3_undo 14 = .ok (.ldc 90, 2) := by decide +kernel
theorem dX3_undo_16 : decode cX3_undo 16 = .ok (.invokespecial 92, 3) := by decide +kernel
theorem dX3_undo_19 : decode cX3_undo 19 = .ok (.athrow, 1) := by decide +kernel
theorem dX3_undo_20 : decode cX3_undo 20 = .ok (.aload_n 0, 1) := by decide +kernel
theorem dX3_undo_21 : decode cX3_undo 21 = .ok (.getfield 10, 3) := by decide +kernel
theorem dX3_undo_24 : decode cX3_undo 24 = .ok (.invokevirtual 93, 3) := by decide +kernel
theorem dX3_undo_27 : decode cX3_undo 27 = .ok (.aload_n 0, 1) := by decide +kernel
theorem dX3_undo_28 : decode cX3_undo 28 = .ok (.getfield 10, 3) := by decide +kernel
theorem dX3_undo_31 : decode cX3_undo 31 = .ok (.invokevirtual 39, 3) := by decide +kernel
theorem dX3_undo_34 : decode cX3_undo 34 = .ok (.invokevirtual 63, 3) := by decide +kernel
theorem dX3_undo_37 : decode cX3_undo 37 = .ok (.ireturn, 1) := by decide +kernel
set_option maxRecDepth 20000 in
theorem ggX3_redo_X0_futureSize : GoodIn wsX3_redo wsX0_futureSize := goodIn_r _ [8, 9, 32, 33, 34, 35] (by decide +kernel) (by decide +kernel)
set_option maxRecDepth 20000 in
theorem gX3_redo_X0_futureSize : GoodIn wsX3_redo (wsV RX3 96 RX0 yX0_futureSize wsX0_futureSize) := goodIn_app (goodIn_of _ (by decide +kernel)) ggX3_redo_X0_futureSize
set_option maxRecDepth 20000 in
theorem ggX3_redo_X0_stepOn : GoodIn wsX3_redo wsX0_stepOn := goodIn_r _ [13, 14, 15, 9, 32, 33, 34, 35] (by decide +kernel) (by decide +kernel)
set_option maxRecDepth 20000 in
theorem gX3_redo_X0_stepOn : GoodIn wsX3_redo (wsV RX3 101 RX0 yX0_stepOn wsX0_stepOn) := goodIn_app (goodIn_of _ (by decide +kernel)) ggX3_redo_X0_stepOn
set_option maxRecDepth 20000 in
theorem ggX3_redo_X0_present : GoodIn wsX3_redo wsX0_present := goodIn_r _ [19, 20, 14, 32, 33, 34, 35] (by decide +kernel) (by decide +kernel)
set_option maxRecDepth 20000 in
theorem gX3_redo_X0_present : GoodIn wsX3_redo (wsV RX3 39 RX0 yX0_present wsX0_present) := goodIn_app (goodIn_of _ (by decide +kernel)) ggX3_redo_X0_present
set_option maxRecDepth 20000 in
theorem ggX3_redo_X2_size : GoodIn wsX3_redo wsX2_size := goodIn_r _ [25, 26, 36, 37] (by decide +kernel) (by decide +kernel)
set_option maxRecDepth 20000 in
theorem gX3_redo_X2_size : GoodIn wsX3_redo (wsV RX3 63 RX2 yX2_size wsX2_size) := goodIn_app (goodIn_of _ (by decide +kernel)) ggX3_redo_X2_size
theorem dX3_redo_0 : decode cX3_redo 0 = .ok (.aload_n 0, 1) := by decide +kernel
theorem dX3_redo_1 : decode cX3_redo 1 = .ok (.getfield 10, 3) := by decide +kernel
theorem dX3_redo_4 : decode cX3_redo 4 = .ok (.invokevirtual 96, 3) := by decide +kernel
theorem dX3_redo_7 : decode cX3_redo 7 = .ok (.ifCond .ne 13, 3) := by decide +kernel
theorem dX3_redo_10 : decode cX3_redo 10 = .ok (.new 88, 3) := by decide +kernel
theorem dX3_redo_13 : decode cX3_redo 13 = .ok (.dup, 1) := by decide +kernel
theorem dX3_redo_14 : decode cX3_redo 14 = .ok (.ldc 99, 2) := by decide +kernel
theorem dX3_redo_16 : decode cX3_redo 16 = .ok (.invokespecial 92, 3) := by decide +kernel
theorem dX3_redo_19 : decode cX3_redo 19 = .ok (.athrow, 1) := by decide +kernel
theorem dX3_redo_20 : decode cX3_redo 20 = .ok (.aload_n 0, 1) := by decide +kernel
theorem dX3_redo_21 : decode cX3_redo 21 = .ok (.getfield 10, 3) := by decide +kernel
theorem dX3_redo_24 : decode cX3_redo 24 = .ok (.invokevirtual 101, 3) := by decide +kernel
theorem dX3_redo_27 : decode cX3_redo 27 = .ok (.aload_n 0, 1) := by decide +kernel
theorem dX3_redo_28 : decode cX3_redo 28 = .ok (.getfield 10, 3) := by decide +kernel
theorem dX3_redo_31 : decode cX3_redo 31 = .ok (.invokevirtual 39, 3) := by decide +kernel
theorem dX3_redo_34 : decode cX3_redo 34 = .ok (.invokevirtual 63, 3) := by decide +kernel
theorem dX3_redo_37 : decode cX3_redo 37 = .ok (.ireturn, 1) := by decide +kernel
set_option maxRecDepth 20000 in
theorem ggX3_pattern_X3_refuseNoCharacter : GoodIn wsX3_pattern wsX3_refuseNoCharacter := goodIn_ca (goodIn_r _ [7, 8, 9] (by decide +kernel) (by decide +kernel)) (goodIn_sub (fun _ h => List.mem_cons_of_mem _ (List.mem_append_right _ h)) (by decide +kernel))
set_option maxRecDepth 20000 in
theorem gX3_pattern_X3_refuseNoCharacter : GoodIn wsX3_pattern (va_wsS RX3 47 yX3_refuseNoCharacter wsX3_refuseNoCharacter) := goodIn_app (goodIn_of _ (by decide +kernel)) ggX3_pattern_X3_refuseNoCharacter
set_option maxRecDepth 20000 in
theorem ggX3_pattern_X2_size : GoodIn wsX3_pattern wsX2_size := goodIn_r _ [14, 15, 26, 27] (by decide +kernel) (by decide +kernel)
set_option maxRecDepth 20000 in
theorem gX3_pattern_X2_size : GoodIn wsX3_pattern (wsV RX3 63 RX2 yX2_size wsX2_size) := goodIn_app (goodIn_of _ (by decide +kernel)) ggX3_pattern_X2_size
set_option maxRecDepth 20000 in
theorem ggX3_pattern_X2_add : GoodIn wsX3_pattern wsX2_add := goodIn_r _ [19, 20, 15, 26, 27] (by decide +kernel) (by decide +kernel)
set_option maxRecDepth 20000 in
theorem gX3_pattern_X2_add : GoodIn wsX3_pattern (wsV RX3 60 RX2 yX2_add wsX2_add) := goodIn_app (goodIn_of _ (by decide +kernel)) ggX3_pattern_X2_add
theorem dX3_pattern_0 : decode cX3_pattern 0 = .ok (.iload_n 1, 1) := by decide +kernel
theorem dX3_pattern_1 : decode cX3_pattern 1 = .ok (.invokestatic 47, 3) := by decide +kernel
theorem dX3_pattern_4 : decode cX3_pattern 4 = .ok (.aload_n 0, 1) := by decide +kernel
theorem dX3_pattern_5 : decode cX3_pattern 5 = .ok (.getfield 21, 3) := by decide +kernel
theorem dX3_pattern_8 : decode cX3_pattern 8 = .ok (.invokevirtual 63, 3) := by decide +kernel
theorem dX3_pattern_11 : decode cX3_pattern 11 = .ok (.bipush 16, 2) := by decide +kernel
theorem dX3_pattern_13 : decode cX3_pattern 13 = .ok (.if_icmp .lt 13, 3) := by decide +kernel
theorem dX3_pattern_16 : decode cX3_pattern 16 = .ok (.new 104, 3) := by decide +kernel
theorem dX3_pattern_19 : decode cX3_pattern 19 = .ok (.dup, 1) := by decide +kernel
theorem dX3_pattern_20 : decode cX3_pattern 20 = .ok (.ldc 106, 2) := by decide +kernel
theorem dX3_pattern_22 : decode cX3_pattern 22 = .ok (.invokespecial 108, 3) := by decide +kernel
theorem dX3_pattern_25 : decode cX3_pattern 25 = .ok (.athrow, 1) := by decide +kernel
theorem dX3_pattern_26 : decode cX3_pattern 26 = .ok (.aload_n 0, 1) := by decide +kernel
theorem dX3_pattern_27 : decode cX3_pattern 27 = .ok (.getfield 21, 3) := by decide +kernel
theorem dX3_pattern_30 : decode cX3_pattern 30 = .ok (.iload_n 1, 1) := by decide +kernel
theorem dX3_pattern_31 : decode cX3_pattern 31 = .ok (.invokevirtual 60, 3) := by decide +kernel
theorem dX3_pattern_34 : decode cX3_pattern 34 = .ok (.aload_n 0, 1) := by decide +kernel
theorem dX3_pattern_35 : decode cX3_pattern 35 = .ok (.getfield 21, 3) := by decide +kernel
theorem dX3_pattern_38 : decode cX3_pattern 38 = .ok (.invokevirtual 63, 3) := by decide +kernel
theorem dX3_pattern_41 : decode cX3_pattern 41 = .ok (.ireturn, 1) := by decide +kernel
set_option maxRecDepth 20000 in
theorem ggX3_noPattern_X2_size : GoodIn wsX3_noPattern wsX2_size := goodIn_r _ [6, 7, 17, 18] (by decide +kernel) (by decide +kernel)
set_option maxRecDepth 20000 in
theorem gX3_noPattern_X2_size : GoodIn wsX3_noPattern (wsV RX3 63 RX2 yX2_size wsX2_size) := goodIn_app (goodIn_of _ (by decide +kernel)) ggX3_noPattern_X2_size
set_option maxRecDepth 20000 in
theorem ggX3_noPattern_X2_empty : GoodIn wsX3_noPattern wsX2_empty := goodIn_r _ [11, 7, 17, 18] (by decide +kernel) (by decide +kernel)
set_option maxRecDepth 20000 in
theorem gX3_noPattern_X2_empty : GoodIn wsX3_noPattern (wsV RX3 53 RX2 yX2_empty wsX2_empty) := goodIn_app (goodIn_of _ (by decide +kernel)) ggX3_noPattern_X2_empty
theorem dX3_noPattern_0 : decode cX3_noPattern 0 = .ok (.aload_n 0, 1) := by decide +kernel
theorem dX3_noPattern_1 : decode cX3_noPattern 1 = .ok (.getfield 21, 3) := by decide +kernel
theorem dX3_noPattern_4 : decode cX3_noPattern 4 = .ok (.invokevirtual 63, 3) := by decide +kernel
theorem dX3_noPattern_7 : decode cX3_noPattern 7 = .ok (.istore_n 1, 1) := by decide +kernel
theorem dX3_noPattern_8 : decode cX3_noPattern 8 = .ok (.aload_n 0, 1) := by decide +kernel
theorem dX3_noPattern_9 : decode cX3_noPattern 9 = .ok (.getfield 21, 3) := by decide +kernel
theorem dX3_noPattern_12 : decode cX3_noPattern 12 = .ok (.invokevirtual 53, 3) := by decide +kernel
theorem dX3_noPattern_15 : decode cX3_noPattern 15 = .ok (.iload_n 1, 1) := by decide +kernel
theorem dX3_noPattern_16 : decode cX3_noPattern 16 = .ok (.ireturn, 1) := by decide +kernel
set_option maxRecDepth 20000 in
theorem ggX3_find_X0_present : GoodIn wsX3_find wsX0_present := goodIn_r _ [7, 8, 9, 32, 33, 34, 35] (by decide +kernel) (by decide +kernel)
set_option maxRecDepth 20000 in
theorem gX3_find_X0_present : GoodIn wsX3_find (wsV RX3 39 RX0 yX0_present wsX0_present) := goodIn_app (goodIn_of _ (by decide +kernel)) ggX3_find_X0_present
set_option maxRecDepth 20000 in
theorem ggX3_find_X3_refuseNoPlace : GoodIn wsX3_find wsX3_refuseNoPlace := goodIn_ca (goodIn_r _ [13, 14, 15, 16, 17, 18, 19, 20, 21, 36, 37] (by decide +kernel) (by decide +kernel)) (goodIn_sub (fun _ h => List.mem_cons_of_mem _ (List.mem_append_right _ h)) (by decide +kernel))
set_option maxRecDepth 20000 in
theorem gX3_find_X3_refuseNoPlace : GoodIn wsX3_find (va_wsS RX3 43 yX3_refuseNoPlace wsX3_refuseNoPlace) := goodIn_app (goodIn_of _ (by decide +kernel)) ggX3_find_X3_refuseNoPlace
set_option maxRecDepth 20000 in
theorem ggX3_find_X2_size : GoodIn wsX3_find wsX2_size := goodIn_r _ [20, 21, 36, 37] (by decide +kernel) (by decide +kernel)
set_option maxRecDepth 20000 in
theorem gX3_find_X2_size : GoodIn wsX3_find (wsV RX3 63 RX2 yX2_size wsX2_size) := goodIn_app (goodIn_of _ (by decide +kernel)) ggX3_find_X2_size
set_option maxRecDepth 20000 in
theorem ggX3_find_X2_hasAt : GoodIn wsX3_find wsX2_hasAt := goodIn_r _ [25, 21, 26, 36, 37] (by decide +kernel) (by decide +kernel)
set_option maxRecDepth 20000 in
theorem gX3_find_X2_hasAt : GoodIn wsX3_find (wsV RX3 109 RX2 yX2_hasAt wsX2_hasAt) := goodIn_app (goodIn_of _ (by decide +kernel)) ggX3_find_X2_hasAt
theorem dX3_find_0 : decode cX3_find 0 = .ok (.aload_n 0, 1) := by decide +kernel
theorem dX3_find_1 : decode cX3_find 1 = .ok (.getfield 10, 3) := by decide +kernel
theorem dX3_find_4 : decode cX3_find 4 = .ok (.invokevirtual 39, 3) := by decide +kernel
theorem dX3_find_7 : decode cX3_find 7 = .ok (.astore_n 2, 1) := by decide +kernel
theorem dX3_find_8 : decode cX3_find 8 = .ok (.iload_n 1, 1) := by decide +kernel
theorem dX3_find_9 : decode cX3_find 9 = .ok (.aload_n 2, 1) := by decide +kernel
theorem dX3_find_10 : decode cX3_find 10 = .ok (.invokestatic 43, 3) := by decide +kernel
theorem dX3_find_13 : decode cX3_find 13 = .ok (.iload_n 1, 1) := by decide +kernel
theorem dX3_find_14 : decode cX3_find 14 = .ok (.istore_n 3, 1) := by decide +kernel
theorem dX3_find_15 : decode cX3_find 15 = .ok (.iload_n 3, 1) := by decide +kernel
theorem dX3_find_16 : decode cX3_find 16 = .ok (.aload_n 2, 1) := by decide +kernel
theorem dX3_find_17 : decode cX3_find 17 = .ok (.invokevirtual 63, 3) := by decide +kernel
theorem dX3_find_20 : decode cX3_find 20 = .ok (.if_icmp .gt 23, 3) := by decide +kernel
theorem dX3_find_23 : decode cX3_find 23 = .ok (.aload_n 2, 1) := by decide +kernel
theorem dX3_find_24 : decode cX3_find 24 = .ok (.iload_n 3, 1) := by decide +kernel
theorem dX3_find_25 : decode cX3_find 25 = .ok (.aload_n 0, 1) := by decide +kernel
theorem dX3_find_26 : decode cX3_find 26 = .ok (.getfield 21, 3) := by decide +kernel
theorem dX3_find_29 : decode cX3_find 29 = .ok (.invokevirtual 109, 3) := by decide +kernel
theorem dX3_find_32 : decode cX3_find 32 = .ok (.ifCond .eq 5, 3) := by decide +kernel
theorem dX3_find_35 : decode cX3_find 35 = .ok (.iload_n 3, 1) := by decide +kernel
theorem dX3_find_36 : decode cX3_find 36 = .ok (.ireturn, 1) := by decide +kernel
theorem dX3_find_37 : decode cX3_find 37 = .ok (.iinc 3 1, 3) := by decide +kernel
theorem dX3_find_40 : decode cX3_find 40 = .ok (.goto (-25), 3) := by decide +kernel
theorem dX3_find_43 : decode cX3_find 43 = .ok (.iconst (-1), 1) := by decide +kernel
theorem dX3_find_44 : decode cX3_find 44 = .ok (.ireturn, 1) := by decide +kernel
set_option maxRecDepth 20000 in
theorem ggX3_replace_X3_refuseNoCharacter : GoodIn wsX3_replace wsX3_refuseNoCharacter := goodIn_ca (goodIn_r _ [7, 8, 9] (by decide +kernel) (by decide +kernel)) (goodIn_sub (fun _ h => List.mem_cons_of_mem _ (List.mem_append_right _ h)) (by decide +kernel))
set_option maxRecDepth 20000 in
theorem gX3_replace_X3_refuseNoCharacter : GoodIn wsX3_replace (va_wsS RX3 47 yX3_refuseNoCharacter wsX3_refuseNoCharacter) := goodIn_app (goodIn_of _ (by decide +kernel)) ggX3_replace_X3_refuseNoCharacter
set_option maxRecDepth 20000 in
theorem ggX3_replace_X2_size : GoodIn wsX3_replace wsX2_size := goodIn_r _ [14, 15, 75, 76] (by decide +kernel) (by decide +kernel)
set_option maxRecDepth 20000 in
theorem gX3_replace_X2_size : GoodIn wsX3_replace (wsV RX3 63 RX2 yX2_size wsX2_size) := goodIn_app (goodIn_of _ (by decide +kernel)) ggX3_replace_X2_size
set_option maxRecDepth 20000 in
theorem ggX3_replace_X3_draftReplaced : GoodIn wsX3_replace wsX3_draftReplaced := goodIn_r _ [19, 20, 21, 3, 22, 23, 24, 25, 26, 27, 28, 29, 30, 31, 13, 32, 15, 10, 11, 12, 14, 33, 34, 35, 36, 37, 38, 39, 40, 41, 42, 43, 44, 45, 70, 71, 72, 73, 74, 77, 78, 79, 80, 75, 76] (by decide +kernel) (by decide +kernel)
set_option maxRecDepth 20000 in
theorem gX3_replace_X3_draftReplaced : GoodIn wsX3_replace (wsV RX3 115 RX3 yX3_draftReplaced wsX3_draftReplaced) := goodIn_app (goodIn_of _ (by decide +kernel)) ggX3_replace_X3_draftReplaced
set_option maxRecDepth 20000 in
theorem ggX3_replace_X3_keepDraft : GoodIn wsX3_replace wsX3_keepDraft := goodIn_r _ [49, 20, 21, 50, 51, 52, 25, 53, 28, 27, 54, 55, 56, 57, 58, 59, 60, 30, 31, 13, 32, 15, 61, 11, 12, 14, 62, 63, 64, 65, 37, 66, 67, 68, 69, 10, 70, 71, 72, 73, 74, 77, 78, 79, 80, 75, 76] (by decide +kernel) (by decide +kernel)
set_option maxRecDepth 20000 in
theorem gX3_replace_X3_keepDraft : GoodIn wsX3_replace (wsV RX3 67 RX3 yX3_keepDraft wsX3_keepDraft) := goodIn_app (goodIn_of _ (by decide +kernel)) ggX3_replace_X3_keepDraft
theorem dX3_replace_0 : decode cX3_replace 0 = .ok (.iload_n 1, 1) := by decide +kernel
theorem dX3_replace_1 : decode cX3_replace 1 = .ok (.invokestatic 47, 3) := by decide +kernel
theorem dX3_replace_4 : decode cX3_replace 4 = .ok (.aload_n 0, 1) := by decide +kernel
theorem dX3_replace_5 : decode cX3_replace 5 = .ok (.getfield 21, 3) := by decide +kernel
theorem dX3_replace_8 : decode cX3_replace 8 = .ok (.invokevirtual 63, 3) := by decide +kernel
theorem dX3_replace_11 : decode cX3_replace 11 = .ok (.ifCond .ne 13, 3) := by decide +kernel
theorem dX3_replace_14 : decode cX3_replace 14 = .ok (.new 88, 3) := by decide +kernel
theorem dX3_replace_17 : decode cX3_replace 17 = .ok (.dup, 1) := by decide +kernel
theorem dX3_replace_18 : decode cX3_replace 18 = .ok (.ldc 113, 2) := by decide +kernel
theorem dX3_replace_20 : decode cX3_replace 20 = .ok (.invokespecial 92, 3) := by decide +kernel
theorem dX3_replace_23 : decode cX3_replace 23 = .ok (.athrow, 1) := by decide +kernel
theorem dX3_replace_24 : decode cX3_replace 24 = .ok (.aload_n 0, 1) := by decide +kernel
theorem dX3_replace_25 : decode cX3_replace 25 = .ok (.iload_n 1, 1) := by decide +kernel
theorem dX3_replace_26 : decode cX3_replace 26 = .ok (.invokevirtual 115, 3) := by decide +kernel
theorem dX3_replace_29 : decode cX3_replace 29 = .ok (.istore_n 2, 1) := by decide +kernel
theorem dX3_replace_30 : decode cX3_replace 30 = .ok (.aload_n 0, 1) := by decide +kernel
theorem dX3_replace_31 : decode cX3_replace 31 = .ok (.invokevirtual 67, 3) := by decide +kernel
theorem dX3_replace_34 : decode cX3_replace 34 = .ok (.pop, 1) := by decide +kernel
theorem dX3_replace_35 : decode cX3_replace 35 = .ok (.iload_n 2, 1) := by decide +kernel
theorem dX3_replace_36 : decode cX3_replace 36 = .ok (.ireturn, 1) := by decide +kernel
set_option maxRecDepth 20000 in
theorem ggX3_snapshot_X0_present : GoodIn wsX3_snapshot wsX0_present := goodIn_r _ [7, 8, 9, 45, 46, 47, 48] (by decide +kernel) (by decide +kernel)
set_option maxRecDepth 20000 in
theorem gX3_snapshot_X0_present : GoodIn wsX3_snapshot (wsV RX3 39 RX0 yX0_present wsX0_present) := goodIn_app (goodIn_of _ (by decide +kernel)) ggX3_snapshot_X0_present
set_option maxRecDepth 20000 in
theorem ggX3_snapshot_X1_writeDown : GoodIn wsX3_snapshot wsX1_writeDown := goodIn_r _ [14, 15, 16, 17, 18, 19, 20, 21, 22, 23, 24, 25, 26, 27, 28, 29, 13, 30, 31, 32, 33, 34, 35, 49, 50, 51, 52, 53] (by decide +kernel) (by decide +kernel)
set_option maxRecDepth 20000 in
theorem gX3_snapshot_X1_writeDown : GoodIn wsX3_snapshot (wsV RX3 118 RX1 yX1_writeDown wsX1_writeDown) := goodIn_app (goodIn_of _ (by decide +kernel)) ggX3_snapshot_X1_writeDown
set_option maxRecDepth 20000 in
theorem ggX3_snapshot_X1_size : GoodIn wsX3_snapshot wsX1_size := goodIn_r _ [39, 15, 49, 50, 51] (by decide +kernel) (by decide +kernel)
set_option maxRecDepth 20000 in
theorem gX3_snapshot_X1_size : GoodIn wsX3_snapshot (wsV RX3 122 RX1 yX1_size wsX1_size) := goodIn_app (goodIn_of _ (by decide +kernel)) ggX3_snapshot_X1_size
theorem dX3_snapshot_0 : decode cX3_snapshot 0 = .ok (.aload_n 0, 1) := by decide +kernel
theorem dX3_snapshot_1 : decode cX3_snapshot 1 = .ok (.getfield 28, 3) := by decide +kernel
theorem dX3_snapshot_4 : decode cX3_snapshot 4 = .ok (.aload_n 0, 1) := by decide +kernel
theorem dX3_snapshot_5 : decode cX3_snapshot 5 = .ok (.getfield 10, 3) := by decide +kernel
theorem dX3_snapshot_8 : decode cX3_snapshot 8 = .ok (.invokevirtual 39, 3) := by decide +kernel
theorem dX3_snapshot_11 : decode cX3_snapshot 11 = .ok (.invokevirtual 118, 3) := by decide +kernel
theorem dX3_snapshot_14 : decode cX3_snapshot 14 = .ok (.aload_n 0, 1) := by decide +kernel
theorem dX3_snapshot_15 : decode cX3_snapshot 15 = .ok (.getfield 28, 3) := by decide +kernel
theorem dX3_snapshot_18 : decode cX3_snapshot 18 = .ok (.invokevirtual 122, 3) := by decide +kernel
theorem dX3_snapshot_21 : decode cX3_snapshot 21 = .ok (.ireturn, 1) := by decide +kernel
set_option maxRecDepth 20000 in
theorem ggX3_word_X3_refuseNoWord : GoodIn wsX3_word wsX3_refuseNoWord := goodIn_ca (goodIn_r _ [6, 7, 8, 1, 9, 10, 11, 12, 13, 14, 20, 21, 22, 23, 24, 25, 26, 27] (by decide +kernel) (by decide +kernel)) (goodIn_sub (fun _ h => List.mem_cons_of_mem _ (List.mem_append_right _ h)) (by decide +kernel))
set_option maxRecDepth 20000 in
theorem gX3_word_X3_refuseNoWord : GoodIn wsX3_word (wsV RX3 123 RX3 yX3_refuseNoWord wsX3_refuseNoWord) := goodIn_app (goodIn_of _ (by decide +kernel)) ggX3_word_X3_refuseNoWord
set_option maxRecDepth 20000 in
theorem ggX3_word_X1_get : GoodIn wsX3_word wsX1_get := goodIn_r _ [18, 19, 25, 26, 27] (by decide +kernel) (by decide +kernel)
set_option maxRecDepth 20000 in
theorem gX3_word_X1_get : GoodIn wsX3_word (wsV RX3 126 RX1 yX1_get wsX1_get) := goodIn_app (goodIn_of _ (by decide +kernel)) ggX3_word_X1_get
theorem dX3_word_0 : decode cX3_word 0 = .ok (.aload_n 0, 1) := by decide +kernel
theorem dX3_word_1 : decode cX3_word 1 = .ok (.iload_n 1, 1) := by decide +kernel
theorem dX3_word_2 : decode cX3_word 2 = .ok (.invokevirtual 123, 3) := by decide +kernel
theorem dX3_word_5 : decode cX3_word 5 = .ok (.aload_n 0, 1) := by decide +kernel
theorem dX3_word_6 : decode cX3_word 6 = .ok (.getfield 28, 3) := by decide +kernel
theorem dX3_word_9 : decode cX3_word 9 = .ok (.iload_n 1, 1) := by decide +kernel
theorem dX3_word_10 : decode cX3_word 10 = .ok (.invokevirtual 126, 3) := by decide +kernel
theorem dX3_word_13 : decode cX3_word 13 = .ok (.ireturn, 1) := by decide +kernel
set_option maxRecDepth 20000 in
theorem ggX3_poke_X3_refuseNoWord : GoodIn wsX3_poke wsX3_refuseNoWord := goodIn_ca (goodIn_r _ [6, 7, 8, 1, 9, 10, 11, 12, 13, 14, 24, 25, 26, 27, 28, 29, 30, 31] (by decide +kernel) (by decide +kernel)) (goodIn_sub (fun _ h => List.mem_cons_of_mem _ (List.mem_append_right _ h)) (by decide +kernel))
set_option maxRecDepth 20000 in
theorem gX3_poke_X3_refuseNoWord : GoodIn wsX3_poke (wsV RX3 123 RX3 yX3_refuseNoWord wsX3_refuseNoWord) := goodIn_app (goodIn_of _ (by decide +kernel)) ggX3_poke_X3_refuseNoWord
set_option maxRecDepth 20000 in
theorem ggX3_poke_X1_get : GoodIn wsX3_poke wsX1_get := goodIn_r _ [18, 19, 29, 30, 31] (by decide +kernel) (by decide +kernel)
set_option maxRecDepth 20000 in
theorem gX3_poke_X1_get : GoodIn wsX3_poke (wsV RX3 126 RX1 yX1_get wsX1_get) := goodIn_app (goodIn_of _ (by decide +kernel)) ggX3_poke_X1_get
set_option maxRecDepth 20000 in
theorem ggX3_poke_X1_set : GoodIn wsX3_poke wsX1_set := goodIn_r _ [23, 19, 29, 30, 31] (by decide +kernel) (by decide +kernel)
set_option maxRecDepth 20000 in
theorem gX3_poke_X1_set : GoodIn wsX3_poke (wsV RX3 127 RX1 yX1_set wsX1_set) := goodIn_app (goodIn_of _ (by decide +kernel)) ggX3_poke_X1_set
theorem dX3_poke_0 : decode cX3_poke 0 = .ok (.aload_n 0, 1) := by decide +kernel
theorem dX3_poke_1 : decode cX3_poke 1 = .ok (.iload_n 1, 1) := by decide +kernel
theorem dX3_poke_2 : decode cX3_poke 2 = .ok (.invokevirtual 123, 3) := by decide +kernel
theorem dX3_poke_5 : decode cX3_poke 5 = .ok (.aload_n 0, 1) := by decide +kernel
theorem dX3_poke_6 : decode cX3_poke 6 = .ok (.getfield 28, 3) := by decide +kernel
theorem dX3_poke_9 : decode cX3_poke 9 = .ok (.iload_n 1, 1) := by decide +kernel
theorem dX3_poke_10 : decode cX3_poke 10 = .ok (.invokevirtual 126, 3) := by decide +kernel
theorem dX3_poke_13 : decode cX3_poke 13 = .ok (.istore_n 3, 1) := by decide +kernel
theorem dX3_poke_14 : decode cX3_poke 14 = .ok (.aload_n 0, 1) := by decide +kernel
theorem dX3_poke_15 : decode cX3_poke 15 = .ok (.getfield 28, 3) := by decide +kernel
theorem dX3_poke_18 : decode cX3_poke 18 = .ok (.iload_n 1, 1) := by decide +kernel
theorem dX3_poke_19 : decode cX3_poke 19 = .ok (.iload_n 2, 1) := by decide +kernel
theorem dX3_poke_20 : decode cX3_poke 20 = .ok (.invokevirtual 127, 3) := by decide +kernel
theorem dX3_poke_23 : decode cX3_poke 23 = .ok (.iload_n 3, 1) := by decide +kernel
theorem dX3_poke_24 : decode cX3_poke 24 = .ok (.ireturn, 1) := by decide +kernel
set_option maxRecDepth 20000 in
theorem ggX3_restore_X1_readInto : GoodIn wsX3_restore wsX1_readInto := goodIn_r _ [7, 8, 9, 10, 11, 12, 13, 14, 15, 16, 17, 18, 19, 6, 20, 21, 22, 23, 24, 25, 26, 27, 28, 29, 30, 31, 32, 33, 34, 35, 36, 37, 38, 39, 40, 41, 42, 43, 44, 45, 74, 75, 76, 77, 78] (by decide +kernel) (by decide +kernel)
set_option maxRecDepth 20000 in
theorem gX3_restore_X1_readInto : GoodIn wsX3_restore (wsV RX3 131 RX1 yX1_readInto wsX1_readInto) := goodIn_app (goodIn_of _ (by decide +kernel)) ggX3_restore_X1_readInto
set_option maxRecDepth 20000 in
theorem ggX3_restore_X3_keepDraft : GoodIn wsX3_restore wsX3_keepDraft := goodIn_r _ [50, 51, 2, 52, 53, 54, 55, 56, 57, 58, 59, 60, 61, 62, 63, 64, 65, 12, 13, 14, 15, 16, 66, 26, 27, 28, 67, 34, 35, 36, 37, 38, 39, 40, 41, 68, 69, 70, 71, 72, 73, 79, 80, 81, 82, 77, 78] (by decide +kernel) (by decide +kernel)
set_option maxRecDepth 20000 in
theorem gX3_restore_X3_keepDraft : GoodIn wsX3_restore (wsV RX3 67 RX3 yX3_keepDraft wsX3_keepDraft) := goodIn_app (goodIn_of _ (by decide +kernel)) ggX3_restore_X3_keepDraft
theorem dX3_restore_0 : decode cX3_restore 0 = .ok (.aload_n 0, 1) := by decide +kernel
theorem dX3_restore_1 : decode cX3_restore 1 = .ok (.getfield 28, 3) := by decide +kernel
theorem dX3_restore_4 : decode cX3_restore 4 = .ok (.aload_n 0, 1) := by decide +kernel
theorem dX3_restore_5 : decode cX3_restore 5 = .ok (.getfield 32, 3) := by decide +kernel
theorem dX3_restore_8 : decode cX3_restore 8 = .ok (.invokevirtual 131, 3) := by decide +kernel
theorem dX3_restore_11 : decode cX3_restore 11 = .ok (.istore_n 1, 1) := by decide +kernel
theorem dX3_restore_12 : decode cX3_restore 12 = .ok (.iload_n 1, 1) := by decide +kernel
theorem dX3_restore_13 : decode cX3_restore 13 = .ok (.iconst (-1), 1) := by decide +kernel
theorem dX3_restore_14 : decode cX3_restore 14 = .ok (.if_icmp .eq 7, 3) := by decide +kernel
theorem dX3_restore_17 : decode cX3_restore 17 = .ok (.iconst (-1), 1) := by decide +kernel
theorem dX3_restore_18 : decode cX3_restore 18 = .ok (.iload_n 1, 1) := by decide +kernel
theorem dX3_restore_19 : decode cX3_restore 19 = .ok (.isub, 1) := by decide +kernel
theorem dX3_restore_20 : decode cX3_restore 20 = .ok (.ireturn, 1) := by decide +kernel
theorem dX3_restore_21 : decode cX3_restore 21 = .ok (.aload_n 0, 1) := by decide +kernel
theorem dX3_restore_22 : decode cX3_restore 22 = .ok (.invokevirtual 67, 3) := by decide +kernel
theorem dX3_restore_25 : decode cX3_restore 25 = .ok (.ireturn, 1) := by decide +kernel
set_option maxRecDepth 20000 in
theorem ggX3_told_X0_present : GoodIn wsX3_told wsX0_present := goodIn_r _ [8, 9, 10, 53, 54, 55, 56] (by decide +kernel) (by decide +kernel)
set_option maxRecDepth 20000 in
theorem gX3_told_X0_present : GoodIn wsX3_told (wsV RX3 39 RX0 yX0_present wsX0_present) := goodIn_app (goodIn_of _ (by decide +kernel)) ggX3_told_X0_present
set_option maxRecDepth 20000 in
theorem ggX3_told_X2_size : GoodIn wsX3_told wsX2_size := goodIn_r _ [15, 16, 57, 58] (by decide +kernel) (by decide +kernel)
set_option maxRecDepth 20000 in
theorem gX3_told_X2_size : GoodIn wsX3_told (wsV RX3 63 RX2 yX2_size wsX2_size) := goodIn_app (goodIn_of _ (by decide +kernel)) ggX3_told_X2_size
set_option maxRecDepth 20000 in
theorem ggX3_told_X0_pastSize : GoodIn wsX3_told wsX0_pastSize := goodIn_r _ [20, 21, 53, 54, 55, 56] (by decide +kernel) (by decide +kernel)
set_option maxRecDepth 20000 in
theorem gX3_told_X0_pastSize : GoodIn wsX3_told (wsV RX3 85 RX0 yX0_pastSize wsX0_pastSize) := goodIn_app (goodIn_of _ (by decide +kernel)) ggX3_told_X0_pastSize
set_option maxRecDepth 20000 in
theorem ggX3_told_X0_futureSize : GoodIn wsX3_told wsX0_futureSize := goodIn_r _ [25, 26, 53, 54, 55, 56] (by decide +kernel) (by decide +kernel)
set_option maxRecDepth 20000 in
theorem gX3_told_X0_futureSize : GoodIn wsX3_told (wsV RX3 96 RX0 yX0_futureSize wsX0_futureSize) := goodIn_app (goodIn_of _ (by decide +kernel)) ggX3_told_X0_futureSize
set_option maxRecDepth 20000 in
theorem ggX3_told_X1_size : GoodIn wsX3_told wsX1_size := goodIn_r _ [31, 32, 59, 60, 61] (by decide +kernel) (by decide +kernel)
set_option maxRecDepth 20000 in
theorem gX3_told_X1_size : GoodIn wsX3_told (wsV RX3 122 RX1 yX1_size wsX1_size) := goodIn_app (goodIn_of _ (by decide +kernel)) ggX3_told_X1_size
set_option maxRecDepth 20000 in
theorem ggX3_told_X3_differentCharacters : GoodIn wsX3_told wsX3_differentCharacters := goodIn_r _ [37, 1, 38, 4, 5, 6, 7, 8, 9, 10, 39, 40, 41, 42, 11, 12, 13, 14, 15, 16, 43, 44, 45, 46, 47, 48, 49, 50, 51, 52, 53, 54, 55, 56, 57, 58] (by decide +kernel) (by decide +kernel)
set_option maxRecDepth 20000 in
theorem gX3_told_X3_differentCharacters : GoodIn wsX3_told (wsV RX3 135 RX3 yX3_differentCharacters wsX3_differentCharacters) := goodIn_app (goodIn_of _ (by decide +kernel)) ggX3_told_X3_differentCharacters
theorem dX3_told_0 : decode cX3_told 0 = .ok (.iload_n 1, 1) := by decide +kernel
theorem dX3_told_1 : decode cX3_told 1 = .ok (.tableswitch 87 0 5 #[39, 50, 58, 66, 74, 82], 39) := by decide +kernel
theorem dX3_told_40 : decode cX3_told 40 = .ok (.aload_n 0, 1) := by decide +kernel
theorem dX3_told_41 : decode cX3_told 41 = .ok (.getfield 10, 3) := by decide +kernel
theorem dX3_told_44 : decode cX3_told 44 = .ok (.invokevirtual 39, 3) := by decide +kernel
theorem dX3_told_47 : decode cX3_told 47 = .ok (.invokevirtual 63, 3) := by decide +kernel
theorem dX3_told_50 : decode cX3_told 50 = .ok (.ireturn, 1) := by decide +kernel
theorem dX3_told_51 : decode cX3_told 51 = .ok (.aload_n 0, 1) := by decide +kernel
theorem dX3_told_52 : decode cX3_told 52 = .ok (.getfield 10, 3) := by decide +kernel
theorem dX3_told_55 : decode cX3_told 55 = .ok (.invokevirtual 85, 3) := by decide +kernel
theorem dX3_told_58 : decode cX3_told 58 = .ok (.ireturn, 1) := by decide +kernel
theorem dX3_told_59 : decode cX3_told 59 = .ok (.aload_n 0, 1) := by decide +kernel
theorem dX3_told_60 : decode cX3_told 60 = .ok (.getfield 10, 3) := by decide +kernel
theorem dX3_told_63 : decode cX3_told 63 = .ok (.invokevirtual 96, 3) := by decide +kernel
theorem dX3_told_66 : decode cX3_told 66 = .ok (.ireturn, 1) := by decide +kernel
theorem dX3_told_67 : decode cX3_told 67 = .ok (.aload_n 0, 1) := by decide +kernel
theorem dX3_told_68 : decode cX3_told 68 = .ok (.getfield 21, 3) := by decide +kernel
theorem dX3_told_71 : decode cX3_told 71 = .ok (.invokevirtual 63, 3) := by decide +kernel
theorem dX3_told_74 : decode cX3_told 74 = .ok (.ireturn, 1) := by decide +kernel
theorem dX3_told_75 : decode cX3_told 75 = .ok (.aload_n 0, 1) := by decide +kernel
theorem dX3_told_76 : decode cX3_told 76 = .ok (.getfield 28, 3) := by decide +kernel
theorem dX3_told_79 : decode cX3_told 79 = .ok (.invokevirtual 122, 3) := by decide +kernel
theorem dX3_told_82 : decode cX3_told 82 = .ok (.ireturn, 1) := by decide +kernel
theorem dX3_told_83 : decode cX3_told 83 = .ok (.aload_n 0, 1) := by decide +kernel
theorem dX3_told_84 : decode cX3_told 84 = .ok (.invokevirtual 135, 3) := by decide +kernel
theorem dX3_told_87 : decode cX3_told 87 = .ok (.ireturn, 1) := by decide +kernel
theorem dX3_told_88 : decode cX3_told 88 = .ok (.iconst (-1), 1) := by decide +kernel
theorem dX3_told_89 : decode cX3_told 89 = .ok (.ireturn, 1) := by decide +kernel
set_option maxRecDepth 20000 in
theorem ggX3_clear_X0_forget : GoodIn wsX3_clear wsX0_forget := goodIn_r _ [8, 9, 10, 11, 12, 13, 14, 15, 16, 17, 18, 31, 32, 33, 34, 35, 36] (by decide +kernel) (by decide +kernel)
set_option maxRecDepth 20000 in
theorem gX3_clear_X0_forget : GoodIn wsX3_clear (wsV RX3 138 RX0 yX0_forget wsX0_forget) := goodIn_app (goodIn_of _ (by decide +kernel)) ggX3_clear_X0_forget
set_option maxRecDepth 20000 in
theorem ggX3_clear_X2_empty : GoodIn wsX3_clear wsX2_empty := goodIn_r _ [17, 18, 35, 36] (by decide +kernel) (by decide +kernel)
set_option maxRecDepth 20000 in
theorem gX3_clear_X2_empty : GoodIn wsX3_clear (wsV RX3 53 RX2 yX2_empty wsX2_empty) := goodIn_app (goodIn_of _ (by decide +kernel)) ggX3_clear_X2_empty
set_option maxRecDepth 20000 in
theorem ggX3_clear_X1_forget : GoodIn wsX3_clear wsX1_forget := goodIn_r _ [24, 25, 37, 38, 39] (by decide +kernel) (by decide +kernel)
set_option maxRecDepth 20000 in
theorem gX3_clear_X1_forget : GoodIn wsX3_clear (wsV RX3 141 RX1 yX1_forget wsX1_forget) := goodIn_app (goodIn_of _ (by decide +kernel)) ggX3_clear_X1_forget
theorem dX3_clear_0 : decode cX3_clear 0 = .ok (.aload_n 0, 1) := by decide +kernel
theorem dX3_clear_1 : decode cX3_clear 1 = .ok (.getfield 10, 3) := by decide +kernel
theorem dX3_clear_4 : decode cX3_clear 4 = .ok (.invokevirtual 138, 3) := by decide +kernel
theorem dX3_clear_7 : decode cX3_clear 7 = .ok (.aload_n 0, 1) := by decide +kernel
theorem dX3_clear_8 : decode cX3_clear 8 = .ok (.getfield 21, 3) := by decide +kernel
theorem dX3_clear_11 : decode cX3_clear 11 = .ok (.invokevirtual 53, 3) := by decide +kernel
theorem dX3_clear_14 : decode cX3_clear 14 = .ok (.aload_n 0, 1) := by decide +kernel
theorem dX3_clear_15 : decode cX3_clear 15 = .ok (.getfield 28, 3) := by decide +kernel
theorem dX3_clear_18 : decode cX3_clear 18 = .ok (.invokevirtual 141, 3) := by decide +kernel
theorem dX3_clear_21 : decode cX3_clear 21 = .ok (.return_, 1) := by decide +kernel
set_option maxRecDepth 20000 in
theorem ggX3_keepDraft_X0_keep : GoodIn wsX3_keepDraft wsX0_keep := goodIn_r _ [7, 8, 9, 10, 11, 12, 13, 14, 15, 16, 17, 18, 19, 20, 21, 22, 23, 24, 25, 26, 27, 28, 29, 30, 31, 32, 33, 34, 41, 42, 43, 44, 45, 46] (by decide +kernel) (by decide +kernel)
set_option maxRecDepth 20000 in
theorem gX3_keepDraft_X0_keep : GoodIn wsX3_keepDraft (wsV RX3 142 RX0 yX0_keep wsX0_keep) := goodIn_app (goodIn_of _ (by decide +kernel)) ggX3_keepDraft_X0_keep
set_option maxRecDepth 20000 in
theorem ggX3_keepDraft_X2_size : GoodIn wsX3_keepDraft wsX2_size := goodIn_r _ [25, 21, 45, 46] (by decide +kernel) (by decide +kernel)
set_option maxRecDepth 20000 in
theorem gX3_keepDraft_X2_size : GoodIn wsX3_keepDraft (wsV RX3 63 RX2 yX2_size wsX2_size) := goodIn_app (goodIn_of _ (by decide +kernel)) ggX3_keepDraft_X2_size
theorem dX3_keepDraft_0 : decode cX3_keepDraft 0 = .ok (.aload_n 0, 1) := by decide +kernel
theorem dX3_keepDraft_1 : decode cX3_keepDraft 1 = .ok (.getfield 10, 3) := by decide +kernel
theorem dX3_keepDraft_4 : decode cX3_keepDraft 4 = .ok (.aload_n 0, 1) := by decide +kernel
theorem dX3_keepDraft_5 : decode cX3_keepDraft 5 = .ok (.getfield 32, 3) := by decide +kernel
theorem dX3_keepDraft_8 : decode cX3_keepDraft 8 = .ok (.invokevirtual 142, 3) := by decide +kernel
theorem dX3_keepDraft_11 : decode cX3_keepDraft 11 = .ok (.aload_n 0, 1) := by decide +kernel
theorem dX3_keepDraft_12 : decode cX3_keepDraft 12 = .ok (.getfield 32, 3) := by decide +kernel
theorem dX3_keepDraft_15 : decode cX3_keepDraft 15 = .ok (.invokevirtual 63, 3) := by decide +kernel
theorem dX3_keepDraft_18 : decode cX3_keepDraft 18 = .ok (.ireturn, 1) := by decide +kernel
set_option maxRecDepth 20000 in
theorem ggX3_draftReplaced_X0_present : GoodIn wsX3_draftReplaced wsX0_present := goodIn_r _ [8, 9, 10, 39, 40, 41, 42] (by decide +kernel) (by decide +kernel)
set_option maxRecDepth 20000 in
theorem gX3_draftReplaced_X0_present : GoodIn wsX3_draftReplaced (wsV RX3 39 RX0 yX0_present wsX0_present) := goodIn_app (goodIn_of _ (by decide +kernel)) ggX3_draftReplaced_X0_present
set_option maxRecDepth 20000 in
theorem ggX3_draftReplaced_X2_empty : GoodIn wsX3_draftReplaced wsX2_empty := goodIn_r _ [15, 16, 43, 44] (by decide +kernel) (by decide +kernel)
set_option maxRecDepth 20000 in
theorem gX3_draftReplaced_X2_empty : GoodIn wsX3_draftReplaced (wsV RX3 53 RX2 yX2_empty wsX2_empty) := goodIn_app (goodIn_of _ (by decide +kernel)) ggX3_draftReplaced_X2_empty
set_option maxRecDepth 20000 in
theorem ggX3_draftReplaced_X2_size : GoodIn wsX3_draftReplaced wsX2_size := goodIn_r _ [20, 16, 43, 44] (by decide +kernel) (by decide +kernel)
set_option maxRecDepth 20000 in
theorem gX3_draftReplaced_X2_size : GoodIn wsX3_draftReplaced (wsV RX3 63 RX2 yX2_size wsX2_size) := goodIn_app (goodIn_of _ (by decide +kernel)) ggX3_draftReplaced_X2_size
set_option maxRecDepth 20000 in
theorem ggX3_draftReplaced_X2_hasAt : GoodIn wsX3_draftReplaced wsX2_hasAt := goodIn_r _ [24, 16, 25, 43, 44] (by decide +kernel) (by decide +kernel)
set_option maxRecDepth 20000 in
theorem gX3_draftReplaced_X2_hasAt : GoodIn wsX3_draftReplaced (wsV RX3 109 RX2 yX2_hasAt wsX2_hasAt) := goodIn_app (goodIn_of _ (by decide +kernel)) ggX3_draftReplaced_X2_hasAt
set_option maxRecDepth 20000 in
theorem ggX3_draftReplaced_X2_add : GoodIn wsX3_draftReplaced wsX2_add := goodIn_r _ [29, 25, 16, 43, 44] (by decide +kernel) (by decide +kernel)
set_option maxRecDepth 20000 in
theorem gX3_draftReplaced_X2_add : GoodIn wsX3_draftReplaced (wsV RX3 60 RX2 yX2_add wsX2_add) := goodIn_app (goodIn_of _ (by decide +kernel)) ggX3_draftReplaced_X2_add
set_option maxRecDepth 20000 in
theorem ggX3_draftReplaced_X2_get : GoodIn wsX3_draftReplaced wsX2_get := goodIn_r _ [33, 25, 43, 44] (by decide +kernel) (by decide +kernel)
set_option maxRecDepth 20000 in
theorem gX3_draftReplaced_X2_get : GoodIn wsX3_draftReplaced (wsV RX3 81 RX2 yX2_get wsX2_get) := goodIn_app (goodIn_of _ (by decide +kernel)) ggX3_draftReplaced_X2_get
theorem dX3_draftReplaced_0 : decode cX3_draftReplaced 0 = .ok (.aload_n 0, 1) := by decide +kernel
theorem dX3_draftReplaced_1 : decode cX3_draftReplaced 1 = .ok (.getfield 10, 3) := by decide +kernel
theorem dX3_draftReplaced_4 : decode cX3_draftReplaced 4 = .ok (.invokevirtual 39, 3) := by decide +kernel
theorem dX3_draftReplaced_7 : decode cX3_draftReplaced 7 = .ok (.astore_n 2, 1) := by decide +kernel
theorem dX3_draftReplaced_8 : decode cX3_draftReplaced 8 = .ok (.aload_n 0, 1) := by decide +kernel
theorem dX3_draftReplaced_9 : decode cX3_draftReplaced 9 = .ok (.getfield 32, 3) := by decide +kernel
theorem dX3_draftReplaced_12 : decode cX3_draftReplaced 12 = .ok (.invokevirtual 53, 3) := by decide +kernel
theorem dX3_draftReplaced_15 : decode cX3_draftReplaced 15 = .ok (.iconst 0, 1) := by decide +kernel
theorem dX3_draftReplaced_16 : decode cX3_draftReplaced 16 = .ok (.istore_n 3, 1) := by decide +kernel
theorem dX3_draftReplaced_17 : decode cX3_draftReplaced 17 = .ok (.iconst 0, 1) := by decide +kernel
theorem dX3_draftReplaced_18 : decode cX3_draftReplaced 18 = .ok (.istore 4, 2) := by decide +kernel
theorem dX3_draftReplaced_20 : decode cX3_draftReplaced 20 = .ok (.iconst 0, 1) := by decide +kernel
theorem dX3_draftReplaced_21 : decode cX3_draftReplaced 21 = .ok (.istore 5, 2) := by decide +kernel
theorem dX3_draftReplaced_23 : decode cX3_draftReplaced 23 = .ok (.iload 5, 2) := by decide +kernel
theorem dX3_draftReplaced_25 : decode cX3_draftReplaced 25 = .ok (.aload_n 2, 1) := by decide +kernel
theorem dX3_draftReplaced_26 : decode cX3_draftReplaced 26 = .ok (.invokevirtual 63, 3) := by decide +kernel
theorem dX3_draftReplaced_29 : decode cX3_draftReplaced 29 = .ok (.if_icmp .ge 71, 3) := by decide +kernel
theorem dX3_draftReplaced_32 : decode cX3_draftReplaced 32 = .ok (.iload 5, 2) := by decide +kernel
theorem dX3_draftReplaced_34 : decode cX3_draftReplaced 34 = .ok (.iload 4, 2) := by decide +kernel
theorem dX3_draftReplaced_36 : decode cX3_draftReplaced 36 = .ok (.if_icmp .ge 6, 3) := by decide +kernel
theorem dX3_draftReplaced_39 : decode cX3_draftReplaced 39 = .ok (.goto 55, 3) := by decide +kernel
theorem dX3_draftReplaced_42 : decode cX3_draftReplaced 42 = .ok (.aload_n 2, 1) := by decide +kernel
theorem dX3_draftReplaced_43 : decode cX3_draftReplaced 43 = .ok (.iload 5, 2) := by decide +kernel
theorem dX3_draftReplaced_45 : decode cX3_draftReplaced 45 = .ok (.aload_n 0, 1) := by decide +kernel
theorem dX3_draftReplaced_46 : decode cX3_draftReplaced 46 = .ok (.getfield 21, 3) := by decide +kernel
theorem dX3_draftReplaced_49 : decode cX3_draftReplaced 49 = .ok (.invokevirtual 109, 3) := by decide +kernel
theorem dX3_draftReplaced_52 : decode cX3_draftReplaced 52 = .ok (.ifCond .eq 29, 3) := by decide +kernel
theorem dX3_draftReplaced_55 : decode cX3_draftReplaced 55 = .ok (.aload_n 0, 1) := by decide +kernel
theorem dX3_draftReplaced_56 : decode cX3_draftReplaced 56 = .ok (.getfield 32, 3) := by decide +kernel
theorem dX3_draftReplaced_59 : decode cX3_draftReplaced 59 = .ok (.iload_n 1, 1) := by decide +kernel
theorem dX3_draftReplaced_60 : decode cX3_draftReplaced 60 = .ok (.invokevirtual 60, 3) := by decide +kernel
theorem dX3_draftReplaced_63 : decode cX3_draftReplaced 63 = .ok (.iinc 3 1, 3) := by decide +kernel
theorem dX3_draftReplaced_66 : decode cX3_draftReplaced 66 = .ok (.iload 5, 2) := by decide +kernel
theorem dX3_draftReplaced_68 : decode cX3_draftReplaced 68 = .ok (.aload_n 0, 1) := by decide +kernel
theorem dX3_draftReplaced_69 : decode cX3_draftReplaced 69 = .ok (.getfield 21, 3) := by decide +kernel
theorem dX3_draftReplaced_72 : decode cX3_draftReplaced 72 = .ok (.invokevirtual 63, 3) := by decide +kernel
theorem dX3_draftReplaced_75 : decode cX3_draftReplaced 75 = .ok (.iadd, 1) := by decide +kernel
theorem dX3_draftReplaced_76 : decode cX3_draftReplaced 76 = .ok (.istore 4, 2) := by decide +kernel
theorem dX3_draftReplaced_78 : decode cX3_draftReplaced 78 = .ok (.goto 16, 3) := by decide +kernel
theorem dX3_draftReplaced_81 : decode cX3_draftReplaced 81 = .ok (.aload_n 0, 1) := by decide +kernel
theorem dX3_draftReplaced_82 : decode cX3_draftReplaced 82 = .ok (.getfield 32, 3) := by decide +kernel
theorem dX3_draftReplaced_85 : decode cX3_draftReplaced 85 = .ok (.aload_n 2, 1) := by decide +kernel
theorem dX3_draftReplaced_86 : decode cX3_draftReplaced 86 = .ok (.iload 5, 2) := by decide +kernel
theorem dX3_draftReplaced_88 : decode cX3_draftReplaced 88 = .ok (.invokevirtual 81, 3) := by decide +kernel
theorem dX3_draftReplaced_91 : decode cX3_draftReplaced 91 = .ok (.invokevirtual 60, 3) := by decide +kernel
theorem dX3_draftReplaced_94 : decode cX3_draftReplaced 94 = .ok (.iinc 5 1, 3) := by decide +kernel
theorem dX3_draftReplaced_97 : decode cX3_draftReplaced 97 = .ok (.goto (-74), 3) := by decide +kernel
theorem dX3_draftReplaced_100 : decode cX3_draftReplaced 100 = .ok (.iload_n 3, 1) := by decide +kernel
theorem dX3_draftReplaced_101 : decode cX3_draftReplaced 101 = .ok (.ireturn, 1) := by decide +kernel
set_option maxRecDepth 20000 in
theorem ggX3_differentCharacters_X0_present : GoodIn wsX3_differentCharacters wsX0_present := goodIn_r _ [7, 8, 9, 30, 31, 32, 33] (by decide +kernel) (by decide +kernel)
set_option maxRecDepth 20000 in
theorem gX3_differentCharacters_X0_present : GoodIn wsX3_differentCharacters (wsV RX3 39 RX0 yX0_present wsX0_present) := goodIn_app (goodIn_of _ (by decide +kernel)) ggX3_differentCharacters_X0_present
set_option maxRecDepth 20000 in
theorem ggX3_differentCharacters_J7_fill_53178 : GoodIn wsX3_differentCharacters wsJ7_fill_53178 := goodIn_r _ [13] (by decide +kernel) (by decide +kernel)
set_option maxRecDepth 20000 in
theorem gX3_differentCharacters_J7_fill_53178 : GoodIn wsX3_differentCharacters (va_wsS RX3 145 yJ7_fill_53178 wsJ7_fill_53178) := goodIn_app (goodIn_of _ (by decide +kernel)) ggX3_differentCharacters_J7_fill_53178
set_option maxRecDepth 20000 in
theorem ggX3_differentCharacters_X2_size : GoodIn wsX3_differentCharacters wsX2_size := goodIn_r _ [18, 19, 34, 35] (by decide +kernel) (by decide +kernel)
set_option maxRecDepth 20000 in
theorem gX3_differentCharacters_X2_size : GoodIn wsX3_differentCharacters (wsV RX3 63 RX2 yX2_size wsX2_size) := goodIn_app (goodIn_of _ (by decide +kernel)) ggX3_differentCharacters_X2_size
set_option maxRecDepth 20000 in
theorem ggX3_differentCharacters_X2_get : GoodIn wsX3_differentCharacters wsX2_get := goodIn_r _ [23, 24, 34, 35] (by decide +kernel) (by decide +kernel)
set_option maxRecDepth 20000 in
theorem gX3_differentCharacters_X2_get : GoodIn wsX3_differentCharacters (wsV RX3 81 RX2 yX2_get wsX2_get) := goodIn_app (goodIn_of _ (by decide +kernel)) ggX3_differentCharacters_X2_get
theorem dX3_differentCharacters_0 : decode cX3_differentCharacters 0 = .ok (.aload_n 0, 1) := by decide +kernel
theorem dX3_differentCharacters_1 : decode cX3_differentCharacters 1 = .ok (.getfield 10, 3) := by decide +kernel
theorem dX3_differentCharacters_4 : decode cX3_differentCharacters 4 = .ok (.invokevirtual 39, 3) := by decide +kernel
theorem dX3_differentCharacters_7 : decode cX3_differentCharacters 7 = .ok (.astore_n 1, 1) := by decide +kernel
theorem dX3_differentCharacters_8 : decode cX3_differentCharacters 8 = .ok (.aload_n 0, 1) := by decide +kernel
theorem dX3_differentCharacters_9 : decode cX3_differentCharacters 9 = .ok (.getfield 35, 3) := by decide +kernel
theorem dX3_differentCharacters_12 : decode cX3_differentCharacters 12 = .ok (.iconst 0, 1) := by decide +kernel
theorem dX3_differentCharacters_13 : decode cX3_differentCharacters 13 = .ok (.invokestatic 145, 3) := by decide +kernel
theorem dX3_differentCharacters_16 : decode cX3_differentCharacters 16 = .ok (.iconst 0, 1) := by decide +kernel
theorem dX3_differentCharacters_17 : decode cX3_differentCharacters 17 = .ok (.istore_n 2, 1) := by decide +kernel
theorem dX3_differentCharacters_18 : decode cX3_differentCharacters 18 = .ok (.iconst 0, 1) := by decide +kernel
theorem dX3_differentCharacters_19 : decode cX3_differentCharacters 19 = .ok (.istore_n 3, 1) := by decide +kernel
theorem dX3_differentCharacters_20 : decode cX3_differentCharacters 20 = .ok (.iload_n 3, 1) := by decide +kernel
theorem dX3_differentCharacters_21 : decode cX3_differentCharacters 21 = .ok (.aload_n 1, 1) := by decide +kernel
theorem dX3_differentCharacters_22 : decode cX3_differentCharacters 22 = .ok (.invokevirtual 63, 3) := by decide +kernel
theorem dX3_differentCharacters_25 : decode cX3_differentCharacters 25 = .ok (.if_icmp .ge 40, 3) := by decide +kernel
theorem dX3_differentCharacters_28 : decode cX3_differentCharacters 28 = .ok (.aload_n 1, 1) := by decide +kernel
theorem dX3_differentCharacters_29 : decode cX3_differentCharacters 29 = .ok (.iload_n 3, 1) := by decide +kernel
theorem dX3_differentCharacters_30 : decode cX3_differentCharacters 30 = .ok (.invokevirtual 81, 3) := by decide +kernel
theorem dX3_differentCharacters_33 : decode cX3_differentCharacters 33 = .ok (.istore 4, 2) := by decide +kernel
theorem dX3_differentCharacters_35 : decode cX3_differentCharacters 35 = .ok (.aload_n 0, 1) := by decide +kernel
theorem dX3_differentCharacters_36 : decode cX3_differentCharacters 36 = .ok (.getfield 35, 3) := by decide +kernel
theorem dX3_differentCharacters_39 : decode cX3_differentCharacters 39 = .ok (.iload 4, 2) := by decide +kernel
theorem dX3_differentCharacters_41 : decode cX3_differentCharacters 41 = .ok (.iaload, 1) := by decide +kernel
theorem dX3_differentCharacters_42 : decode cX3_differentCharacters 42 = .ok (.ifCond .ne 6, 3) := by decide +kernel
theorem dX3_differentCharacters_45 : decode cX3_differentCharacters 45 = .ok (.iinc 2 1, 3) := by decide +kernel
theorem dX3_differentCharacters_48 : decode cX3_differentCharacters 48 = .ok (.aload_n 0, 1) := by decide +kernel
theorem dX3_differentCharacters_49 : decode cX3_differentCharacters 49 = .ok (.getfield 35, 3) := by decide +kernel
theorem dX3_differentCharacters_52 : decode cX3_differentCharacters 52 = .ok (.iload 4, 2) := by decide +kernel
theorem dX3_differentCharacters_54 : decode cX3_differentCharacters 54 = .ok (.dup2, 1) := by decide +kernel
theorem dX3_differentCharacters_55 : decode cX3_differentCharacters 55 = .ok (.iaload, 1) := by decide +kernel
theorem dX3_differentCharacters_56 : decode cX3_differentCharacters 56 = .ok (.iconst 1, 1) := by decide +kernel
theorem dX3_differentCharacters_57 : decode cX3_differentCharacters 57 = .ok (.iadd, 1) := by decide +kernel
theorem dX3_differentCharacters_58 : decode cX3_differentCharacters 58 = .ok (.iastore, 1) := by decide +kernel
theorem dX3_differentCharacters_59 : decode cX3_differentCharacters 59 = .ok (.iinc 3 1, 3) := by decide +kernel
theorem dX3_differentCharacters_62 : decode cX3_differentCharacters 62 = .ok (.goto (-42), 3) := by decide +kernel
theorem dX3_differentCharacters_65 : decode cX3_differentCharacters 65 = .ok (.iload_n 2, 1) := by decide +kernel
theorem dX3_differentCharacters_66 : decode cX3_differentCharacters 66 = .ok (.ireturn, 1) := by decide +kernel
set_option maxRecDepth 20000 in
theorem ggX3_refuseNoPlace_X2_size : GoodIn wsX3_refuseNoPlace wsX2_size := goodIn_r _ [7, 8, 9, 10] (by decide +kernel) (by decide +kernel)
set_option maxRecDepth 20000 in
theorem gX3_refuseNoPlace_X2_size : GoodIn wsX3_refuseNoPlace (wsV RX3 63 RX2 yX2_size wsX2_size) := goodIn_app (goodIn_of _ (by decide +kernel)) ggX3_refuseNoPlace_X2_size
theorem dX3_refuseNoPlace_0 : decode cX3_refuseNoPlace 0 = .ok (.iload_n 0, 1) := by decide +kernel
theorem dX3_refuseNoPlace_1 : decode cX3_refuseNoPlace 1 = .ok (.ifCond .lt 11, 3) := by decide +kernel
theorem dX3_refuseNoPlace_4 : decode cX3_refuseNoPlace 4 = .ok (.iload_n 0, 1) := by decide +kernel
theorem dX3_refuseNoPlace_5 : decode cX3_refuseNoPlace 5 = .ok (.aload_n 1, 1) := by decide +kernel
theorem dX3_refuseNoPlace_6 : decode cX3_refuseNoPlace 6 = .ok (.invokevirtual 63, 3) := by decide +kernel
theorem dX3_refuseNoPlace_9 : decode cX3_refuseNoPlace 9 = .ok (.if_icmp .le 13, 3) := by decide +kernel
theorem dX3_refuseNoPlace_12 : decode cX3_refuseNoPlace 12 = .ok (.new 74, 3) := by decide +kernel
theorem dX3_refuseNoPlace_15 : decode cX3_refuseNoPlace 15 = .ok (.dup, 1) := by decide +kernel
theorem dX3_refuseNoPlace_16 : decode cX3_refuseNoPlace 16 = .ok (.ldc 151, 2) := by decide +kernel
theorem dX3_refuseNoPlace_18 : decode cX3_refuseNoPlace 18 = .ok (.invokespecial 78, 3) := by decide +kernel
theorem dX3_refuseNoPlace_21 : decode cX3_refuseNoPlace 21 = .ok (.athrow, 1) := by decide +kernel
theorem dX3_refuseNoPlace_22 : decode cX3_refuseNoPlace 22 = .ok (.return_, 1) := by decide +kernel
theorem dX3_refuseNoCharacter_0 : decode cX3_refuseNoCharacter 0 = .ok (.iload_n 0, 1) := by decide +kernel
theorem dX3_refuseNoCharacter_1 : decode cX3_refuseNoCharacter 1 = .ok (.ifCond .lt 10, 3) := by decide +kernel
theorem dX3_refuseNoCharacter_4 : decode cX3_refuseNoCharacter 4 = .ok (.iload_n 0, 1) := by decide +kernel
theorem dX3_refuseNoCharacter_5 : decode cX3_refuseNoCharacter 5 = .ok (.sipush 256, 3) := by decide +kernel
theorem dX3_refuseNoCharacter_8 : decode cX3_refuseNoCharacter 8 = .ok (.if_icmp .lt 13, 3) := by decide +kernel
theorem dX3_refuseNoCharacter_11 : decode cX3_refuseNoCharacter 11 = .ok (.new 153, 3) := by decide +kernel
theorem dX3_refuseNoCharacter_14 : decode cX3_refuseNoCharacter 14 = .ok (.dup, 1) := by decide +kernel
theorem dX3_refuseNoCharacter_15 : decode cX3_refuseNoCharacter 15 = .ok (.ldc 155, 2) := by decide +kernel
theorem dX3_refuseNoCharacter_17 : decode cX3_refuseNoCharacter 17 = .ok (.invokespecial 157, 3) := by decide +kernel
theorem dX3_refuseNoCharacter_20 : decode cX3_refuseNoCharacter 20 = .ok (.athrow, 1) := by decide +kernel
theorem dX3_refuseNoCharacter_21 : decode cX3_refuseNoCharacter 21 = .ok (.return_, 1) := by decide +kernel
set_option maxRecDepth 20000 in
theorem ggX3_refuseNoPart_X2_size : GoodIn wsX3_refuseNoPart wsX2_size := goodIn_r _ [7, 8, 9, 10] (by decide +kernel) (by decide +kernel)
set_option maxRecDepth 20000 in
theorem gX3_refuseNoPart_X2_size : GoodIn wsX3_refuseNoPart (wsV RX3 63 RX2 yX2_size wsX2_size) := goodIn_app (goodIn_of _ (by decide +kernel)) ggX3_refuseNoPart_X2_size
theorem dX3_refuseNoPart_0 : decode cX3_refuseNoPart 0 = .ok (.iload_n 1, 1) := by decide +kernel
theorem dX3_refuseNoPart_1 : decode cX3_refuseNoPart 1 = .ok (.ifCond .lt 13, 3) := by decide +kernel
theorem dX3_refuseNoPart_4 : decode cX3_refuseNoPart 4 = .ok (.iload_n 1, 1) := by decide +kernel
theorem dX3_refuseNoPart_5 : decode cX3_refuseNoPart 5 = .ok (.aload_n 2, 1) := by decide +kernel
theorem dX3_refuseNoPart_6 : decode cX3_refuseNoPart 6 = .ok (.invokevirtual 63, 3) := by decide +kernel
theorem dX3_refuseNoPart_9 : decode cX3_refuseNoPart 9 = .ok (.iload_n 0, 1) := by decide +kernel
theorem dX3_refuseNoPart_10 : decode cX3_refuseNoPart 10 = .ok (.isub, 1) := by decide +kernel
theorem dX3_refuseNoPart_11 : decode cX3_refuseNoPart 11 = .ok (.if_icmp .le 13, 3) := by decide +kernel
theorem dX3_refuseNoPart_14 : decode cX3_refuseNoPart 14 = .ok (.new 153, 3) := by decide +kernel
theorem dX3_refuseNoPart_17 : decode cX3_refuseNoPart 17 = .ok (.dup, 1) := by decide +kernel
theorem dX3_refuseNoPart_18 : decode cX3_refuseNoPart 18 = .ok (.ldc 158, 2) := by decide +kernel
theorem dX3_refuseNoPart_20 : decode cX3_refuseNoPart 20 = .ok (.invokespecial 157, 3) := by decide +kernel
theorem dX3_refuseNoPart_23 : decode cX3_refuseNoPart 23 = .ok (.athrow, 1) := by decide +kernel
theorem dX3_refuseNoPart_24 : decode cX3_refuseNoPart 24 = .ok (.return_, 1) := by decide +kernel
set_option maxRecDepth 20000 in
theorem ggX3_refuseTooLong_X2_size : GoodIn wsX3_refuseTooLong wsX2_size := goodIn_r _ [7, 8, 9, 10] (by decide +kernel) (by decide +kernel)
set_option maxRecDepth 20000 in
theorem gX3_refuseTooLong_X2_size : GoodIn wsX3_refuseTooLong (wsV RX3 63 RX2 yX2_size wsX2_size) := goodIn_app (goodIn_of _ (by decide +kernel)) ggX3_refuseTooLong_X2_size
theorem dX3_refuseTooLong_0 : decode cX3_refuseTooLong 0 = .ok (.iload_n 0, 1) := by decide +kernel
theorem dX3_refuseTooLong_1 : decode cX3_refuseTooLong 1 = .ok (.sipush 240, 3) := by decide +kernel
theorem dX3_refuseTooLong_4 : decode cX3_refuseTooLong 4 = .ok (.aload_n 1, 1) := by decide +kernel
theorem dX3_refuseTooLong_5 : decode cX3_refuseTooLong 5 = .ok (.invokevirtual 63, 3) := by decide +kernel
theorem dX3_refuseTooLong_8 : decode cX3_refuseTooLong 8 = .ok (.isub, 1) := by decide +kernel
theorem dX3_refuseTooLong_9 : decode cX3_refuseTooLong 9 = .ok (.if_icmp .le 13, 3) := by decide +kernel
theorem dX3_refuseTooLong_12 : decode cX3_refuseTooLong 12 = .ok (.new 104, 3) := by decide +kernel
theorem dX3_refuseTooLong_15 : decode cX3_refuseTooLong 15 = .ok (.dup, 1) := by decide +kernel
theorem dX3_refuseTooLong_16 : decode cX3_refuseTooLong 16 = .ok (.ldc 160, 2) := by decide +kernel
theorem dX3_refuseTooLong_18 : decode cX3_refuseTooLong 18 = .ok (.invokespecial 108, 3) := by decide +kernel
theorem dX3_refuseTooLong_21 : decode cX3_refuseTooLong 21 = .ok (.athrow, 1) := by decide +kernel
theorem dX3_refuseTooLong_22 : decode cX3_refuseTooLong 22 = .ok (.return_, 1) := by decide +kernel
set_option maxRecDepth 20000 in
theorem ggX3_refuseNoWord_X1_size : GoodIn wsX3_refuseNoWord wsX1_size := goodIn_r _ [8, 9, 15, 16, 17] (by decide +kernel) (by decide +kernel)
set_option maxRecDepth 20000 in
theorem gX3_refuseNoWord_X1_size : GoodIn wsX3_refuseNoWord (wsV RX3 122 RX1 yX1_size wsX1_size) := goodIn_app (goodIn_of _ (by decide +kernel)) ggX3_refuseNoWord_X1_size
theorem dX3_refuseNoWord_0 : decode cX3_refuseNoWord 0 = .ok (.iload_n 1, 1) := by decide +kernel
theorem dX3_refuseNoWord_1 : decode cX3_refuseNoWord 1 = .ok (.ifCond .lt 14, 3) := by decide +kernel
theorem dX3_refuseNoWord_4 : decode cX3_refuseNoWord 4 = .ok (.iload_n 1, 1) := by decide +kernel
theorem dX3_refuseNoWord_5 : decode cX3_refuseNoWord 5 = .ok (.aload_n 0, 1) := by decide +kernel
theorem dX3_refuseNoWord_6 : decode cX3_refuseNoWord 6 = .ok (.getfield 28, 3) := by decide +kernel
theorem dX3_refuseNoWord_9 : decode cX3_refuseNoWord 9 = .ok (.invokevirtual 122, 3) := by decide +kernel
theorem dX3_refuseNoWord_12 : decode cX3_refuseNoWord 12 = .ok (.if_icmp .lt 13, 3) := by decide +kernel
theorem dX3_refuseNoWord_15 : decode cX3_refuseNoWord 15 = .ok (.new 74, 3) := by decide +kernel
theorem dX3_refuseNoWord_18 : decode cX3_refuseNoWord 18 = .ok (.dup, 1) := by decide +kernel
theorem dX3_refuseNoWord_19 : decode cX3_refuseNoWord 19 = .ok (.ldc 162, 2) := by decide +kernel
theorem dX3_refuseNoWord_21 : decode cX3_refuseNoWord 21 = .ok (.invokespecial 78, 3) := by decide +kernel
theorem dX3_refuseNoWord_24 : decode cX3_refuseNoWord 24 = .ok (.athrow, 1) := by decide +kernel
theorem dX3_refuseNoWord_25 : decode cX3_refuseNoWord 25 = .ok (.return_, 1) := by decide +kernel
end
section
theorem dX4_init_0 : decode cX4_init 0 = .ok (.aload_n 0, 1) := by decide +kernel
theorem dX4_init_1 : decode cX4_init 1 = .ok (.invokespecial 1, 3) := by decide +kernel
theorem dX4_init_4 : decode cX4_init 4 = .ok (.aload_n 0, 1) := by decide +kernel
theorem dX4_init_5 : decode cX4_init 5 = .ok (.sipush 3120, 3) := by decide +kernel
theorem dX4_init_8 : decode cX4_init 8 = .ok (.newarray .int, 2) := by decide +kernel
theorem dX4_init_10 : decode cX4_init 10 = .ok (.putfield 7, 3) := by decide +kernel
theorem dX4_init_13 : decode cX4_init 13 = .ok (.aload_n 0, 1) := by decide +kernel
theorem dX4_init_14 : decode cX4_init 14 = .ok (.bipush 13, 2) := by decide +kernel
theorem dX4_init_16 : decode cX4_init 16 = .ok (.newarray .int, 2) := by decide +kernel
theorem dX4_init_18 : decode cX4_init 18 = .ok (.putfield 13, 3) := by decide +kernel
theorem dX4_init_21 : decode cX4_init 21 = .ok (.aload_n 0, 1) := by decide +kernel
theorem dX4_init_22 : decode cX4_init 22 = .ok (.sipush 240, 3) := by decide +kernel
theorem dX4_init_25 : decode cX4_init 25 = .ok (.newarray .int, 2) := by decide +kernel
theorem dX4_init_27 : decode cX4_init 27 = .ok (.putfield 16, 3) := by decide +kernel
theorem dX4_init_30 : decode cX4_init 30 = .ok (.aload_n 0, 1) := by decide +kernel
theorem dX4_init_31 : decode cX4_init 31 = .ok (.bipush 16, 2) := by decide +kernel
theorem dX4_init_33 : decode cX4_init 33 = .ok (.newarray .int, 2) := by decide +kernel
theorem dX4_init_35 : decode cX4_init 35 = .ok (.putfield 19, 3) := by decide +kernel
theorem dX4_init_38 : decode cX4_init 38 = .ok (.aload_n 0, 1) := by decide +kernel
theorem dX4_init_39 : decode cX4_init 39 = .ok (.sipush 240, 3) := by decide +kernel
theorem dX4_init_42 : decode cX4_init 42 = .ok (.newarray .int, 2) := by decide +kernel
theorem dX4_init_44 : decode cX4_init 44 = .ok (.putfield 22, 3) := by decide +kernel
theorem dX4_init_47 : decode cX4_init 47 = .ok (.aload_n 0, 1) := by decide +kernel
theorem dX4_init_48 : decode cX4_init 48 = .ok (.sipush 241, 3) := by decide +kernel
theorem dX4_init_51 : decode cX4_init 51 = .ok (.newarray .int, 2) := by decide +kernel
theorem dX4_init_53 : decode cX4_init 53 = .ok (.putfield 25, 3) := by decide +kernel
theorem dX4_init_56 : decode cX4_init 56 = .ok (.aload_n 0, 1) := by decide +kernel
theorem dX4_init_57 : decode cX4_init 57 = .ok (.sipush 241, 3) := by decide +kernel
theorem dX4_init_60 : decode cX4_init 60 = .ok (.newarray .int, 2) := by decide +kernel
theorem dX4_init_62 : decode cX4_init 62 = .ok (.putfield 28, 3) := by decide +kernel
theorem dX4_init_65 : decode cX4_init 65 = .ok (.return_, 1) := by decide +kernel
theorem dX4_thrown_0 : decode cX4_thrown 0 = .ok (.aload_n 0, 1) := by decide +kernel
theorem dX4_thrown_1 : decode cX4_thrown 1 = .ok (.getfield 31, 3) := by decide +kernel
theorem dX4_thrown_4 : decode cX4_thrown 4 = .ok (.ireturn, 1) := by decide +kernel
theorem dX4_length_0 : decode cX4_length 0 = .ok (.aload_n 0, 1) := by decide +kernel
theorem dX4_length_1 : decode cX4_length 1 = .ok (.getfield 13, 3) := by decide +kernel
theorem dX4_length_4 : decode cX4_length 4 = .ok (.aload_n 0, 1) := by decide +kernel
theorem dX4_length_5 : decode cX4_length 5 = .ok (.getfield 35, 3) := by decide +kernel
theorem dX4_length_8 : decode cX4_length 8 = .ok (.iaload, 1) := by decide +kernel
theorem dX4_length_9 : decode cX4_length 9 = .ok (.ireturn, 1) := by decide +kernel
theorem dX4_charAt_0 : decode cX4_charAt 0 = .ok (.aload_n 0, 1) := by decide +kernel
theorem dX4_charAt_1 : decode cX4_charAt 1 = .ok (.getfield 7, 3) := by decide +kernel
theorem dX4_charAt_4 : decode cX4_charAt 4 = .ok (.sipush 240, 3) := by decide +kernel
theorem dX4_charAt_7 : decode cX4_charAt 7 = .ok (.aload_n 0, 1) := by decide +kernel
theorem dX4_charAt_8 : decode cX4_charAt 8 = .ok (.getfield 35, 3) := by decide +kernel
theorem dX4_charAt_11 : decode cX4_charAt 11 = .ok (.imul, 1) := by decide +kernel
theorem dX4_charAt_12 : decode cX4_charAt 12 = .ok (.iload_n 1, 1) := by decide +kernel
theorem dX4_charAt_13 : decode cX4_charAt 13 = .ok (.iadd, 1) := by decide +kernel
theorem dX4_charAt_14 : decode cX4_charAt 14 = .ok (.iaload, 1) := by decide +kernel
theorem dX4_charAt_15 : decode cX4_charAt 15 = .ok (.ireturn, 1) := by decide +kernel
theorem dX4_isIn_0 : decode cX4_isIn 0 = .ok (.lload_n 0, 1) := by decide +kernel
theorem dX4_isIn_1 : decode cX4_isIn 1 = .ok (.lload_n 2, 1) := by decide +kernel
theorem dX4_isIn_2 : decode cX4_isIn 2 = .ok (.lcmp, 1) := by decide +kernel
theorem dX4_isIn_3 : decode cX4_isIn 3 = .ok (.ifCond .lt 14, 3) := by decide +kernel
theorem dX4_isIn_6 : decode cX4_isIn 6 = .ok (.lload_n 0, 1) := by decide +kernel
theorem dX4_isIn_7 : decode cX4_isIn 7 = .ok (.lload 4, 2) := by decide +kernel
theorem dX4_isIn_9 : decode cX4_isIn 9 = .ok (.lcmp, 1) := by decide +kernel
theorem dX4_isIn_10 : decode cX4_isIn 10 = .ok (.ifCond .gt 7, 3) := by decide +kernel
theorem dX4_isIn_13 : decode cX4_isIn 13 = .ok (.iconst 1, 1) := by decide +kernel
theorem dX4_isIn_14 : decode cX4_isIn 14 = .ok (.goto 4, 3) := by decide +kernel
theorem dX4_isIn_17 : decode cX4_isIn 17 = .ok (.iconst 0, 1) := by decide +kernel
theorem dX4_isIn_18 : decode cX4_isIn 18 = .ok (.ireturn, 1) := by decide +kernel
set_option maxRecDepth 20000 in
theorem ggX4_draftFrom_X4_charAt : GoodIn wsX4_draftFrom wsX4_charAt := goodIn_r _ [7, 8, 9, 10, 11, 12, 13, 14, 15, 16, 17, 18, 19, 20, 21, 22] (by decide +kernel) (by decide +kernel)
set_option maxRecDepth 20000 in
theorem gX4_draftFrom_X4_charAt : GoodIn wsX4_draftFrom (wsV RX4 41 RX4 yX4_charAt wsX4_charAt) := goodIn_app (goodIn_of _ (by decide +kernel)) ggX4_draftFrom_X4_charAt
theorem dX4_draftFrom_0 : decode cX4_draftFrom 0 = .ok (.iload_n 1, 1) := by decide +kernel
theorem dX4_draftFrom_1 : decode cX4_draftFrom 1 = .ok (.istore_n 3, 1) := by decide +kernel
theorem dX4_draftFrom_2 : decode cX4_draftFrom 2 = .ok (.iload_n 3, 1) := by decide +kernel
theorem dX4_draftFrom_3 : decode cX4_draftFrom 3 = .ok (.iload_n 2, 1) := by decide +kernel
theorem dX4_draftFrom_4 : decode cX4_draftFrom 4 = .ok (.if_icmp .ge 33, 3) := by decide +kernel
theorem dX4_draftFrom_7 : decode cX4_draftFrom 7 = .ok (.aload_n 0, 1) := by decide +kernel
theorem dX4_draftFrom_8 : decode cX4_draftFrom 8 = .ok (.getfield 16, 3) := by decide +kernel
theorem dX4_draftFrom_11 : decode cX4_draftFrom 11 = .ok (.aload_n 0, 1) := by decide +kernel
theorem dX4_draftFrom_12 : decode cX4_draftFrom 12 = .ok (.getfield 38, 3) := by decide +kernel
theorem dX4_draftFrom_15 : decode cX4_draftFrom 15 = .ok (.aload_n 0, 1) := by decide +kernel
theorem dX4_draftFrom_16 : decode cX4_draftFrom 16 = .ok (.iload_n 3, 1) := by decide +kernel
theorem dX4_draftFrom_17 : decode cX4_draftFrom 17 = .ok (.invokevirtual 41, 3) := by decide +kernel
theorem dX4_draftFrom_20 : decode cX4_draftFrom 20 = .ok (.iastore, 1) := by decide +kernel
theorem dX4_draftFrom_21 : decode cX4_draftFrom 21 = .ok (.aload_n 0, 1) := by decide +kernel
theorem dX4_draftFrom_22 : decode cX4_draftFrom 22 = .ok (.dup, 1) := by decide +kernel
theorem dX4_draftFrom_23 : decode cX4_draftFrom 23 = .ok (.getfield 38, 3) := by decide +kernel
theorem dX4_draftFrom_26 : decode cX4_draftFrom 26 = .ok (.iconst 1, 1) := by decide +kernel
theorem dX4_draftFrom_27 : decode cX4_draftFrom 27 = .ok (.iadd, 1) := by decide +kernel
theorem dX4_draftFrom_28 : decode cX4_draftFrom 28 = .ok (.putfield 38, 3) := by decide +kernel
theorem dX4_draftFrom_31 : decode cX4_draftFrom 31 = .ok (.iinc 3 1, 3) := by decide +kernel
theorem dX4_draftFrom_34 : decode cX4_draftFrom 34 = .ok (.goto (-32), 3) := by decide +kernel
theorem dX4_draftFrom_37 : decode cX4_draftFrom 37 = .ok (.return_, 1) := by decide +kernel
theorem dX4_draftOne_0 : decode cX4_draftOne 0 = .ok (.aload_n 0, 1) := by decide +kernel
theorem dX4_draftOne_1 : decode cX4_draftOne 1 = .ok (.getfield 16, 3) := by decide +kernel
theorem dX4_draftOne_4 : decode cX4_draftOne 4 = .ok (.aload_n 0, 1) := by decide +kernel
theorem dX4_draftOne_5 : decode cX4_draftOne 5 = .ok (.getfield 38, 3) := by decide +kernel
theorem dX4_draftOne_8 : decode cX4_draftOne 8 = .ok (.iload_n 1, 1) := by decide +kernel
theorem dX4_draftOne_9 : decode cX4_draftOne 9 = .ok (.iastore, 1) := by decide +kernel
theorem dX4_draftOne_10 : decode cX4_draftOne 10 = .ok (.aload_n 0, 1) := by decide +kernel
theorem dX4_draftOne_11 : decode cX4_draftOne 11 = .ok (.dup, 1) := by decide +kernel
theorem dX4_draftOne_12 : decode cX4_draftOne 12 = .ok (.getfield 38, 3) := by decide +kernel
theorem dX4_draftOne_15 : decode cX4_draftOne 15 = .ok (.iconst 1, 1) := by decide +kernel
theorem dX4_draftOne_16 : decode cX4_draftOne 16 = .ok (.iadd, 1) := by decide +kernel
theorem dX4_draftOne_17 : decode cX4_draftOne 17 = .ok (.putfield 38, 3) := by decide +kernel
theorem dX4_draftOne_20 : decode cX4_draftOne 20 = .ok (.return_, 1) := by decide +kernel
theorem dX4_act_0 : decode cX4_act 0 = .ok (.aload_n 0, 1) := by decide +kernel
theorem dX4_act_1 : decode cX4_act 1 = .ok (.getfield 35, 3) := by decide +kernel
theorem dX4_act_4 : decode cX4_act 4 = .ok (.bipush 12, 2) := by decide +kernel
theorem dX4_act_6 : decode cX4_act 6 = .ok (.if_icmp .ne 68, 3) := by decide +kernel
theorem dX4_act_9 : decode cX4_act 9 = .ok (.iconst 0, 1) := by decide +kernel
theorem dX4_act_10 : decode cX4_act 10 = .ok (.istore_n 1, 1) := by decide +kernel
theorem dX4_act_11 : decode cX4_act 11 = .ok (.iload_n 1, 1) := by decide +kernel
theorem dX4_act_12 : decode cX4_act 12 = .ok (.sipush 2880, 3) := by decide +kernel
theorem dX4_act_15 : decode cX4_act 15 = .ok (.if_icmp .ge 25, 3) := by decide +kernel
theorem dX4_act_18 : decode cX4_act 18 = .ok (.aload_n 0, 1) := by decide +kernel
theorem dX4_act_19 : decode cX4_act 19 = .ok (.getfield 7, 3) := by decide +kernel
theorem dX4_act_22 : decode cX4_act 22 = .ok (.iload_n 1, 1) := by decide +kernel
theorem dX4_act_23 : decode cX4_act 23 = .ok (.aload_n 0, 1) := by decide +kernel
theorem dX4_act_24 : decode cX4_act 24 = .ok (.getfield 7, 3) := by decide +kernel
theorem dX4_act_27 : decode cX4_act 27 = .ok (.iload_n 1, 1) := by decide +kernel
theorem dX4_act_28 : decode cX4_act 28 = .ok (.sipush 240, 3) := by decide +kernel
theorem dX4_act_31 : decode cX4_act 31 = .ok (.iadd, 1) := by decide +kernel
theorem dX4_act_32 : decode cX4_act 32 = .ok (.iaload, 1) := by decide +kernel
theorem dX4_act_33 : decode cX4_act 33 = .ok (.iastore, 1) := by decide +kernel
theorem dX4_act_34 : decode cX4_act 34 = .ok (.iinc 1 1, 3) := by decide +kernel
theorem dX4_act_37 : decode cX4_act 37 = .ok (.goto (-26), 3) := by decide +kernel
theorem dX4_act_40 : decode cX4_act 40 = .ok (.iconst 0, 1) := by decide +kernel
theorem dX4_act_41 : decode cX4_act 41 = .ok (.istore_n 1, 1) := by decide +kernel
theorem dX4_act_42 : decode cX4_act 42 = .ok (.iload_n 1, 1) := by decide +kernel
theorem dX4_act_43 : decode cX4_act 43 = .ok (.bipush 12, 2) := by decide +kernel
theorem dX4_act_45 : decode cX4_act 45 = .ok (.if_icmp .ge 23, 3) := by decide +kernel
theorem dX4_act_48 : decode cX4_act 48 = .ok (.aload_n 0, 1) := by decide +kernel
theorem dX4_act_49 : decode cX4_act 49 = .ok (.getfield 13, 3) := by decide +kernel
theorem dX4_act_52 : decode cX4_act 52 = .ok (.iload_n 1, 1) := by decide +kernel
theorem dX4_act_53 : decode cX4_act 53 = .ok (.aload_n 0, 1) := by decide +kernel
theorem dX4_act_54 : decode cX4_act 54 = .ok (.getfield 13, 3) := by decide +kernel
theorem dX4_act_57 : decode cX4_act 57 = .ok (.iload_n 1, 1) := by decide +kernel
theorem dX4_act_58 : decode cX4_act 58 = .ok (.iconst 1, 1) := by decide +kernel
theorem dX4_act_59 : decode cX4_act 59 = .ok (.iadd, 1) := by decide +kernel
theorem dX4_act_60 : decode cX4_act 60 = .ok (.iaload, 1) := by decide +kernel
theorem dX4_act_61 : decode cX4_act 61 = .ok (.iastore, 1) := by decide +kernel
theorem dX4_act_62 : decode cX4_act 62 = .ok (.iinc 1 1, 3) := by decide +kernel
theorem dX4_act_65 : decode cX4_act 65 = .ok (.goto (-23), 3) := by decide +kernel
theorem dX4_act_68 : decode cX4_act 68 = .ok (.aload_n 0, 1) := by decide +kernel
theorem dX4_act_69 : decode cX4_act 69 = .ok (.bipush 11, 2) := by decide +kernel
theorem dX4_act_71 : decode cX4_act 71 = .ok (.putfield 35, 3) := by decide +kernel
theorem dX4_act_74 : decode cX4_act 74 = .ok (.aload_n 0, 1) := by decide +kernel
theorem dX4_act_75 : decode cX4_act 75 = .ok (.dup, 1) := by decide +kernel
theorem dX4_act_76 : decode cX4_act 76 = .ok (.getfield 35, 3) := by decide +kernel
theorem dX4_act_79 : decode cX4_act 79 = .ok (.iconst 1, 1) := by decide +kernel
theorem dX4_act_80 : decode cX4_act 80 = .ok (.iadd, 1) := by decide +kernel
theorem dX4_act_81 : decode cX4_act 81 = .ok (.putfield 35, 3) := by decide +kernel
theorem dX4_act_84 : decode cX4_act 84 = .ok (.aload_n 0, 1) := by decide +kernel
theorem dX4_act_85 : decode cX4_act 85 = .ok (.iconst 0, 1) := by decide +kernel
theorem dX4_act_86 : decode cX4_act 86 = .ok (.putfield 45, 3) := by decide +kernel
theorem dX4_act_89 : decode cX4_act 89 = .ok (.aload_n 0, 1) := by decide +kernel
theorem dX4_act_90 : decode cX4_act 90 = .ok (.getfield 13, 3) := by decide +kernel
theorem dX4_act_93 : decode cX4_act 93 = .ok (.aload_n 0, 1) := by decide +kernel
theorem dX4_act_94 : decode cX4_act 94 = .ok (.getfield 35, 3) := by decide +kernel
theorem dX4_act_97 : decode cX4_act 97 = .ok (.aload_n 0, 1) := by decide +kernel
theorem dX4_act_98 : decode cX4_act 98 = .ok (.getfield 38, 3) := by decide +kernel
theorem dX4_act_101 : decode cX4_act 101 = .ok (.iastore, 1) := by decide +kernel
theorem dX4_act_102 : decode cX4_act 102 = .ok (.iconst 0, 1) := by decide +kernel
theorem dX4_act_103 : decode cX4_act 103 = .ok (.istore_n 1, 1) := by decide +kernel
theorem dX4_act_104 : decode cX4_act 104 = .ok (.iload_n 1, 1) := by decide +kernel
theorem dX4_act_105 : decode cX4_act 105 = .ok (.aload_n 0, 1) := by decide +kernel
theorem dX4_act_106 : decode cX4_act 106 = .ok (.getfield 38, 3) := by decide +kernel
theorem dX4_act_109 : decode cX4_act 109 = .ok (.if_icmp .ge 30, 3) := by decide +kernel
theorem dX4_act_112 : decode cX4_act 112 = .ok (.aload_n 0, 1) := by decide +kernel
theorem dX4_act_113 : decode cX4_act 113 = .ok (.getfield 7, 3) := by decide +kernel
theorem dX4_act_116 : decode cX4_act 116 = .ok (.sipush 240, 3) := by decide +kernel
theorem dX4_act_119 : decode cX4_act 119 = .ok (.aload_n 0, 1) := by decide +kernel
theorem dX4_act_120 : decode cX4_act 120 = .ok (.getfield 35, 3) := by decide +kernel
theorem dX4_act_123 : decode cX4_act 123 = .ok (.imul, 1) := by decide +kernel
theorem dX4_act_124 : decode cX4_act 124 = .ok (.iload_n 1, 1) := by decide +kernel
theorem dX4_act_125 : decode cX4_act 125 = .ok (.iadd, 1) := by decide +kernel
theorem dX4_act_126 : decode cX4_act 126 = .ok (.aload_n 0, 1) := by decide +kernel
theorem dX4_act_127 : decode cX4_act 127 = .ok (.getfield 16, 3) := by decide +kernel
theorem dX4_act_130 : decode cX4_act 130 = .ok (.iload_n 1, 1) := by decide +kernel
theorem dX4_act_131 : decode cX4_act 131 = .ok (.iaload, 1) := by decide +kernel
theorem dX4_act_132 : decode cX4_act 132 = .ok (.iastore, 1) := by decide +kernel
theorem dX4_act_133 : decode cX4_act 133 = .ok (.iinc 1 1, 3) := by decide +kernel
theorem dX4_act_136 : decode cX4_act 136 = .ok (.goto (-32), 3) := by decide +kernel
theorem dX4_act_139 : decode cX4_act 139 = .ok (.aload_n 0, 1) := by decide +kernel
theorem dX4_act_140 : decode cX4_act 140 = .ok (.getfield 38, 3) := by decide +kernel
theorem dX4_act_143 : decode cX4_act 143 = .ok (.ireturn, 1) := by decide +kernel
set_option maxRecDepth 20000 in
theorem ggX4_insert_X4_length : GoodIn wsX4_insert wsX4_length := goodIn_r _ [8, 9, 10, 33, 34, 35, 36, 37, 38, 39, 40, 41, 42, 43, 44, 45] (by decide +kernel) (by decide +kernel)
set_option maxRecDepth 20000 in
theorem gX4_insert_X4_length : GoodIn wsX4_insert (wsV RX4 48 RX4 yX4_length wsX4_length) := goodIn_app (goodIn_of _ (by decide +kernel)) ggX4_insert_X4_length
set_option maxRecDepth 20000 in
theorem ggX4_insert_X4_isIn : GoodIn wsX4_insert wsX4_isIn := goodIn_r _ [13] (by decide +kernel) (by decide +kernel)
set_option maxRecDepth 20000 in
theorem gX4_insert_X4_isIn : GoodIn wsX4_insert (va_wsS RX4 52 yX4_isIn wsX4_isIn) := goodIn_app (goodIn_of _ (by decide +kernel)) ggX4_insert_X4_isIn
set_option maxRecDepth 20000 in
theorem ggX4_insert_X4_draftFrom : GoodIn wsX4_insert wsX4_draftFrom := goodIn_r _ [17, 18, 3, 19, 20, 21, 7, 22, 23, 10, 33, 34, 35, 36, 37, 38, 39, 40, 41, 42, 43, 44, 45] (by decide +kernel) (by decide +kernel)
set_option maxRecDepth 20000 in
theorem gX4_insert_X4_draftFrom : GoodIn wsX4_insert (wsV RX4 58 RX4 yX4_draftFrom wsX4_draftFrom) := goodIn_app (goodIn_of _ (by decide +kernel)) ggX4_insert_X4_draftFrom
set_option maxRecDepth 20000 in
theorem ggX4_insert_X4_draftOne : GoodIn wsX4_insert wsX4_draftOne := goodIn_r _ [27, 18, 3, 33, 34, 35, 36, 37, 38, 39, 40, 41, 42, 43, 44, 45] (by decide +kernel) (by decide +kernel)
set_option maxRecDepth 20000 in
theorem gX4_insert_X4_draftOne : GoodIn wsX4_insert (wsV RX4 62 RX4 yX4_draftOne wsX4_draftOne) := goodIn_app (goodIn_of _ (by decide +kernel)) ggX4_insert_X4_draftOne
set_option maxRecDepth 20000 in
theorem ggX4_insert_X4_act : GoodIn wsX4_insert wsX4_act := goodIn_r _ [31, 10, 23, 9, 32, 3, 18, 33, 34, 35, 36, 37, 38, 39, 40, 41, 42, 43, 44, 45] (by decide +kernel) (by decide +kernel)
set_option maxRecDepth 20000 in
theorem gX4_insert_X4_act : GoodIn wsX4_insert (wsV RX4 66 RX4 yX4_act wsX4_act) := goodIn_app (goodIn_of _ (by decide +kernel)) ggX4_insert_X4_act
theorem dX4_insert_0 : decode cX4_insert 0 = .ok (.aload_n 0, 1) := by decide +kernel
theorem dX4_insert_1 : decode cX4_insert 1 = .ok (.iload_n 1, 1) := by decide +kernel
theorem dX4_insert_2 : decode cX4_insert 2 = .ok (.i2l, 1) := by decide +kernel
theorem dX4_insert_3 : decode cX4_insert 3 = .ok (.lconst 0, 1) := by decide +kernel
theorem dX4_insert_4 : decode cX4_insert 4 = .ok (.aload_n 0, 1) := by decide +kernel
theorem dX4_insert_5 : decode cX4_insert 5 = .ok (.invokevirtual 48, 3) := by decide +kernel
theorem dX4_insert_8 : decode cX4_insert 8 = .ok (.i2l, 1) := by decide +kernel
theorem dX4_insert_9 : decode cX4_insert 9 = .ok (.invokestatic 52, 3) := by decide +kernel
theorem dX4_insert_12 : decode cX4_insert 12 = .ok (.ifCond .ne 7, 3) := by decide +kernel
theorem dX4_insert_15 : decode cX4_insert 15 = .ok (.iconst 1, 1) := by decide +kernel
theorem dX4_insert_16 : decode cX4_insert 16 = .ok (.goto 34, 3) := by decide +kernel
theorem dX4_insert_19 : decode cX4_insert 19 = .ok (.iload_n 2, 1) := by decide +kernel
theorem dX4_insert_20 : decode cX4_insert 20 = .ok (.i2l, 1) := by decide +kernel
theorem dX4_insert_21 : decode cX4_insert 21 = .ok (.lconst 0, 1) := by decide +kernel
theorem dX4_insert_22 : decode cX4_insert 22 = .ok (.ldc2_w 56, 3) := by decide +kernel
theorem dX4_insert_25 : decode cX4_insert 25 = .ok (.invokestatic 52, 3) := by decide +kernel
theorem dX4_insert_28 : decode cX4_insert 28 = .ok (.ifCond .ne 7, 3) := by decide +kernel
theorem dX4_insert_31 : decode cX4_insert 31 = .ok (.iconst 2, 1) := by decide +kernel
theorem dX4_insert_32 : decode cX4_insert 32 = .ok (.goto 18, 3) := by decide +kernel
theorem dX4_insert_35 : decode cX4_insert 35 = .ok (.aload_n 0, 1) := by decide +kernel
theorem dX4_insert_36 : decode cX4_insert 36 = .ok (.invokevirtual 48, 3) := by decide +kernel
theorem dX4_insert_39 : decode cX4_insert 39 = .ok (.sipush 240, 3) := by decide +kernel
theorem dX4_insert_42 : decode cX4_insert 42 = .ok (.if_icmp .ne 7, 3) := by decide +kernel
theorem dX4_insert_45 : decode cX4_insert 45 = .ok (.iconst 3, 1) := by decide +kernel
theorem dX4_insert_46 : decode cX4_insert 46 = .ok (.goto 4, 3) := by decide +kernel
theorem dX4_insert_49 : decode cX4_insert 49 = .ok (.iconst 0, 1) := by decide +kernel
theorem dX4_insert_50 : decode cX4_insert 50 = .ok (.putfield 31, 3) := by decide +kernel
theorem dX4_insert_53 : decode cX4_insert 53 = .ok (.aload_n 0, 1) := by decide +kernel
theorem dX4_insert_54 : decode cX4_insert 54 = .ok (.getfield 31, 3) := by decide +kernel
theorem dX4_insert_57 : decode cX4_insert 57 = .ok (.ifCond .le 5, 3) := by decide +kernel
theorem dX4_insert_60 : decode cX4_insert 60 = .ok (.iconst 0, 1) := by decide +kernel
theorem dX4_insert_61 : decode cX4_insert 61 = .ok (.ireturn, 1) := by decide +kernel
theorem dX4_insert_62 : decode cX4_insert 62 = .ok (.aload_n 0, 1) := by decide +kernel
theorem dX4_insert_63 : decode cX4_insert 63 = .ok (.iconst 0, 1) := by decide +kernel
theorem dX4_insert_64 : decode cX4_insert 64 = .ok (.putfield 38, 3) := by decide +kernel
theorem dX4_insert_67 : decode cX4_insert 67 = .ok (.aload_n 0, 1) := by decide +kernel
theorem dX4_insert_68 : decode cX4_insert 68 = .ok (.iconst 0, 1) := by decide +kernel
theorem dX4_insert_69 : decode cX4_insert 69 = .ok (.iload_n 1, 1) := by decide +kernel
theorem dX4_insert_70 : decode cX4_insert 70 = .ok (.invokevirtual 58, 3) := by decide +kernel
theorem dX4_insert_73 : decode cX4_insert 73 = .ok (.aload_n 0, 1) := by decide +kernel
theorem dX4_insert_74 : decode cX4_insert 74 = .ok (.iload_n 2, 1) := by decide +kernel
theorem dX4_insert_75 : decode cX4_insert 75 = .ok (.invokevirtual 62, 3) := by decide +kernel
theorem dX4_insert_78 : decode cX4_insert 78 = .ok (.aload_n 0, 1) := by decide +kernel
theorem dX4_insert_79 : decode cX4_insert 79 = .ok (.iload_n 1, 1) := by decide +kernel
theorem dX4_insert_80 : decode cX4_insert 80 = .ok (.aload_n 0, 1) := by decide +kernel
theorem dX4_insert_81 : decode cX4_insert 81 = .ok (.invokevirtual 48, 3) := by decide +kernel
theorem dX4_insert_84 : decode cX4_insert 84 = .ok (.invokevirtual 58, 3) := by decide +kernel
theorem dX4_insert_87 : decode cX4_insert 87 = .ok (.aload_n 0, 1) := by decide +kernel
theorem dX4_insert_88 : decode cX4_insert 88 = .ok (.invokevirtual 66, 3) := by decide +kernel
theorem dX4_insert_91 : decode cX4_insert 91 = .ok (.ireturn, 1) := by decide +kernel
set_option maxRecDepth 20000 in
theorem ggX4_delete_X4_length : GoodIn wsX4_delete wsX4_length := goodIn_r _ [7, 8, 9, 28, 29, 30, 31, 32, 33, 34, 35, 36, 37, 38, 39, 40] (by decide +kernel) (by decide +kernel)
set_option maxRecDepth 20000 in
theorem gX4_delete_X4_length : GoodIn wsX4_delete (wsV RX4 48 RX4 yX4_length wsX4_length) := goodIn_app (goodIn_of _ (by decide +kernel)) ggX4_delete_X4_length
set_option maxRecDepth 20000 in
theorem ggX4_delete_X4_isIn : GoodIn wsX4_delete wsX4_isIn := goodIn_r _ [12] (by decide +kernel) (by decide +kernel)
set_option maxRecDepth 20000 in
theorem gX4_delete_X4_isIn : GoodIn wsX4_delete (va_wsS RX4 52 yX4_isIn wsX4_isIn) := goodIn_app (goodIn_of _ (by decide +kernel)) ggX4_delete_X4_isIn
set_option maxRecDepth 20000 in
theorem ggX4_delete_X4_draftFrom : GoodIn wsX4_delete wsX4_draftFrom := goodIn_r _ [16, 17, 2, 18, 19, 20, 6, 21, 22, 9, 28, 29, 30, 31, 32, 33, 34, 35, 36, 37, 38, 39, 40] (by decide +kernel) (by decide +kernel)
set_option maxRecDepth 20000 in
theorem gX4_delete_X4_draftFrom : GoodIn wsX4_delete (wsV RX4 58 RX4 yX4_draftFrom wsX4_draftFrom) := goodIn_app (goodIn_of _ (by decide +kernel)) ggX4_delete_X4_draftFrom
set_option maxRecDepth 20000 in
theorem ggX4_delete_X4_act : GoodIn wsX4_delete wsX4_act := goodIn_r _ [26, 9, 22, 8, 27, 2, 17, 28, 29, 30, 31, 32, 33, 34, 35, 36, 37, 38, 39, 40] (by decide +kernel) (by decide +kernel)
set_option maxRecDepth 20000 in
theorem gX4_delete_X4_act : GoodIn wsX4_delete (wsV RX4 66 RX4 yX4_act wsX4_act) := goodIn_app (goodIn_of _ (by decide +kernel)) ggX4_delete_X4_act
theorem dX4_delete_0 : decode cX4_delete 0 = .ok (.aload_n 0, 1) := by decide +kernel
theorem dX4_delete_1 : decode cX4_delete 1 = .ok (.iload_n 1, 1) := by decide +kernel
theorem dX4_delete_2 : decode cX4_delete 2 = .ok (.i2l, 1) := by decide +kernel
theorem dX4_delete_3 : decode cX4_delete 3 = .ok (.lconst 0, 1) := by decide +kernel
theorem dX4_delete_4 : decode cX4_delete 4 = .ok (.aload_n 0, 1) := by decide +kernel
theorem dX4_delete_5 : decode cX4_delete 5 = .ok (.invokevirtual 48, 3) := by decide +kernel
theorem dX4_delete_8 : decode cX4_delete 8 = .ok (.i2l, 1) := by decide +kernel
theorem dX4_delete_9 : decode cX4_delete 9 = .ok (.invokestatic 52, 3) := by decide +kernel
theorem dX4_delete_12 : decode cX4_delete 12 = .ok (.ifCond .ne 7, 3) := by decide +kernel
theorem dX4_delete_15 : decode cX4_delete 15 = .ok (.iconst 1, 1) := by decide +kernel
theorem dX4_delete_16 : decode cX4_delete 16 = .ok (.goto 26, 3) := by decide +kernel
theorem dX4_delete_19 : decode cX4_delete 19 = .ok (.iload_n 2, 1) := by decide +kernel
theorem dX4_delete_20 : decode cX4_delete 20 = .ok (.ifCond .lt 17, 3) := by decide +kernel
theorem dX4_delete_23 : decode cX4_delete 23 = .ok (.iload_n 1, 1) := by decide +kernel
theorem dX4_delete_24 : decode cX4_delete 24 = .ok (.i2l, 1) := by decide +kernel
theorem dX4_delete_25 : decode cX4_delete 25 = .ok (.iload_n 2, 1) := by decide +kernel
theorem dX4_delete_26 : decode cX4_delete 26 = .ok (.i2l, 1) := by decide +kernel
theorem dX4_delete_27 : decode cX4_delete 27 = .ok (.ladd, 1) := by decide +kernel
theorem dX4_delete_28 : decode cX4_delete 28 = .ok (.aload_n 0, 1) := by decide +kernel
theorem dX4_delete_29 : decode cX4_delete 29 = .ok (.invokevirtual 48, 3) := by decide +kernel
theorem dX4_delete_32 : decode cX4_delete 32 = .ok (.i2l, 1) := by decide +kernel
theorem dX4_delete_33 : decode cX4_delete 33 = .ok (.lcmp, 1) := by decide +kernel
theorem dX4_delete_34 : decode cX4_delete 34 = .ok (.ifCond .le 7, 3) := by decide +kernel
theorem dX4_delete_37 : decode cX4_delete 37 = .ok (.iconst 2, 1) := by decide +kernel
theorem dX4_delete_38 : decode cX4_delete 38 = .ok (.goto 4, 3) := by decide +kernel
theorem dX4_delete_41 : decode cX4_delete 41 = .ok (.iconst 0, 1) := by decide +kernel
theorem dX4_delete_42 : decode cX4_delete 42 = .ok (.putfield 31, 3) := by decide +kernel
theorem dX4_delete_45 : decode cX4_delete 45 = .ok (.aload_n 0, 1) := by decide +kernel
theorem dX4_delete_46 : decode cX4_delete 46 = .ok (.getfield 31, 3) := by decide +kernel
theorem dX4_delete_49 : decode cX4_delete 49 = .ok (.ifCond .le 5, 3) := by decide +kernel
theorem dX4_delete_52 : decode cX4_delete 52 = .ok (.iconst 0, 1) := by decide +kernel
theorem dX4_delete_53 : decode cX4_delete 53 = .ok (.ireturn, 1) := by decide +kernel
theorem dX4_delete_54 : decode cX4_delete 54 = .ok (.aload_n 0, 1) := by decide +kernel
theorem dX4_delete_55 : decode cX4_delete 55 = .ok (.iconst 0, 1) := by decide +kernel
theorem dX4_delete_56 : decode cX4_delete 56 = .ok (.putfield 38, 3) := by decide +kernel
theorem dX4_delete_59 : decode cX4_delete 59 = .ok (.aload_n 0, 1) := by decide +kernel
theorem dX4_delete_60 : decode cX4_delete 60 = .ok (.iconst 0, 1) := by decide +kernel
theorem dX4_delete_61 : decode cX4_delete 61 = .ok (.iload_n 1, 1) := by decide +kernel
theorem dX4_delete_62 : decode cX4_delete 62 = .ok (.invokevirtual 58, 3) := by decide +kernel
theorem dX4_delete_65 : decode cX4_delete 65 = .ok (.aload_n 0, 1) := by decide +kernel
theorem dX4_delete_66 : decode cX4_delete 66 = .ok (.iload_n 1, 1) := by decide +kernel
theorem dX4_delete_67 : decode cX4_delete 67 = .ok (.iload_n 2, 1) := by decide +kernel
theorem dX4_delete_68 : decode cX4_delete 68 = .ok (.iadd, 1) := by decide +kernel
theorem dX4_delete_69 : decode cX4_delete 69 = .ok (.aload_n 0, 1) := by decide +kernel
theorem dX4_delete_70 : decode cX4_delete 70 = .ok (.invokevirtual 48, 3) := by decide +kernel
theorem dX4_delete_73 : decode cX4_delete 73 = .ok (.invokevirtual 58, 3) := by decide +kernel
theorem dX4_delete_76 : decode cX4_delete 76 = .ok (.aload_n 0, 1) := by decide +kernel
theorem dX4_delete_77 : decode cX4_delete 77 = .ok (.invokevirtual 66, 3) := by decide +kernel
theorem dX4_delete_80 : decode cX4_delete 80 = .ok (.ireturn, 1) := by decide +kernel
set_option maxRecDepth 20000 in
theorem ggX4_copy_X4_length : GoodIn wsX4_copy wsX4_length := goodIn_r _ [7, 8, 9, 28, 29, 30, 31, 32, 33, 34, 35, 36, 37, 38, 39, 40] (by decide +kernel) (by decide +kernel)
set_option maxRecDepth 20000 in
theorem gX4_copy_X4_length : GoodIn wsX4_copy (wsV RX4 48 RX4 yX4_length wsX4_length) := goodIn_app (goodIn_of _ (by decide +kernel)) ggX4_copy_X4_length
set_option maxRecDepth 20000 in
theorem ggX4_copy_X4_isIn : GoodIn wsX4_copy wsX4_isIn := goodIn_r _ [12] (by decide +kernel) (by decide +kernel)
set_option maxRecDepth 20000 in
theorem gX4_copy_X4_isIn : GoodIn wsX4_copy (va_wsS RX4 52 yX4_isIn wsX4_isIn) := goodIn_app (goodIn_of _ (by decide +kernel)) ggX4_copy_X4_isIn
set_option maxRecDepth 20000 in
theorem ggX4_copy_X4_draftFrom : GoodIn wsX4_copy wsX4_draftFrom := goodIn_r _ [16, 17, 2, 18, 19, 20, 6, 21, 22, 9, 28, 29, 30, 31, 32, 33, 34, 35, 36, 37, 38, 39, 40] (by decide +kernel) (by decide +kernel)
set_option maxRecDepth 20000 in
theorem gX4_copy_X4_draftFrom : GoodIn wsX4_copy (wsV RX4 58 RX4 yX4_draftFrom wsX4_draftFrom) := goodIn_app (goodIn_of _ (by decide +kernel)) ggX4_copy_X4_draftFrom
set_option maxRecDepth 20000 in
theorem ggX4_copy_X4_act : GoodIn wsX4_copy wsX4_act := goodIn_r _ [26, 9, 22, 8, 27, 2, 17, 28, 29, 30, 31, 32, 33, 34, 35, 36, 37, 38, 39, 40] (by decide +kernel) (by decide +kernel)
set_option maxRecDepth 20000 in
theorem gX4_copy_X4_act : GoodIn wsX4_copy (wsV RX4 66 RX4 yX4_act wsX4_act) := goodIn_app (goodIn_of _ (by decide +kernel)) ggX4_copy_X4_act
theorem dX4_copy_0 : decode cX4_copy 0 = .ok (.iload_n 1, 1) := by decide +kernel
theorem dX4_copy_1 : decode cX4_copy 1 = .ok (.i2l, 1) := by decide +kernel
theorem dX4_copy_2 : decode cX4_copy 2 = .ok (.lconst 0, 1) := by decide +kernel
theorem dX4_copy_3 : decode cX4_copy 3 = .ok (.aload_n 0, 1) := by decide +kernel
theorem dX4_copy_4 : decode cX4_copy 4 = .ok (.invokevirtual 48, 3) := by decide +kernel
theorem dX4_copy_7 : decode cX4_copy 7 = .ok (.i2l, 1) := by decide +kernel
theorem dX4_copy_8 : decode cX4_copy 8 = .ok (.invokestatic 52, 3) := by decide +kernel
theorem dX4_copy_11 : decode cX4_copy 11 = .ok (.ifCond .eq 21, 3) := by decide +kernel
theorem dX4_copy_14 : decode cX4_copy 14 = .ok (.iload_n 3, 1) := by decide +kernel
theorem dX4_copy_15 : decode cX4_copy 15 = .ok (.i2l, 1) := by decide +kernel
theorem dX4_copy_16 : decode cX4_copy 16 = .ok (.lconst 0, 1) := by decide +kernel
theorem dX4_copy_17 : decode cX4_copy 17 = .ok (.aload_n 0, 1) := by decide +kernel
theorem dX4_copy_18 : decode cX4_copy 18 = .ok (.invokevirtual 48, 3) := by decide +kernel
theorem dX4_copy_21 : decode cX4_copy 21 = .ok (.i2l, 1) := by decide +kernel
theorem dX4_copy_22 : decode cX4_copy 22 = .ok (.invokestatic 52, 3) := by decide +kernel
theorem dX4_copy_25 : decode cX4_copy 25 = .ok (.ifCond .eq 7, 3) := by decide +kernel
theorem dX4_copy_28 : decode cX4_copy 28 = .ok (.iconst 1, 1) := by decide +kernel
theorem dX4_copy_29 : decode cX4_copy 29 = .ok (.goto 4, 3) := by decide +kernel
theorem dX4_copy_32 : decode cX4_copy 32 = .ok (.iconst 0, 1) := by decide +kernel
theorem dX4_copy_33 : decode cX4_copy 33 = .ok (.istore 4, 2) := by decide +kernel
theorem dX4_copy_35 : decode cX4_copy 35 = .ok (.aload_n 0, 1) := by decide +kernel
theorem dX4_copy_36 : decode cX4_copy 36 = .ok (.iload 4, 2) := by decide +kernel
theorem dX4_copy_38 : decode cX4_copy 38 = .ok (.ifCond .ne 7, 3) := by decide +kernel
theorem dX4_copy_41 : decode cX4_copy 41 = .ok (.iconst 1, 1) := by decide +kernel
theorem dX4_copy_42 : decode cX4_copy 42 = .ok (.goto 42, 3) := by decide +kernel
theorem dX4_copy_45 : decode cX4_copy 45 = .ok (.iload_n 2, 1) := by decide +kernel
theorem dX4_copy_46 : decode cX4_copy 46 = .ok (.ifCond .lt 17, 3) := by decide +kernel
theorem dX4_copy_49 : decode cX4_copy 49 = .ok (.iload_n 1, 1) := by decide +kernel
theorem dX4_copy_50 : decode cX4_copy 50 = .ok (.i2l, 1) := by decide +kernel
theorem dX4_copy_51 : decode cX4_copy 51 = .ok (.iload_n 2, 1) := by decide +kernel
theorem dX4_copy_52 : decode cX4_copy 52 = .ok (.i2l, 1) := by decide +kernel
theorem dX4_copy_53 : decode cX4_copy 53 = .ok (.ladd, 1) := by decide +kernel
theorem dX4_copy_54 : decode cX4_copy 54 = .ok (.aload_n 0, 1) := by decide +kernel
theorem dX4_copy_55 : decode cX4_copy 55 = .ok (.invokevirtual 48, 3) := by decide +kernel
theorem dX4_copy_58 : decode cX4_copy 58 = .ok (.i2l, 1) := by decide +kernel
theorem dX4_copy_59 : decode cX4_copy 59 = .ok (.lcmp, 1) := by decide +kernel
theorem dX4_copy_60 : decode cX4_copy 60 = .ok (.ifCond .le 7, 3) := by decide +kernel
theorem dX4_copy_63 : decode cX4_copy 63 = .ok (.iconst 2, 1) := by decide +kernel
theorem dX4_copy_64 : decode cX4_copy 64 = .ok (.goto 20, 3) := by decide +kernel
theorem dX4_copy_67 : decode cX4_copy 67 = .ok (.aload_n 0, 1) := by decide +kernel
theorem dX4_copy_68 : decode cX4_copy 68 = .ok (.invokevirtual 48, 3) := by decide +kernel
theorem dX4_copy_71 : decode cX4_copy 71 = .ok (.iload_n 2, 1) := by decide +kernel
theorem dX4_copy_72 : decode cX4_copy 72 = .ok (.iadd, 1) := by decide +kernel
theorem dX4_copy_73 : decode cX4_copy 73 = .ok (.sipush 240, 3) := by decide +kernel
theorem dX4_copy_76 : decode cX4_copy 76 = .ok (.if_icmp .le 7, 3) := by decide +kernel
theorem dX4_copy_79 : decode cX4_copy 79 = .ok (.iconst 3, 1) := by decide +kernel
theorem dX4_copy_80 : decode cX4_copy 80 = .ok (.goto 4, 3) := by decide +kernel
theorem dX4_copy_83 : decode cX4_copy 83 = .ok (.iconst 0, 1) := by decide +kernel
theorem dX4_copy_84 : decode cX4_copy 84 = .ok (.putfield 31, 3) := by decide +kernel
theorem dX4_copy_87 : decode cX4_copy 87 = .ok (.aload_n 0, 1) := by decide +kernel
theorem dX4_copy_88 : decode cX4_copy 88 = .ok (.getfield 31, 3) := by decide +kernel
theorem dX4_copy_91 : decode cX4_copy 91 = .ok (.ifCond .le 5, 3) := by decide +kernel
theorem dX4_copy_94 : decode cX4_copy 94 = .ok (.iconst 0, 1) := by decide +kernel
theorem dX4_copy_95 : decode cX4_copy 95 = .ok (.ireturn, 1) := by decide +kernel
theorem dX4_copy_96 : decode cX4_copy 96 = .ok (.aload_n 0, 1) := by decide +kernel
theorem dX4_copy_97 : decode cX4_copy 97 = .ok (.iconst 0, 1) := by decide +kernel
theorem dX4_copy_98 : decode cX4_copy 98 = .ok (.putfield 38, 3) := by decide +kernel
theorem dX4_copy_101 : decode cX4_copy 101 = .ok (.aload_n 0, 1) := by decide +kernel
theorem dX4_copy_102 : decode cX4_copy 102 = .ok (.iconst 0, 1) := by decide +kernel
theorem dX4_copy_103 : decode cX4_copy 103 = .ok (.iload_n 3, 1) := by decide +kernel
theorem dX4_copy_104 : decode cX4_copy 104 = .ok (.invokevirtual 58, 3) := by decide +kernel
theorem dX4_copy_107 : decode cX4_copy 107 = .ok (.aload_n 0, 1) := by decide +kernel
theorem dX4_copy_108 : decode cX4_copy 108 = .ok (.iload_n 1, 1) := by decide +kernel
theorem dX4_copy_109 : decode cX4_copy 109 = .ok (.iload_n 1, 1) := by decide +kernel
theorem dX4_copy_110 : decode cX4_copy 110 = .ok (.iload_n 2, 1) := by decide +kernel
theorem dX4_copy_111 : decode cX4_copy 111 = .ok (.iadd, 1) := by decide +kernel
theorem dX4_copy_112 : decode cX4_copy 112 = .ok (.invokevirtual 58, 3) := by decide +kernel
theorem dX4_copy_115 : decode cX4_copy 115 = .ok (.aload_n 0, 1) := by decide +kernel
theorem dX4_copy_116 : decode cX4_copy 116 = .ok (.iload_n 3, 1) := by decide +kernel
theorem dX4_copy_117 : decode cX4_copy 117 = .ok (.aload_n 0, 1) := by decide +kernel
theorem dX4_copy_118 : decode cX4_copy 118 = .ok (.invokevirtual 48, 3) := by decide +kernel
theorem dX4_copy_121 : decode cX4_copy 121 = .ok (.invokevirtual 58, 3) := by decide +kernel
theorem dX4_copy_124 : decode cX4_copy 124 = .ok (.aload_n 0, 1) := by decide +kernel
theorem dX4_copy_125 : decode cX4_copy 125 = .ok (.invokevirtual 66, 3) := by decide +kernel
theorem dX4_copy_128 : decode cX4_copy 128 = .ok (.ireturn, 1) := by decide +kernel
set_option maxRecDepth 20000 in
theorem ggX4_at_X4_length : GoodIn wsX4_at wsX4_length := goodIn_r _ [6, 7, 8, 17, 18, 19, 20, 21, 22, 23, 24, 25, 26, 27, 28, 29] (by decide +kernel) (by decide +kernel)
set_option maxRecDepth 20000 in
theorem gX4_at_X4_length : GoodIn wsX4_at (wsV RX4 48 RX4 yX4_length wsX4_length) := goodIn_app (goodIn_of _ (by decide +kernel)) ggX4_at_X4_length
set_option maxRecDepth 20000 in
theorem ggX4_at_X4_isIn : GoodIn wsX4_at wsX4_isIn := goodIn_r _ [11] (by decide +kernel) (by decide +kernel)
set_option maxRecDepth 20000 in
theorem gX4_at_X4_isIn : GoodIn wsX4_at (va_wsS RX4 52 yX4_isIn wsX4_isIn) := goodIn_app (goodIn_of _ (by decide +kernel)) ggX4_at_X4_isIn
set_option maxRecDepth 20000 in
theorem ggX4_at_X4_charAt : GoodIn wsX4_at wsX4_charAt := goodIn_r _ [15, 16, 8, 17, 18, 19, 20, 21, 22, 23, 24, 25, 26, 27, 28, 29] (by decide +kernel) (by decide +kernel)
set_option maxRecDepth 20000 in
theorem gX4_at_X4_charAt : GoodIn wsX4_at (wsV RX4 41 RX4 yX4_charAt wsX4_charAt) := goodIn_app (goodIn_of _ (by decide +kernel)) ggX4_at_X4_charAt
theorem dX4_at_0 : decode cX4_at 0 = .ok (.aload_n 0, 1) := by decide +kernel
theorem dX4_at_1 : decode cX4_at 1 = .ok (.iload_n 1, 1) := by decide +kernel
theorem dX4_at_2 : decode cX4_at 2 = .ok (.i2l, 1) := by decide +kernel
theorem dX4_at_3 : decode cX4_at 3 = .ok (.lconst 0, 1) := by decide +kernel
theorem dX4_at_4 : decode cX4_at 4 = .ok (.aload_n 0, 1) := by decide +kernel
theorem dX4_at_5 : decode cX4_at 5 = .ok (.invokevirtual 48, 3) := by decide +kernel
theorem dX4_at_8 : decode cX4_at 8 = .ok (.iconst 1, 1) := by decide +kernel
theorem dX4_at_9 : decode cX4_at 9 = .ok (.isub, 1) := by decide +kernel
theorem dX4_at_10 : decode cX4_at 10 = .ok (.i2l, 1) := by decide +kernel
theorem dX4_at_11 : decode cX4_at 11 = .ok (.invokestatic 52, 3) := by decide +kernel
theorem dX4_at_14 : decode cX4_at 14 = .ok (.ifCond .eq 7, 3) := by decide +kernel
theorem dX4_at_17 : decode cX4_at 17 = .ok (.iconst 0, 1) := by decide +kernel
theorem dX4_at_18 : decode cX4_at 18 = .ok (.goto 4, 3) := by decide +kernel
theorem dX4_at_21 : decode cX4_at 21 = .ok (.iconst 1, 1) := by decide +kernel
theorem dX4_at_22 : decode cX4_at 22 = .ok (.putfield 31, 3) := by decide +kernel
theorem dX4_at_25 : decode cX4_at 25 = .ok (.aload_n 0, 1) := by decide +kernel
theorem dX4_at_26 : decode cX4_at 26 = .ok (.getfield 31, 3) := by decide +kernel
theorem dX4_at_29 : decode cX4_at 29 = .ok (.ifCond .le 7, 3) := by decide +kernel
theorem dX4_at_32 : decode cX4_at 32 = .ok (.iconst 0, 1) := by decide +kernel
theorem dX4_at_33 : decode cX4_at 33 = .ok (.goto 8, 3) := by decide +kernel
theorem dX4_at_36 : decode cX4_at 36 = .ok (.aload_n 0, 1) := by decide +kernel
theorem dX4_at_37 : decode cX4_at 37 = .ok (.iload_n 1, 1) := by decide +kernel
theorem dX4_at_38 : decode cX4_at 38 = .ok (.invokevirtual 41, 3) := by decide +kernel
theorem dX4_at_41 : decode cX4_at 41 = .ok (.ireturn, 1) := by decide +kernel
set_option maxRecDepth 20000 in
theorem ggX4_undo_X4_length : GoodIn wsX4_undo wsX4_length := goodIn_r _ [8, 9, 1, 10, 11, 12, 13, 14, 15, 16, 17, 18, 19, 20, 21, 22] (by decide +kernel) (by decide +kernel)
set_option maxRecDepth 20000 in
theorem gX4_undo_X4_length : GoodIn wsX4_undo (wsV RX4 48 RX4 yX4_length wsX4_length) := goodIn_app (goodIn_of _ (by decide +kernel)) ggX4_undo_X4_length
theorem dX4_undo_0 : decode cX4_undo 0 = .ok (.aload_n 0, 1) := by decide +kernel
theorem dX4_undo_1 : decode cX4_undo 1 = .ok (.aload_n 0, 1) := by decide +kernel
theorem dX4_undo_2 : decode cX4_undo 2 = .ok (.getfield 35, 3) := by decide +kernel
theorem dX4_undo_5 : decode cX4_undo 5 = .ok (.ifCond .ne 7, 3) := by decide +kernel
theorem dX4_undo_8 : decode cX4_undo 8 = .ok (.iconst 1, 1) := by decide +kernel
theorem dX4_undo_9 : decode cX4_undo 9 = .ok (.goto 4, 3) := by decide +kernel
theorem dX4_undo_12 : decode cX4_undo 12 = .ok (.iconst 0, 1) := by decide +kernel
theorem dX4_undo_13 : decode cX4_undo 13 = .ok (.putfield 31, 3) := by decide +kernel
theorem dX4_undo_16 : decode cX4_undo 16 = .ok (.aload_n 0, 1) := by decide +kernel
theorem dX4_undo_17 : decode cX4_undo 17 = .ok (.getfield 31, 3) := by decide +kernel
theorem dX4_undo_20 : decode cX4_undo 20 = .ok (.ifCond .le 5, 3) := by decide +kernel
theorem dX4_undo_23 : decode cX4_undo 23 = .ok (.iconst 0, 1) := by decide +kernel
theorem dX4_undo_24 : decode cX4_undo 24 = .ok (.ireturn, 1) := by decide +kernel
theorem dX4_undo_25 : decode cX4_undo 25 = .ok (.aload_n 0, 1) := by decide +kernel
theorem dX4_undo_26 : decode cX4_undo 26 = .ok (.dup, 1) := by decide +kernel
theorem dX4_undo_27 : decode cX4_undo 27 = .ok (.getfield 35, 3) := by decide +kernel
theorem dX4_undo_30 : decode cX4_undo 30 = .ok (.iconst 1, 1) := by decide +kernel
theorem dX4_undo_31 : decode cX4_undo 31 = .ok (.isub, 1) := by decide +kernel
theorem dX4_undo_32 : decode cX4_undo 32 = .ok (.putfield 35, 3) := by decide +kernel
theorem dX4_undo_35 : decode cX4_undo 35 = .ok (.aload_n 0, 1) := by decide +kernel
theorem dX4_undo_36 : decode cX4_undo 36 = .ok (.dup, 1) := by decide +kernel
theorem dX4_undo_37 : decode cX4_undo 37 = .ok (.getfield 45, 3) := by decide +kernel
theorem dX4_undo_40 : decode cX4_undo 40 = .ok (.iconst 1, 1) := by decide +kernel
theorem dX4_undo_41 : decode cX4_undo 41 = .ok (.iadd, 1) := by decide +kernel
theorem dX4_undo_42 : decode cX4_undo 42 = .ok (.putfield 45, 3) := by decide +kernel
theorem dX4_undo_45 : decode cX4_undo 45 = .ok (.aload_n 0, 1) := by decide +kernel
theorem dX4_undo_46 : decode cX4_undo 46 = .ok (.invokevirtual 48, 3) := by decide +kernel
theorem dX4_undo_49 : decode cX4_undo 49 = .ok (.ireturn, 1) := by decide +kernel
set_option maxRecDepth 20000 in
theorem ggX4_redo_X4_length : GoodIn wsX4_redo wsX4_length := goodIn_r _ [8, 9, 3, 10, 11, 12, 13, 14, 15, 16, 17, 18, 19, 20, 21, 22] (by decide +kernel) (by decide +kernel)
set_option maxRecDepth 20000 in
theorem gX4_redo_X4_length : GoodIn wsX4_redo (wsV RX4 48 RX4 yX4_length wsX4_length) := goodIn_app (goodIn_of _ (by decide +kernel)) ggX4_redo_X4_length
theorem dX4_redo_0 : decode cX4_redo 0 = .ok (.aload_n 0, 1) := by decide +kernel
theorem dX4_redo_1 : decode cX4_redo 1 = .ok (.aload_n 0, 1) := by decide +kernel
theorem dX4_redo_2 : decode cX4_redo 2 = .ok (.getfield 45, 3) := by decide +kernel
theorem dX4_redo_5 : decode cX4_redo 5 = .ok (.ifCond .ne 7, 3) := by decide +kernel
theorem dX4_redo_8 : decode cX4_redo 8 = .ok (.iconst 1, 1) := by decide +kernel
theorem dX4_redo_9 : decode cX4_redo 9 = .ok (.goto 4, 3) := by decide +kernel
theorem dX4_redo_12 : decode cX4_redo 12 = .ok (.iconst 0, 1) := by decide +kernel
theorem dX4_redo_13 : decode cX4_redo 13 = .ok (.putfield 31, 3) := by decide +kernel
theorem dX4_redo_16 : decode cX4_redo 16 = .ok (.aload_n 0, 1) := by decide +kernel
theorem dX4_redo_17 : decode cX4_redo 17 = .ok (.getfield 31, 3) := by decide +kernel
theorem dX4_redo_20 : decode cX4_redo 20 = .ok (.ifCond .le 5, 3) := by decide +kernel
theorem dX4_redo_23 : decode cX4_redo 23 = .ok (.iconst 0, 1) := by decide +kernel
theorem dX4_redo_24 : decode cX4_redo 24 = .ok (.ireturn, 1) := by decide +kernel
theorem dX4_redo_25 : decode cX4_redo 25 = .ok (.aload_n 0, 1) := by decide +kernel
theorem dX4_redo_26 : decode cX4_redo 26 = .ok (.dup, 1) := by decide +kernel
theorem dX4_redo_27 : decode cX4_redo 27 = .ok (.getfield 35, 3) := by decide +kernel
theorem dX4_redo_30 : decode cX4_redo 30 = .ok (.iconst 1, 1) := by decide +kernel
theorem dX4_redo_31 : decode cX4_redo 31 = .ok (.iadd, 1) := by decide +kernel
theorem dX4_redo_32 : decode cX4_redo 32 = .ok (.putfield 35, 3) := by decide +kernel
theorem dX4_redo_35 : decode cX4_redo 35 = .ok (.aload_n 0, 1) := by decide +kernel
theorem dX4_redo_36 : decode cX4_redo 36 = .ok (.dup, 1) := by decide +kernel
theorem dX4_redo_37 : decode cX4_redo 37 = .ok (.getfield 45, 3) := by decide +kernel
theorem dX4_redo_40 : decode cX4_redo 40 = .ok (.iconst 1, 1) := by decide +kernel
theorem dX4_redo_41 : decode cX4_redo 41 = .ok (.isub, 1) := by decide +kernel
theorem dX4_redo_42 : decode cX4_redo 42 = .ok (.putfield 45, 3) := by decide +kernel
theorem dX4_redo_45 : decode cX4_redo 45 = .ok (.aload_n 0, 1) := by decide +kernel
theorem dX4_redo_46 : decode cX4_redo 46 = .ok (.invokevirtual 48, 3) := by decide +kernel
theorem dX4_redo_49 : decode cX4_redo 49 = .ok (.ireturn, 1) := by decide +kernel
set_option maxRecDepth 20000 in
theorem ggX4_pattern_X4_isIn : GoodIn wsX4_pattern wsX4_isIn := goodIn_r _ [8] (by decide +kernel) (by decide +kernel)
set_option maxRecDepth 20000 in
theorem gX4_pattern_X4_isIn : GoodIn wsX4_pattern (va_wsS RX4 52 yX4_isIn wsX4_isIn) := goodIn_app (goodIn_of _ (by decide +kernel)) ggX4_pattern_X4_isIn
theorem dX4_pattern_0 : decode cX4_pattern 0 = .ok (.aload_n 0, 1) := by decide +kernel
theorem dX4_pattern_1 : decode cX4_pattern 1 = .ok (.iload_n 1, 1) := by decide +kernel
theorem dX4_pattern_2 : decode cX4_pattern 2 = .ok (.i2l, 1) := by decide +kernel
theorem dX4_pattern_3 : decode cX4_pattern 3 = .ok (.lconst 0, 1) := by decide +kernel
theorem dX4_pattern_4 : decode cX4_pattern 4 = .ok (.ldc2_w 56, 3) := by decide +kernel
theorem dX4_pattern_7 : decode cX4_pattern 7 = .ok (.invokestatic 52, 3) := by decide +kernel
theorem dX4_pattern_10 : decode cX4_pattern 10 = .ok (.ifCond .ne 7, 3) := by decide +kernel
theorem dX4_pattern_13 : decode cX4_pattern 13 = .ok (.iconst 1, 1) := by decide +kernel
theorem dX4_pattern_14 : decode cX4_pattern 14 = .ok (.goto 17, 3) := by decide +kernel
theorem dX4_pattern_17 : decode cX4_pattern 17 = .ok (.aload_n 0, 1) := by decide +kernel
theorem dX4_pattern_18 : decode cX4_pattern 18 = .ok (.getfield 69, 3) := by decide +kernel
theorem dX4_pattern_21 : decode cX4_pattern 21 = .ok (.bipush 16, 2) := by decide +kernel
theorem dX4_pattern_23 : decode cX4_pattern 23 = .ok (.if_icmp .ne 7, 3) := by decide +kernel
theorem dX4_pattern_26 : decode cX4_pattern 26 = .ok (.iconst 2, 1) := by decide +kernel
theorem dX4_pattern_27 : decode cX4_pattern 27 = .ok (.goto 4, 3) := by decide +kernel
theorem dX4_pattern_30 : decode cX4_pattern 30 = .ok (.iconst 0, 1) := by decide +kernel
theorem dX4_pattern_31 : decode cX4_pattern 31 = .ok (.putfield 31, 3) := by decide +kernel
theorem dX4_pattern_34 : decode cX4_pattern 34 = .ok (.aload_n 0, 1) := by decide +kernel
theorem dX4_pattern_35 : decode cX4_pattern 35 = .ok (.getfield 31, 3) := by decide +kernel
theorem dX4_pattern_38 : decode cX4_pattern 38 = .ok (.ifCond .le 5, 3) := by decide +kernel
theorem dX4_pattern_41 : decode cX4_pattern 41 = .ok (.iconst 0, 1) := by decide +kernel
theorem dX4_pattern_42 : decode cX4_pattern 42 = .ok (.ireturn, 1) := by decide +kernel
theorem dX4_pattern_43 : decode cX4_pattern 43 = .ok (.aload_n 0, 1) := by decide +kernel
theorem dX4_pattern_44 : decode cX4_pattern 44 = .ok (.getfield 19, 3) := by decide +kernel
theorem dX4_pattern_47 : decode cX4_pattern 47 = .ok (.aload_n 0, 1) := by decide +kernel
theorem dX4_pattern_48 : decode cX4_pattern 48 = .ok (.getfield 69, 3) := by decide +kernel
theorem dX4_pattern_51 : decode cX4_pattern 51 = .ok (.iload_n 1, 1) := by decide +kernel
theorem dX4_pattern_52 : decode cX4_pattern 52 = .ok (.iastore, 1) := by decide +kernel
theorem dX4_pattern_53 : decode cX4_pattern 53 = .ok (.aload_n 0, 1) := by decide +kernel
theorem dX4_pattern_54 : decode cX4_pattern 54 = .ok (.dup, 1) := by decide +kernel
theorem dX4_pattern_55 : decode cX4_pattern 55 = .ok (.getfield 69, 3) := by decide +kernel
theorem dX4_pattern_58 : decode cX4_pattern 58 = .ok (.iconst 1, 1) := by decide +kernel
theorem dX4_pattern_59 : decode cX4_pattern 59 = .ok (.iadd, 1) := by decide +kernel
theorem dX4_pattern_60 : decode cX4_pattern 60 = .ok (.putfield 69, 3) := by decide +kernel
theorem dX4_pattern_63 : decode cX4_pattern 63 = .ok (.aload_n 0, 1) := by decide +kernel
theorem dX4_pattern_64 : decode cX4_pattern 64 = .ok (.getfield 69, 3) := by decide +kernel
theorem dX4_pattern_67 : decode cX4_pattern 67 = .ok (.ireturn, 1) := by decide +kernel
theorem dX4_noPattern_0 : decode cX4_noPattern 0 = .ok (.aload_n 0, 1) := by decide +kernel
theorem dX4_noPattern_1 : decode cX4_noPattern 1 = .ok (.iconst 0, 1) := by decide +kernel
theorem dX4_noPattern_2 : decode cX4_noPattern 2 = .ok (.putfield 31, 3) := by decide +kernel
theorem dX4_noPattern_5 : decode cX4_noPattern 5 = .ok (.aload_n 0, 1) := by decide +kernel
theorem dX4_noPattern_6 : decode cX4_noPattern 6 = .ok (.getfield 69, 3) := by decide +kernel
theorem dX4_noPattern_9 : decode cX4_noPattern 9 = .ok (.istore_n 1, 1) := by decide +kernel
theorem dX4_noPattern_10 : decode cX4_noPattern 10 = .ok (.aload_n 0, 1) := by decide +kernel
theorem dX4_noPattern_11 : decode cX4_noPattern 11 = .ok (.iconst 0, 1) := by decide +kernel
theorem dX4_noPattern_12 : decode cX4_noPattern 12 = .ok (.putfield 69, 3) := by decide +kernel
theorem dX4_noPattern_15 : decode cX4_noPattern 15 = .ok (.iload_n 1, 1) := by decide +kernel
theorem dX4_noPattern_16 : decode cX4_noPattern 16 = .ok (.ireturn, 1) := by decide +kernel
set_option maxRecDepth 20000 in
theorem ggX4_occurs_X4_length : GoodIn wsX4_occurs wsX4_length := goodIn_r _ [7, 8, 9, 15, 16, 17, 18, 19, 20, 21, 22, 23, 24, 25, 26, 27] (by decide +kernel) (by decide +kernel)
set_option maxRecDepth 20000 in
theorem gX4_occurs_X4_length : GoodIn wsX4_occurs (wsV RX4 48 RX4 yX4_length wsX4_length) := goodIn_app (goodIn_of _ (by decide +kernel)) ggX4_occurs_X4_length
set_option maxRecDepth 20000 in
theorem ggX4_occurs_X4_charAt : GoodIn wsX4_occurs wsX4_charAt := goodIn_r _ [13, 14, 9, 15, 16, 17, 18, 19, 20, 21, 22, 23, 24, 25, 26, 27] (by decide +kernel) (by decide +kernel)
set_option maxRecDepth 20000 in
theorem gX4_occurs_X4_charAt : GoodIn wsX4_occurs (wsV RX4 41 RX4 yX4_charAt wsX4_charAt) := goodIn_app (goodIn_of _ (by decide +kernel)) ggX4_occurs_X4_charAt
theorem dX4_occurs_0 : decode cX4_occurs 0 = .ok (.iload_n 1, 1) := by decide +kernel
theorem dX4_occurs_1 : decode cX4_occurs 1 = .ok (.aload_n 0, 1) := by decide +kernel
theorem dX4_occurs_2 : decode cX4_occurs 2 = .ok (.getfield 69, 3) := by decide +kernel
theorem dX4_occurs_5 : decode cX4_occurs 5 = .ok (.iadd, 1) := by decide +kernel
theorem dX4_occurs_6 : decode cX4_occurs 6 = .ok (.aload_n 0, 1) := by decide +kernel
theorem dX4_occurs_7 : decode cX4_occurs 7 = .ok (.invokevirtual 48, 3) := by decide +kernel
theorem dX4_occurs_10 : decode cX4_occurs 10 = .ok (.if_icmp .gt 7, 3) := by decide +kernel
theorem dX4_occurs_13 : decode cX4_occurs 13 = .ok (.iconst 1, 1) := by decide +kernel
theorem dX4_occurs_14 : decode cX4_occurs 14 = .ok (.goto 4, 3) := by decide +kernel
theorem dX4_occurs_17 : decode cX4_occurs 17 = .ok (.iconst 0, 1) := by decide +kernel
theorem dX4_occurs_18 : decode cX4_occurs 18 = .ok (.istore_n 2, 1) := by decide +kernel
theorem dX4_occurs_19 : decode cX4_occurs 19 = .ok (.iconst 0, 1) := by decide +kernel
theorem dX4_occurs_20 : decode cX4_occurs 20 = .ok (.istore_n 3, 1) := by decide +kernel
theorem dX4_occurs_21 : decode cX4_occurs 21 = .ok (.iload_n 3, 1) := by decide +kernel
theorem dX4_occurs_22 : decode cX4_occurs 22 = .ok (.aload_n 0, 1) := by decide +kernel
theorem dX4_occurs_23 : decode cX4_occurs 23 = .ok (.getfield 69, 3) := by decide +kernel
theorem dX4_occurs_26 : decode cX4_occurs 26 = .ok (.if_icmp .ge 35, 3) := by decide +kernel
theorem dX4_occurs_29 : decode cX4_occurs 29 = .ok (.iload_n 2, 1) := by decide +kernel
theorem dX4_occurs_30 : decode cX4_occurs 30 = .ok (.ifCond .eq 31, 3) := by decide +kernel
theorem dX4_occurs_33 : decode cX4_occurs 33 = .ok (.aload_n 0, 1) := by decide +kernel
theorem dX4_occurs_34 : decode cX4_occurs 34 = .ok (.iload_n 1, 1) := by decide +kernel
theorem dX4_occurs_35 : decode cX4_occurs 35 = .ok (.iload_n 3, 1) := by decide +kernel
theorem dX4_occurs_36 : decode cX4_occurs 36 = .ok (.iadd, 1) := by decide +kernel
theorem dX4_occurs_37 : decode cX4_occurs 37 = .ok (.invokevirtual 41, 3) := by decide +kernel
theorem dX4_occurs_40 : decode cX4_occurs 40 = .ok (.aload_n 0, 1) := by decide +kernel
theorem dX4_occurs_41 : decode cX4_occurs 41 = .ok (.getfield 19, 3) := by decide +kernel
theorem dX4_occurs_44 : decode cX4_occurs 44 = .ok (.iload_n 3, 1) := by decide +kernel
theorem dX4_occurs_45 : decode cX4_occurs 45 = .ok (.iaload, 1) := by decide +kernel
theorem dX4_occurs_46 : decode cX4_occurs 46 = .ok (.if_icmp .ne 7, 3) := by decide +kernel
theorem dX4_occurs_49 : decode cX4_occurs 49 = .ok (.iconst 1, 1) := by decide +kernel
theorem dX4_occurs_50 : decode cX4_occurs 50 = .ok (.goto 4, 3) := by decide +kernel
theorem dX4_occurs_53 : decode cX4_occurs 53 = .ok (.iconst 0, 1) := by decide +kernel
theorem dX4_occurs_54 : decode cX4_occurs 54 = .ok (.istore_n 2, 1) := by decide +kernel
theorem dX4_occurs_55 : decode cX4_occurs 55 = .ok (.iinc 3 1, 3) := by decide +kernel
theorem dX4_occurs_58 : decode cX4_occurs 58 = .ok (.goto (-37), 3) := by decide +kernel
theorem dX4_occurs_61 : decode cX4_occurs 61 = .ok (.iload_n 2, 1) := by decide +kernel
theorem dX4_occurs_62 : decode cX4_occurs 62 = .ok (.ireturn, 1) := by decide +kernel
set_option maxRecDepth 20000 in
theorem ggX4_find_X4_length : GoodIn wsX4_find wsX4_length := goodIn_r _ [6, 7, 8, 23, 24, 25, 26, 27, 28, 29, 30, 31, 32, 33, 34, 35] (by decide +kernel) (by decide +kernel)
set_option maxRecDepth 20000 in
theorem gX4_find_X4_length : GoodIn wsX4_find (wsV RX4 48 RX4 yX4_length wsX4_length) := goodIn_app (goodIn_of _ (by decide +kernel)) ggX4_find_X4_length
set_option maxRecDepth 20000 in
theorem ggX4_find_X4_isIn : GoodIn wsX4_find wsX4_isIn := goodIn_r _ [11] (by decide +kernel) (by decide +kernel)
set_option maxRecDepth 20000 in
theorem gX4_find_X4_isIn : GoodIn wsX4_find (va_wsS RX4 52 yX4_isIn wsX4_isIn) := goodIn_app (goodIn_of _ (by decide +kernel)) ggX4_find_X4_isIn
set_option maxRecDepth 20000 in
theorem ggX4_find_X4_occurs : GoodIn wsX4_find wsX4_occurs := goodIn_r _ [15, 16, 17, 2, 3, 4, 5, 6, 7, 8, 18, 19, 20, 21, 22, 23, 24, 25, 26, 27, 28, 29, 30, 31, 32, 33, 34, 35] (by decide +kernel) (by decide +kernel)
set_option maxRecDepth 20000 in
theorem gX4_find_X4_occurs : GoodIn wsX4_find (wsV RX4 72 RX4 yX4_occurs wsX4_occurs) := goodIn_app (goodIn_of _ (by decide +kernel)) ggX4_find_X4_occurs
theorem dX4_find_0 : decode cX4_find 0 = .ok (.aload_n 0, 1) := by decide +kernel
theorem dX4_find_1 : decode cX4_find 1 = .ok (.iload_n 1, 1) := by decide +kernel
theorem dX4_find_2 : decode cX4_find 2 = .ok (.i2l, 1) := by decide +kernel
theorem dX4_find_3 : decode cX4_find 3 = .ok (.lconst 0, 1) := by decide +kernel
theorem dX4_find_4 : decode cX4_find 4 = .ok (.aload_n 0, 1) := by decide +kernel
theorem dX4_find_5 : decode cX4_find 5 = .ok (.invokevirtual 48, 3) := by decide +kernel
theorem dX4_find_8 : decode cX4_find 8 = .ok (.i2l, 1) := by decide +kernel
theorem dX4_find_9 : decode cX4_find 9 = .ok (.invokestatic 52, 3) := by decide +kernel
theorem dX4_find_12 : decode cX4_find 12 = .ok (.ifCond .eq 7, 3) := by decide +kernel
theorem dX4_find_15 : decode cX4_find 15 = .ok (.iconst 0, 1) := by decide +kernel
theorem dX4_find_16 : decode cX4_find 16 = .ok (.goto 4, 3) := by decide +kernel
theorem dX4_find_19 : decode cX4_find 19 = .ok (.iconst 1, 1) := by decide +kernel
theorem dX4_find_20 : decode cX4_find 20 = .ok (.putfield 31, 3) := by decide +kernel
theorem dX4_find_23 : decode cX4_find 23 = .ok (.iload_n 1, 1) := by decide +kernel
theorem dX4_find_24 : decode cX4_find 24 = .ok (.istore_n 2, 1) := by decide +kernel
theorem dX4_find_25 : decode cX4_find 25 = .ok (.aload_n 0, 1) := by decide +kernel
theorem dX4_find_26 : decode cX4_find 26 = .ok (.getfield 31, 3) := by decide +kernel
theorem dX4_find_29 : decode cX4_find 29 = .ok (.ifCond .ne 27, 3) := by decide +kernel
theorem dX4_find_32 : decode cX4_find 32 = .ok (.iload_n 2, 1) := by decide +kernel
theorem dX4_find_33 : decode cX4_find 33 = .ok (.aload_n 0, 1) := by decide +kernel
theorem dX4_find_34 : decode cX4_find 34 = .ok (.invokevirtual 48, 3) := by decide +kernel
theorem dX4_find_37 : decode cX4_find 37 = .ok (.if_icmp .gt 19, 3) := by decide +kernel
theorem dX4_find_40 : decode cX4_find 40 = .ok (.aload_n 0, 1) := by decide +kernel
theorem dX4_find_41 : decode cX4_find 41 = .ok (.iload_n 2, 1) := by decide +kernel
theorem dX4_find_42 : decode cX4_find 42 = .ok (.invokevirtual 72, 3) := by decide +kernel
theorem dX4_find_45 : decode cX4_find 45 = .ok (.ifCond .eq 5, 3) := by decide +kernel
theorem dX4_find_48 : decode cX4_find 48 = .ok (.iload_n 2, 1) := by decide +kernel
theorem dX4_find_49 : decode cX4_find 49 = .ok (.ireturn, 1) := by decide +kernel
theorem dX4_find_50 : decode cX4_find 50 = .ok (.iinc 2 1, 3) := by decide +kernel
theorem dX4_find_53 : decode cX4_find 53 = .ok (.goto (-28), 3) := by decide +kernel
theorem dX4_find_56 : decode cX4_find 56 = .ok (.aload_n 0, 1) := by decide +kernel
theorem dX4_find_57 : decode cX4_find 57 = .ok (.getfield 31, 3) := by decide +kernel
theorem dX4_find_60 : decode cX4_find 60 = .ok (.ifCond .le 7, 3) := by decide +kernel
theorem dX4_find_63 : decode cX4_find 63 = .ok (.iconst 0, 1) := by decide +kernel
theorem dX4_find_64 : decode cX4_find 64 = .ok (.goto 4, 3) := by decide +kernel
theorem dX4_find_67 : decode cX4_find 67 = .ok (.iconst (-1), 1) := by decide +kernel
theorem dX4_find_68 : decode cX4_find 68 = .ok (.ireturn, 1) := by decide +kernel
set_option maxRecDepth 20000 in
theorem ggX4_replace_X4_isIn : GoodIn wsX4_replace wsX4_isIn := goodIn_r _ [8] (by decide +kernel) (by decide +kernel)
set_option maxRecDepth 20000 in
theorem gX4_replace_X4_isIn : GoodIn wsX4_replace (va_wsS RX4 52 yX4_isIn wsX4_isIn) := goodIn_app (goodIn_of _ (by decide +kernel)) ggX4_replace_X4_isIn
set_option maxRecDepth 20000 in
theorem ggX4_replace_X4_length : GoodIn wsX4_replace wsX4_length := goodIn_r _ [12, 13, 14, 35, 36, 37, 38, 39, 40, 41, 42, 43, 44, 45, 46, 47] (by decide +kernel) (by decide +kernel)
set_option maxRecDepth 20000 in
theorem gX4_replace_X4_length : GoodIn wsX4_replace (wsV RX4 48 RX4 yX4_length wsX4_length) := goodIn_app (goodIn_of _ (by decide +kernel)) ggX4_replace_X4_length
set_option maxRecDepth 20000 in
theorem ggX4_replace_X4_occurs : GoodIn wsX4_replace wsX4_occurs := goodIn_r _ [18, 2, 19, 9, 10, 11, 7, 12, 13, 14, 20, 21, 22, 23, 24, 35, 36, 37, 38, 39, 40, 41, 42, 43, 44, 45, 46, 47] (by decide +kernel) (by decide +kernel)
set_option maxRecDepth 20000 in
theorem gX4_replace_X4_occurs : GoodIn wsX4_replace (wsV RX4 72 RX4 yX4_occurs wsX4_occurs) := goodIn_app (goodIn_of _ (by decide +kernel)) ggX4_replace_X4_occurs
set_option maxRecDepth 20000 in
theorem ggX4_replace_X4_charAt : GoodIn wsX4_replace wsX4_charAt := goodIn_r _ [23, 24, 14, 35, 36, 37, 38, 39, 40, 41, 42, 43, 44, 45, 46, 47] (by decide +kernel) (by decide +kernel)
set_option maxRecDepth 20000 in
theorem gX4_replace_X4_charAt : GoodIn wsX4_replace (wsV RX4 41 RX4 yX4_charAt wsX4_charAt) := goodIn_app (goodIn_of _ (by decide +kernel)) ggX4_replace_X4_charAt
set_option maxRecDepth 20000 in
theorem ggX4_replace_X4_draftOne : GoodIn wsX4_replace wsX4_draftOne := goodIn_r _ [28, 29, 4, 35, 36, 37, 38, 39, 40, 41, 42, 43, 44, 45, 46, 47] (by decide +kernel) (by decide +kernel)
set_option maxRecDepth 20000 in
theorem gX4_replace_X4_draftOne : GoodIn wsX4_replace (wsV RX4 62 RX4 yX4_draftOne wsX4_draftOne) := goodIn_app (goodIn_of _ (by decide +kernel)) ggX4_replace_X4_draftOne
set_option maxRecDepth 20000 in
theorem ggX4_replace_X4_act : GoodIn wsX4_replace wsX4_act := goodIn_r _ [33, 14, 24, 13, 34, 4, 29, 35, 36, 37, 38, 39, 40, 41, 42, 43, 44, 45, 46, 47] (by decide +kernel) (by decide +kernel)
set_option maxRecDepth 20000 in
theorem gX4_replace_X4_act : GoodIn wsX4_replace (wsV RX4 66 RX4 yX4_act wsX4_act) := goodIn_app (goodIn_of _ (by decide +kernel)) ggX4_replace_X4_act
theorem dX4_replace_0 : decode cX4_replace 0 = .ok (.aload_n 0, 1) := by decide +kernel
theorem dX4_replace_1 : decode cX4_replace 1 = .ok (.iload_n 1, 1) := by decide +kernel
theorem dX4_replace_2 : decode cX4_replace 2 = .ok (.i2l, 1) := by decide +kernel
theorem dX4_replace_3 : decode cX4_replace 3 = .ok (.lconst 0, 1) := by decide +kernel
theorem dX4_replace_4 : decode cX4_replace 4 = .ok (.ldc2_w 56, 3) := by decide +kernel
theorem dX4_replace_7 : decode cX4_replace 7 = .ok (.invokestatic 52, 3) := by decide +kernel
theorem dX4_replace_10 : decode cX4_replace 10 = .ok (.ifCond .ne 7, 3) := by decide +kernel
theorem dX4_replace_13 : decode cX4_replace 13 = .ok (.iconst 1, 1) := by decide +kernel
theorem dX4_replace_14 : decode cX4_replace 14 = .ok (.goto 15, 3) := by decide +kernel
theorem dX4_replace_17 : decode cX4_replace 17 = .ok (.aload_n 0, 1) := by decide +kernel
theorem dX4_replace_18 : decode cX4_replace 18 = .ok (.getfield 69, 3) := by decide +kernel
theorem dX4_replace_21 : decode cX4_replace 21 = .ok (.ifCond .ne 7, 3) := by decide +kernel
theorem dX4_replace_24 : decode cX4_replace 24 = .ok (.iconst 2, 1) := by decide +kernel
theorem dX4_replace_25 : decode cX4_replace 25 = .ok (.goto 4, 3) := by decide +kernel
theorem dX4_replace_28 : decode cX4_replace 28 = .ok (.iconst 0, 1) := by decide +kernel
theorem dX4_replace_29 : decode cX4_replace 29 = .ok (.putfield 31, 3) := by decide +kernel
theorem dX4_replace_32 : decode cX4_replace 32 = .ok (.aload_n 0, 1) := by decide +kernel
theorem dX4_replace_33 : decode cX4_replace 33 = .ok (.getfield 31, 3) := by decide +kernel
theorem dX4_replace_36 : decode cX4_replace 36 = .ok (.ifCond .le 5, 3) := by decide +kernel
theorem dX4_replace_39 : decode cX4_replace 39 = .ok (.iconst 0, 1) := by decide +kernel
theorem dX4_replace_40 : decode cX4_replace 40 = .ok (.ireturn, 1) := by decide +kernel
theorem dX4_replace_41 : decode cX4_replace 41 = .ok (.aload_n 0, 1) := by decide +kernel
theorem dX4_replace_42 : decode cX4_replace 42 = .ok (.iconst 0, 1) := by decide +kernel
theorem dX4_replace_43 : decode cX4_replace 43 = .ok (.putfield 38, 3) := by decide +kernel
theorem dX4_replace_46 : decode cX4_replace 46 = .ok (.iconst 0, 1) := by decide +kernel
theorem dX4_replace_47 : decode cX4_replace 47 = .ok (.istore_n 2, 1) := by decide +kernel
theorem dX4_replace_48 : decode cX4_replace 48 = .ok (.iconst 0, 1) := by decide +kernel
theorem dX4_replace_49 : decode cX4_replace 49 = .ok (.istore_n 3, 1) := by decide +kernel
theorem dX4_replace_50 : decode cX4_replace 50 = .ok (.iload_n 3, 1) := by decide +kernel
theorem dX4_replace_51 : decode cX4_replace 51 = .ok (.aload_n 0, 1) := by decide +kernel
theorem dX4_replace_52 : decode cX4_replace 52 = .ok (.invokevirtual 48, 3) := by decide +kernel
theorem dX4_replace_55 : decode cX4_replace 55 = .ok (.if_icmp .ge 62, 3) := by decide +kernel
theorem dX4_replace_58 : decode cX4_replace 58 = .ok (.aload_n 0, 1) := by decide +kernel
theorem dX4_replace_59 : decode cX4_replace 59 = .ok (.iload_n 3, 1) := by decide +kernel
theorem dX4_replace_60 : decode cX4_replace 60 = .ok (.invokevirtual 72, 3) := by decide +kernel
theorem dX4_replace_63 : decode cX4_replace 63 = .ok (.istore 4, 2) := by decide +kernel
theorem dX4_replace_65 : decode cX4_replace 65 = .ok (.aload_n 0, 1) := by decide +kernel
theorem dX4_replace_66 : decode cX4_replace 66 = .ok (.iload 4, 2) := by decide +kernel
theorem dX4_replace_68 : decode cX4_replace 68 = .ok (.ifCond .eq 7, 3) := by decide +kernel
theorem dX4_replace_71 : decode cX4_replace 71 = .ok (.iload_n 1, 1) := by decide +kernel
theorem dX4_replace_72 : decode cX4_replace 72 = .ok (.goto 8, 3) := by decide +kernel
theorem dX4_replace_75 : decode cX4_replace 75 = .ok (.aload_n 0, 1) := by decide +kernel
theorem dX4_replace_76 : decode cX4_replace 76 = .ok (.iload_n 3, 1) := by decide +kernel
theorem dX4_replace_77 : decode cX4_replace 77 = .ok (.invokevirtual 41, 3) := by decide +kernel
theorem dX4_replace_80 : decode cX4_replace 80 = .ok (.invokevirtual 62, 3) := by decide +kernel
theorem dX4_replace_83 : decode cX4_replace 83 = .ok (.iload 4, 2) := by decide +kernel
theorem dX4_replace_85 : decode cX4_replace 85 = .ok (.ifCond .eq 9, 3) := by decide +kernel
theorem dX4_replace_88 : decode cX4_replace 88 = .ok (.iload_n 2, 1) := by decide +kernel
theorem dX4_replace_89 : decode cX4_replace 89 = .ok (.iconst 1, 1) := by decide +kernel
theorem dX4_replace_90 : decode cX4_replace 90 = .ok (.iadd, 1) := by decide +kernel
theorem dX4_replace_91 : decode cX4_replace 91 = .ok (.goto 4, 3) := by decide +kernel
theorem dX4_replace_94 : decode cX4_replace 94 = .ok (.iload_n 2, 1) := by decide +kernel
theorem dX4_replace_95 : decode cX4_replace 95 = .ok (.istore_n 2, 1) := by decide +kernel
theorem dX4_replace_96 : decode cX4_replace 96 = .ok (.iload 4, 2) := by decide +kernel
theorem dX4_replace_98 : decode cX4_replace 98 = .ok (.ifCond .eq 12, 3) := by decide +kernel
theorem dX4_replace_101 : decode cX4_replace 101 = .ok (.iload_n 3, 1) := by decide +kernel
theorem dX4_replace_102 : decode cX4_replace 102 = .ok (.aload_n 0, 1) := by decide +kernel
theorem dX4_replace_103 : decode cX4_replace 103 = .ok (.getfield 69, 3) := by decide +kernel
theorem dX4_replace_106 : decode cX4_replace 106 = .ok (.iadd, 1) := by decide +kernel
theorem dX4_replace_107 : decode cX4_replace 107 = .ok (.goto 6, 3) := by decide +kernel
theorem dX4_replace_110 : decode cX4_replace 110 = .ok (.iload_n 3, 1) := by decide +kernel
theorem dX4_replace_111 : decode cX4_replace 111 = .ok (.iconst 1, 1) := by decide +kernel
theorem dX4_replace_112 : decode cX4_replace 112 = .ok (.iadd, 1) := by decide +kernel
theorem dX4_replace_113 : decode cX4_replace 113 = .ok (.istore_n 3, 1) := by decide +kernel
theorem dX4_replace_114 : decode cX4_replace 114 = .ok (.goto (-64), 3) := by decide +kernel
theorem dX4_replace_117 : decode cX4_replace 117 = .ok (.aload_n 0, 1) := by decide +kernel
theorem dX4_replace_118 : decode cX4_replace 118 = .ok (.invokevirtual 66, 3) := by decide +kernel
theorem dX4_replace_121 : decode cX4_replace 121 = .ok (.istore 4, 2) := by decide +kernel
theorem dX4_replace_123 : decode cX4_replace 123 = .ok (.iload_n 2, 1) := by decide +kernel
theorem dX4_replace_124 : decode cX4_replace 124 = .ok (.ireturn, 1) := by decide +kernel
set_option maxRecDepth 20000 in
theorem ggX4_snapshot_X4_length : GoodIn wsX4_snapshot wsX4_length := goodIn_r _ [10, 11, 12, 18, 19, 20, 21, 22, 23, 24, 25, 26, 27, 28, 29, 30] (by decide +kernel) (by decide +kernel)
set_option maxRecDepth 20000 in
theorem gX4_snapshot_X4_length : GoodIn wsX4_snapshot (wsV RX4 48 RX4 yX4_length wsX4_length) := goodIn_app (goodIn_of _ (by decide +kernel)) ggX4_snapshot_X4_length
set_option maxRecDepth 20000 in
theorem ggX4_snapshot_X4_charAt : GoodIn wsX4_snapshot wsX4_charAt := goodIn_r _ [16, 17, 12, 18, 19, 20, 21, 22, 23, 24, 25, 26, 27, 28, 29, 30] (by decide +kernel) (by decide +kernel)
set_option maxRecDepth 20000 in
theorem gX4_snapshot_X4_charAt : GoodIn wsX4_snapshot (wsV RX4 41 RX4 yX4_charAt wsX4_charAt) := goodIn_app (goodIn_of _ (by decide +kernel)) ggX4_snapshot_X4_charAt
theorem dX4_snapshot_0 : decode cX4_snapshot 0 = .ok (.aload_n 0, 1) := by decide +kernel
theorem dX4_snapshot_1 : decode cX4_snapshot 1 = .ok (.iconst 0, 1) := by decide +kernel
theorem dX4_snapshot_2 : decode cX4_snapshot 2 = .ok (.putfield 31, 3) := by decide +kernel
theorem dX4_snapshot_5 : decode cX4_snapshot 5 = .ok (.aload_n 0, 1) := by decide +kernel
theorem dX4_snapshot_6 : decode cX4_snapshot 6 = .ok (.iconst 0, 1) := by decide +kernel
theorem dX4_snapshot_7 : decode cX4_snapshot 7 = .ok (.putfield 76, 3) := by decide +kernel
theorem dX4_snapshot_10 : decode cX4_snapshot 10 = .ok (.iconst 0, 1) := by decide +kernel
theorem dX4_snapshot_11 : decode cX4_snapshot 11 = .ok (.istore_n 1, 1) := by decide +kernel
theorem dX4_snapshot_12 : decode cX4_snapshot 12 = .ok (.iload_n 1, 1) := by decide +kernel
theorem dX4_snapshot_13 : decode cX4_snapshot 13 = .ok (.aload_n 0, 1) := by decide +kernel
theorem dX4_snapshot_14 : decode cX4_snapshot 14 = .ok (.invokevirtual 48, 3) := by decide +kernel
theorem dX4_snapshot_17 : decode cX4_snapshot 17 = .ok (.if_icmp .ge 252, 3) := by decide +kernel
theorem dX4_snapshot_20 : decode cX4_snapshot 20 = .ok (.iconst 0, 1) := by decide +kernel
theorem dX4_snapshot_21 : decode cX4_snapshot 21 = .ok (.istore_n 2, 1) := by decide +kernel
theorem dX4_snapshot_22 : decode cX4_snapshot 22 = .ok (.iconst 0, 1) := by decide +kernel
theorem dX4_snapshot_23 : decode cX4_snapshot 23 = .ok (.istore_n 3, 1) := by decide +kernel
theorem dX4_snapshot_24 : decode cX4_snapshot 24 = .ok (.iconst 1, 1) := by decide +kernel
theorem dX4_snapshot_25 : decode cX4_snapshot 25 = .ok (.istore 4, 2) := by decide +kernel
theorem dX4_snapshot_27 : decode cX4_snapshot 27 = .ok (.iload 4, 2) := by decide +kernel
theorem dX4_snapshot_29 : decode cX4_snapshot 29 = .ok (.aload_n 0, 1) := by decide +kernel
theorem dX4_snapshot_30 : decode cX4_snapshot 30 = .ok (.getfield 76, 3) := by decide +kernel
theorem dX4_snapshot_33 : decode cX4_snapshot 33 = .ok (.if_icmp .gt 130, 3) := by decide +kernel
theorem dX4_snapshot_36 : decode cX4_snapshot 36 = .ok (.iload_n 1, 1) := by decide +kernel
theorem dX4_snapshot_37 : decode cX4_snapshot 37 = .ok (.aload_n 0, 1) := by decide +kernel
theorem dX4_snapshot_38 : decode cX4_snapshot 38 = .ok (.getfield 28, 3) := by decide +kernel
theorem dX4_snapshot_41 : decode cX4_snapshot 41 = .ok (.iload 4, 2) := by decide +kernel
theorem dX4_snapshot_43 : decode cX4_snapshot 43 = .ok (.iaload, 1) := by decide +kernel
theorem dX4_snapshot_44 : decode cX4_snapshot 44 = .ok (.iadd, 1) := by decide +kernel
theorem dX4_snapshot_45 : decode cX4_snapshot 45 = .ok (.aload_n 0, 1) := by decide +kernel
theorem dX4_snapshot_46 : decode cX4_snapshot 46 = .ok (.invokevirtual 48, 3) := by decide +kernel
theorem dX4_snapshot_49 : decode cX4_snapshot 49 = .ok (.if_icmp .gt 18, 3) := by decide +kernel
theorem dX4_snapshot_52 : decode cX4_snapshot 52 = .ok (.aload_n 0, 1) := by decide +kernel
theorem dX4_snapshot_53 : decode cX4_snapshot 53 = .ok (.getfield 28, 3) := by decide +kernel
theorem dX4_snapshot_56 : decode cX4_snapshot 56 = .ok (.iload 4, 2) := by decide +kernel
theorem dX4_snapshot_58 : decode cX4_snapshot 58 = .ok (.iaload, 1) := by decide +kernel
theorem dX4_snapshot_59 : decode cX4_snapshot 59 = .ok (.iload_n 3, 1) := by decide +kernel
theorem dX4_snapshot_60 : decode cX4_snapshot 60 = .ok (.if_icmp .le 7, 3) := by decide +kernel
theorem dX4_snapshot_63 : decode cX4_snapshot 63 = .ok (.iconst 1, 1) := by decide +kernel
theorem dX4_snapshot_64 : decode cX4_snapshot 64 = .ok (.goto 4, 3) := by decide +kernel
theorem dX4_snapshot_67 : decode cX4_snapshot 67 = .ok (.iconst 0, 1) := by decide +kernel
theorem dX4_snapshot_68 : decode cX4_snapshot 68 = .ok (.istore 5, 2) := by decide +kernel
theorem dX4_snapshot_70 : decode cX4_snapshot 70 = .ok (.iconst 0, 1) := by decide +kernel
theorem dX4_snapshot_71 : decode cX4_snapshot 71 = .ok (.istore 6, 2) := by decide +kernel
theorem dX4_snapshot_73 : decode cX4_snapshot 73 = .ok (.iload 6, 2) := by decide +kernel
theorem dX4_snapshot_75 : decode cX4_snapshot 75 = .ok (.aload_n 0, 1) := by decide +kernel
theorem dX4_snapshot_76 : decode cX4_snapshot 76 = .ok (.getfield 28, 3) := by decide +kernel
theorem dX4_snapshot_79 : decode cX4_snapshot 79 = .ok (.iload 4, 2) := by decide +kernel
theorem dX4_snapshot_81 : decode cX4_snapshot 81 = .ok (.iaload, 1) := by decide +kernel
theorem dX4_snapshot_82 : decode cX4_snapshot 82 = .ok (.if_icmp .ge 46, 3) := by decide +kernel
theorem dX4_snapshot_85 : decode cX4_snapshot 85 = .ok (.iload 5, 2) := by decide +kernel
theorem dX4_snapshot_87 : decode cX4_snapshot 87 = .ok (.ifCond .eq 41, 3) := by decide +kernel
theorem dX4_snapshot_90 : decode cX4_snapshot 90 = .ok (.aload_n 0, 1) := by decide +kernel
theorem dX4_snapshot_91 : decode cX4_snapshot 91 = .ok (.aload_n 0, 1) := by decide +kernel
theorem dX4_snapshot_92 : decode cX4_snapshot 92 = .ok (.getfield 25, 3) := by decide +kernel
theorem dX4_snapshot_95 : decode cX4_snapshot 95 = .ok (.iload 4, 2) := by decide +kernel
theorem dX4_snapshot_97 : decode cX4_snapshot 97 = .ok (.iaload, 1) := by decide +kernel
theorem dX4_snapshot_98 : decode cX4_snapshot 98 = .ok (.iload 6, 2) := by decide +kernel
theorem dX4_snapshot_100 : decode cX4_snapshot 100 = .ok (.iadd, 1) := by decide +kernel
theorem dX4_snapshot_101 : decode cX4_snapshot 101 = .ok (.invokevirtual 41, 3) := by decide +kernel
theorem dX4_snapshot_104 : decode cX4_snapshot 104 = .ok (.aload_n 0, 1) := by decide +kernel
theorem dX4_snapshot_105 : decode cX4_snapshot 105 = .ok (.iload_n 1, 1) := by decide +kernel
theorem dX4_snapshot_106 : decode cX4_snapshot 106 = .ok (.iload 6, 2) := by decide +kernel
theorem dX4_snapshot_108 : decode cX4_snapshot 108 = .ok (.iadd, 1) := by decide +kernel
theorem dX4_snapshot_109 : decode cX4_snapshot 109 = .ok (.invokevirtual 41, 3) := by decide +kernel
theorem dX4_snapshot_112 : decode cX4_snapshot 112 = .ok (.if_icmp .ne 7, 3) := by decide +kernel
theorem dX4_snapshot_115 : decode cX4_snapshot 115 = .ok (.iconst 1, 1) := by decide +kernel
theorem dX4_snapshot_116 : decode cX4_snapshot 116 = .ok (.goto 4, 3) := by decide +kernel
theorem dX4_snapshot_119 : decode cX4_snapshot 119 = .ok (.iconst 0, 1) := by decide +kernel
theorem dX4_snapshot_120 : decode cX4_snapshot 120 = .ok (.istore 5, 2) := by decide +kernel
theorem dX4_snapshot_122 : decode cX4_snapshot 122 = .ok (.iinc 6 1, 3) := by decide +kernel
theorem dX4_snapshot_125 : decode cX4_snapshot 125 = .ok (.goto (-52), 3) := by decide +kernel
theorem dX4_snapshot_128 : decode cX4_snapshot 128 = .ok (.iload 5, 2) := by decide +kernel
theorem dX4_snapshot_130 : decode cX4_snapshot 130 = .ok (.ifCond .eq 8, 3) := by decide +kernel
theorem dX4_snapshot_133 : decode cX4_snapshot 133 = .ok (.iload 4, 2) := by decide +kernel
theorem dX4_snapshot_135 : decode cX4_snapshot 135 = .ok (.goto 4, 3) := by decide +kernel
theorem dX4_snapshot_138 : decode cX4_snapshot 138 = .ok (.iload_n 2, 1) := by decide +kernel
theorem dX4_snapshot_139 : decode cX4_snapshot 139 = .ok (.istore_n 2, 1) := by decide +kernel
theorem dX4_snapshot_140 : decode cX4_snapshot 140 = .ok (.iload 5, 2) := by decide +kernel
theorem dX4_snapshot_142 : decode cX4_snapshot 142 = .ok (.ifCond .eq 13, 3) := by decide +kernel
theorem dX4_snapshot_145 : decode cX4_snapshot 145 = .ok (.aload_n 0, 1) := by decide +kernel
theorem dX4_snapshot_146 : decode cX4_snapshot 146 = .ok (.getfield 28, 3) := by decide +kernel
theorem dX4_snapshot_149 : decode cX4_snapshot 149 = .ok (.iload 4, 2) := by decide +kernel
theorem dX4_snapshot_151 : decode cX4_snapshot 151 = .ok (.iaload, 1) := by decide +kernel
theorem dX4_snapshot_152 : decode cX4_snapshot 152 = .ok (.goto 4, 3) := by decide +kernel
theorem dX4_snapshot_155 : decode cX4_snapshot 155 = .ok (.iload_n 3, 1) := by decide +kernel
theorem dX4_snapshot_156 : decode cX4_snapshot 156 = .ok (.istore_n 3, 1) := by decide +kernel
theorem dX4_snapshot_157 : decode cX4_snapshot 157 = .ok (.iinc 4 1, 3) := by decide +kernel
theorem dX4_snapshot_160 : decode cX4_snapshot 160 = .ok (.goto (-133), 3) := by decide +kernel
theorem dX4_snapshot_163 : decode cX4_snapshot 163 = .ok (.iload_n 1, 1) := by decide +kernel
theorem dX4_snapshot_164 : decode cX4_snapshot 164 = .ok (.iload_n 3, 1) := by decide +kernel
theorem dX4_snapshot_165 : decode cX4_snapshot 165 = .ok (.iadd, 1) := by decide +kernel
theorem dX4_snapshot_166 : decode cX4_snapshot 166 = .ok (.aload_n 0, 1) := by decide +kernel
theorem dX4_snapshot_167 : decode cX4_snapshot 167 = .ok (.invokevirtual 48, 3) := by decide +kernel
theorem dX4_snapshot_170 : decode cX4_snapshot 170 = .ok (.if_icmp .ne 7, 3) := by decide +kernel
theorem dX4_snapshot_173 : decode cX4_snapshot 173 = .ok (.iconst 1, 1) := by decide +kernel
theorem dX4_snapshot_174 : decode cX4_snapshot 174 = .ok (.goto 4, 3) := by decide +kernel
theorem dX4_snapshot_177 : decode cX4_snapshot 177 = .ok (.iconst 0, 1) := by decide +kernel
theorem dX4_snapshot_178 : decode cX4_snapshot 178 = .ok (.istore 4, 2) := by decide +kernel
theorem dX4_snapshot_180 : decode cX4_snapshot 180 = .ok (.aload_n 0, 1) := by decide +kernel
theorem dX4_snapshot_181 : decode cX4_snapshot 181 = .ok (.getfield 22, 3) := by decide +kernel
theorem dX4_snapshot_184 : decode cX4_snapshot 184 = .ok (.aload_n 0, 1) := by decide +kernel
theorem dX4_snapshot_185 : decode cX4_snapshot 185 = .ok (.getfield 76, 3) := by decide +kernel
theorem dX4_snapshot_188 : decode cX4_snapshot 188 = .ok (.sipush 257, 3) := by decide +kernel
theorem dX4_snapshot_191 : decode cX4_snapshot 191 = .ok (.iload_n 2, 1) := by decide +kernel
theorem dX4_snapshot_192 : decode cX4_snapshot 192 = .ok (.imul, 1) := by decide +kernel
theorem dX4_snapshot_193 : decode cX4_snapshot 193 = .ok (.iload 4, 2) := by decide +kernel
theorem dX4_snapshot_195 : decode cX4_snapshot 195 = .ok (.ifCond .eq 9, 3) := by decide +kernel
theorem dX4_snapshot_198 : decode cX4_snapshot 198 = .ok (.sipush 256, 3) := by decide +kernel
theorem dX4_snapshot_201 : decode cX4_snapshot 201 = .ok (.goto 10, 3) := by decide +kernel
theorem dX4_snapshot_204 : decode cX4_snapshot 204 = .ok (.aload_n 0, 1) := by decide +kernel
theorem dX4_snapshot_205 : decode cX4_snapshot 205 = .ok (.iload_n 1, 1) := by decide +kernel
theorem dX4_snapshot_206 : decode cX4_snapshot 206 = .ok (.iload_n 3, 1) := by decide +kernel
theorem dX4_snapshot_207 : decode cX4_snapshot 207 = .ok (.iadd, 1) := by decide +kernel
theorem dX4_snapshot_208 : decode cX4_snapshot 208 = .ok (.invokevirtual 41, 3) := by decide +kernel
theorem dX4_snapshot_211 : decode cX4_snapshot 211 = .ok (.iadd, 1) := by decide +kernel
theorem dX4_snapshot_212 : decode cX4_snapshot 212 = .ok (.iastore, 1) := by decide +kernel
theorem dX4_snapshot_213 : decode cX4_snapshot 213 = .ok (.aload_n 0, 1) := by decide +kernel
theorem dX4_snapshot_214 : decode cX4_snapshot 214 = .ok (.dup, 1) := by decide +kernel
theorem dX4_snapshot_215 : decode cX4_snapshot 215 = .ok (.getfield 76, 3) := by decide +kernel
theorem dX4_snapshot_218 : decode cX4_snapshot 218 = .ok (.iconst 1, 1) := by decide +kernel
theorem dX4_snapshot_219 : decode cX4_snapshot 219 = .ok (.iadd, 1) := by decide +kernel
theorem dX4_snapshot_220 : decode cX4_snapshot 220 = .ok (.putfield 76, 3) := by decide +kernel
theorem dX4_snapshot_223 : decode cX4_snapshot 223 = .ok (.aload_n 0, 1) := by decide +kernel
theorem dX4_snapshot_224 : decode cX4_snapshot 224 = .ok (.getfield 25, 3) := by decide +kernel
theorem dX4_snapshot_227 : decode cX4_snapshot 227 = .ok (.aload_n 0, 1) := by decide +kernel
theorem dX4_snapshot_228 : decode cX4_snapshot 228 = .ok (.getfield 76, 3) := by decide +kernel
theorem dX4_snapshot_231 : decode cX4_snapshot 231 = .ok (.iload_n 1, 1) := by decide +kernel
theorem dX4_snapshot_232 : decode cX4_snapshot 232 = .ok (.iastore, 1) := by decide +kernel
theorem dX4_snapshot_233 : decode cX4_snapshot 233 = .ok (.aload_n 0, 1) := by decide +kernel
theorem dX4_snapshot_234 : decode cX4_snapshot 234 = .ok (.getfield 28, 3) := by decide +kernel
theorem dX4_snapshot_237 : decode cX4_snapshot 237 = .ok (.aload_n 0, 1) := by decide +kernel
theorem dX4_snapshot_238 : decode cX4_snapshot 238 = .ok (.getfield 76, 3) := by decide +kernel
theorem dX4_snapshot_241 : decode cX4_snapshot 241 = .ok (.iload 4, 2) := by decide +kernel
theorem dX4_snapshot_243 : decode cX4_snapshot 243 = .ok (.ifCond .eq 7, 3) := by decide +kernel
theorem dX4_snapshot_246 : decode cX4_snapshot 246 = .ok (.iload_n 3, 1) := by decide +kernel
theorem dX4_snapshot_247 : decode cX4_snapshot 247 = .ok (.goto 6, 3) := by decide +kernel
theorem dX4_snapshot_250 : decode cX4_snapshot 250 = .ok (.iload_n 3, 1) := by decide +kernel
theorem dX4_snapshot_251 : decode cX4_snapshot 251 = .ok (.iconst 1, 1) := by decide +kernel
theorem dX4_snapshot_252 : decode cX4_snapshot 252 = .ok (.iadd, 1) := by decide +kernel
theorem dX4_snapshot_253 : decode cX4_snapshot 253 = .ok (.iastore, 1) := by decide +kernel
theorem dX4_snapshot_254 : decode cX4_snapshot 254 = .ok (.iload_n 1, 1) := by decide +kernel
theorem dX4_snapshot_255 : decode cX4_snapshot 255 = .ok (.aload_n 0, 1) := by decide +kernel
theorem dX4_snapshot_256 : decode cX4_snapshot 256 = .ok (.getfield 28, 3) := by decide +kernel
theorem dX4_snapshot_259 : decode cX4_snapshot 259 = .ok (.aload_n 0, 1) := by decide +kernel
theorem dX4_snapshot_260 : decode cX4_snapshot 260 = .ok (.getfield 76, 3) := by decide +kernel
theorem dX4_snapshot_263 : decode cX4_snapshot 263 = .ok (.iaload, 1) := by decide +kernel
theorem dX4_snapshot_264 : decode cX4_snapshot 264 = .ok (.iadd, 1) := by decide +kernel
theorem dX4_snapshot_265 : decode cX4_snapshot 265 = .ok (.istore_n 1, 1) := by decide +kernel
theorem dX4_snapshot_266 : decode cX4_snapshot 266 = .ok (.goto (-254), 3) := by decide +kernel
theorem dX4_snapshot_269 : decode cX4_snapshot 269 = .ok (.aload_n 0, 1) := by decide +kernel
theorem dX4_snapshot_270 : decode cX4_snapshot 270 = .ok (.getfield 76, 3) := by decide +kernel
theorem dX4_snapshot_273 : decode cX4_snapshot 273 = .ok (.ireturn, 1) := by decide +kernel
set_option maxRecDepth 20000 in
theorem ggX4_word_X4_isIn : GoodIn wsX4_word wsX4_isIn := goodIn_r _ [7] (by decide +kernel) (by decide +kernel)
set_option maxRecDepth 20000 in
theorem gX4_word_X4_isIn : GoodIn wsX4_word (va_wsS RX4 52 yX4_isIn wsX4_isIn) := goodIn_app (goodIn_of _ (by decide +kernel)) ggX4_word_X4_isIn
theorem dX4_word_0 : decode cX4_word 0 = .ok (.aload_n 0, 1) := by decide +kernel
theorem dX4_word_1 : decode cX4_word 1 = .ok (.iload_n 1, 1) := by decide +kernel
theorem dX4_word_2 : decode cX4_word 2 = .ok (.i2l, 1) := by decide +kernel
theorem dX4_word_3 : decode cX4_word 3 = .ok (.lconst 0, 1) := by decide +kernel
theorem dX4_word_4 : decode cX4_word 4 = .ok (.aload_n 0, 1) := by decide +kernel
theorem dX4_word_5 : decode cX4_word 5 = .ok (.getfield 76, 3) := by decide +kernel
theorem dX4_word_8 : decode cX4_word 8 = .ok (.iconst 1, 1) := by decide +kernel
theorem dX4_word_9 : decode cX4_word 9 = .ok (.isub, 1) := by decide +kernel
theorem dX4_word_10 : decode cX4_word 10 = .ok (.i2l, 1) := by decide +kernel
theorem dX4_word_11 : decode cX4_word 11 = .ok (.invokestatic 52, 3) := by decide +kernel
theorem dX4_word_14 : decode cX4_word 14 = .ok (.ifCond .eq 7, 3) := by decide +kernel
theorem dX4_word_17 : decode cX4_word 17 = .ok (.iconst 0, 1) := by decide +kernel
theorem dX4_word_18 : decode cX4_word 18 = .ok (.goto 4, 3) := by decide +kernel
theorem dX4_word_21 : decode cX4_word 21 = .ok (.iconst 1, 1) := by decide +kernel
theorem dX4_word_22 : decode cX4_word 22 = .ok (.putfield 31, 3) := by decide +kernel
theorem dX4_word_25 : decode cX4_word 25 = .ok (.aload_n 0, 1) := by decide +kernel
theorem dX4_word_26 : decode cX4_word 26 = .ok (.getfield 31, 3) := by decide +kernel
theorem dX4_word_29 : decode cX4_word 29 = .ok (.ifCond .le 7, 3) := by decide +kernel
theorem dX4_word_32 : decode cX4_word 32 = .ok (.iconst 0, 1) := by decide +kernel
theorem dX4_word_33 : decode cX4_word 33 = .ok (.goto 9, 3) := by decide +kernel
theorem dX4_word_36 : decode cX4_word 36 = .ok (.aload_n 0, 1) := by decide +kernel
theorem dX4_word_37 : decode cX4_word 37 = .ok (.getfield 22, 3) := by decide +kernel
theorem dX4_word_40 : decode cX4_word 40 = .ok (.iload_n 1, 1) := by decide +kernel
theorem dX4_word_41 : decode cX4_word 41 = .ok (.iaload, 1) := by decide +kernel
theorem dX4_word_42 : decode cX4_word 42 = .ok (.ireturn, 1) := by decide +kernel
set_option maxRecDepth 20000 in
theorem ggX4_poke_X4_isIn : GoodIn wsX4_poke wsX4_isIn := goodIn_r _ [7] (by decide +kernel) (by decide +kernel)
set_option maxRecDepth 20000 in
theorem gX4_poke_X4_isIn : GoodIn wsX4_poke (va_wsS RX4 52 yX4_isIn wsX4_isIn) := goodIn_app (goodIn_of _ (by decide +kernel)) ggX4_poke_X4_isIn
theorem dX4_poke_0 : decode cX4_poke 0 = .ok (.aload_n 0, 1) := by decide +kernel
theorem dX4_poke_1 : decode cX4_poke 1 = .ok (.iload_n 1, 1) := by decide +kernel
theorem dX4_poke_2 : decode cX4_poke 2 = .ok (.i2l, 1) := by decide +kernel
theorem dX4_poke_3 : decode cX4_poke 3 = .ok (.lconst 0, 1) := by decide +kernel
theorem dX4_poke_4 : decode cX4_poke 4 = .ok (.aload_n 0, 1) := by decide +kernel
theorem dX4_poke_5 : decode cX4_poke 5 = .ok (.getfield 76, 3) := by decide +kernel
theorem dX4_poke_8 : decode cX4_poke 8 = .ok (.iconst 1, 1) := by decide +kernel
theorem dX4_poke_9 : decode cX4_poke 9 = .ok (.isub, 1) := by decide +kernel
theorem dX4_poke_10 : decode cX4_poke 10 = .ok (.i2l, 1) := by decide +kernel
theorem dX4_poke_11 : decode cX4_poke 11 = .ok (.invokestatic 52, 3) := by decide +kernel
theorem dX4_poke_14 : decode cX4_poke 14 = .ok (.ifCond .eq 7, 3) := by decide +kernel
theorem dX4_poke_17 : decode cX4_poke 17 = .ok (.iconst 0, 1) := by decide +kernel
theorem dX4_poke_18 : decode cX4_poke 18 = .ok (.goto 4, 3) := by decide +kernel
theorem dX4_poke_21 : decode cX4_poke 21 = .ok (.iconst 1, 1) := by decide +kernel
theorem dX4_poke_22 : decode cX4_poke 22 = .ok (.putfield 31, 3) := by decide +kernel
theorem dX4_poke_25 : decode cX4_poke 25 = .ok (.aload_n 0, 1) := by decide +kernel
theorem dX4_poke_26 : decode cX4_poke 26 = .ok (.getfield 31, 3) := by decide +kernel
theorem dX4_poke_29 : decode cX4_poke 29 = .ok (.ifCond .le 5, 3) := by decide +kernel
theorem dX4_poke_32 : decode cX4_poke 32 = .ok (.iconst 0, 1) := by decide +kernel
theorem dX4_poke_33 : decode cX4_poke 33 = .ok (.ireturn, 1) := by decide +kernel
theorem dX4_poke_34 : decode cX4_poke 34 = .ok (.aload_n 0, 1) := by decide +kernel
theorem dX4_poke_35 : decode cX4_poke 35 = .ok (.getfield 22, 3) := by decide +kernel
theorem dX4_poke_38 : decode cX4_poke 38 = .ok (.iload_n 1, 1) := by decide +kernel
theorem dX4_poke_39 : decode cX4_poke 39 = .ok (.iaload, 1) := by decide +kernel
theorem dX4_poke_40 : decode cX4_poke 40 = .ok (.istore_n 3, 1) := by decide +kernel
theorem dX4_poke_41 : decode cX4_poke 41 = .ok (.aload_n 0, 1) := by decide +kernel
theorem dX4_poke_42 : decode cX4_poke 42 = .ok (.getfield 22, 3) := by decide +kernel
theorem dX4_poke_45 : decode cX4_poke 45 = .ok (.iload_n 1, 1) := by decide +kernel
theorem dX4_poke_46 : decode cX4_poke 46 = .ok (.iload_n 2, 1) := by decide +kernel
theorem dX4_poke_47 : decode cX4_poke 47 = .ok (.iastore, 1) := by decide +kernel
theorem dX4_poke_48 : decode cX4_poke 48 = .ok (.iload_n 3, 1) := by decide +kernel
theorem dX4_poke_49 : decode cX4_poke 49 = .ok (.ireturn, 1) := by decide +kernel
set_option maxRecDepth 20000 in
theorem ggX4_restore_X4_draftOne : GoodIn wsX4_restore wsX4_draftOne := goodIn_r _ [12, 7, 2, 21, 22, 23, 24, 25, 26, 27, 28, 29, 30, 31, 32, 33] (by decide +kernel) (by decide +kernel)
set_option maxRecDepth 20000 in
theorem gX4_restore_X4_draftOne : GoodIn wsX4_restore (wsV RX4 62 RX4 yX4_draftOne wsX4_draftOne) := goodIn_app (goodIn_of _ (by decide +kernel)) ggX4_restore_X4_draftOne
set_option maxRecDepth 20000 in
theorem ggX4_restore_X4_act : GoodIn wsX4_restore wsX4_act := goodIn_r _ [16, 17, 18, 19, 20, 2, 7, 21, 22, 23, 24, 25, 26, 27, 28, 29, 30, 31, 32, 33] (by decide +kernel) (by decide +kernel)
set_option maxRecDepth 20000 in
theorem gX4_restore_X4_act : GoodIn wsX4_restore (wsV RX4 66 RX4 yX4_act wsX4_act) := goodIn_app (goodIn_of _ (by decide +kernel)) ggX4_restore_X4_act
theorem dX4_restore_0 : decode cX4_restore 0 = .ok (.aload_n 0, 1) := by decide +kernel
theorem dX4_restore_1 : decode cX4_restore 1 = .ok (.iconst 0, 1) := by decide +kernel
theorem dX4_restore_2 : decode cX4_restore 2 = .ok (.putfield 31, 3) := by decide +kernel
theorem dX4_restore_5 : decode cX4_restore 5 = .ok (.aload_n 0, 1) := by decide +kernel
theorem dX4_restore_6 : decode cX4_restore 6 = .ok (.iconst 0, 1) := by decide +kernel
theorem dX4_restore_7 : decode cX4_restore 7 = .ok (.putfield 38, 3) := by decide +kernel
theorem dX4_restore_10 : decode cX4_restore 10 = .ok (.iconst 0, 1) := by decide +kernel
theorem dX4_restore_11 : decode cX4_restore 11 = .ok (.istore_n 1, 1) := by decide +kernel
theorem dX4_restore_12 : decode cX4_restore 12 = .ok (.iload_n 1, 1) := by decide +kernel
theorem dX4_restore_13 : decode cX4_restore 13 = .ok (.aload_n 0, 1) := by decide +kernel
theorem dX4_restore_14 : decode cX4_restore 14 = .ok (.getfield 76, 3) := by decide +kernel
theorem dX4_restore_17 : decode cX4_restore 17 = .ok (.if_icmp .ge 240, 3) := by decide +kernel
theorem dX4_restore_20 : decode cX4_restore 20 = .ok (.aload_n 0, 1) := by decide +kernel
theorem dX4_restore_21 : decode cX4_restore 21 = .ok (.getfield 22, 3) := by decide +kernel
theorem dX4_restore_24 : decode cX4_restore 24 = .ok (.iload_n 1, 1) := by decide +kernel
theorem dX4_restore_25 : decode cX4_restore 25 = .ok (.iaload, 1) := by decide +kernel
theorem dX4_restore_26 : decode cX4_restore 26 = .ok (.ifCond .ge 7, 3) := by decide +kernel
theorem dX4_restore_29 : decode cX4_restore 29 = .ok (.iconst 0, 1) := by decide +kernel
theorem dX4_restore_30 : decode cX4_restore 30 = .ok (.goto 13, 3) := by decide +kernel
theorem dX4_restore_33 : decode cX4_restore 33 = .ok (.aload_n 0, 1) := by decide +kernel
theorem dX4_restore_34 : decode cX4_restore 34 = .ok (.getfield 22, 3) := by decide +kernel
theorem dX4_restore_37 : decode cX4_restore 37 = .ok (.iload_n 1, 1) := by decide +kernel
theorem dX4_restore_38 : decode cX4_restore 38 = .ok (.iaload, 1) := by decide +kernel
theorem dX4_restore_39 : decode cX4_restore 39 = .ok (.sipush 257, 3) := by decide +kernel
theorem dX4_restore_42 : decode cX4_restore 42 = .ok (.idiv, 1) := by decide +kernel
theorem dX4_restore_43 : decode cX4_restore 43 = .ok (.istore_n 2, 1) := by decide +kernel
theorem dX4_restore_44 : decode cX4_restore 44 = .ok (.aload_n 0, 1) := by decide +kernel
theorem dX4_restore_45 : decode cX4_restore 45 = .ok (.getfield 22, 3) := by decide +kernel
theorem dX4_restore_48 : decode cX4_restore 48 = .ok (.iload_n 1, 1) := by decide +kernel
theorem dX4_restore_49 : decode cX4_restore 49 = .ok (.iaload, 1) := by decide +kernel
theorem dX4_restore_50 : decode cX4_restore 50 = .ok (.ifCond .ge 7, 3) := by decide +kernel
theorem dX4_restore_53 : decode cX4_restore 53 = .ok (.iconst 0, 1) := by decide +kernel
theorem dX4_restore_54 : decode cX4_restore 54 = .ok (.goto 13, 3) := by decide +kernel
theorem dX4_restore_57 : decode cX4_restore 57 = .ok (.aload_n 0, 1) := by decide +kernel
theorem dX4_restore_58 : decode cX4_restore 58 = .ok (.getfield 22, 3) := by decide +kernel
theorem dX4_restore_61 : decode cX4_restore 61 = .ok (.iload_n 1, 1) := by decide +kernel
theorem dX4_restore_62 : decode cX4_restore 62 = .ok (.iaload, 1) := by decide +kernel
theorem dX4_restore_63 : decode cX4_restore 63 = .ok (.sipush 257, 3) := by decide +kernel
theorem dX4_restore_66 : decode cX4_restore 66 = .ok (.irem, 1) := by decide +kernel
theorem dX4_restore_67 : decode cX4_restore 67 = .ok (.istore_n 3, 1) := by decide +kernel
theorem dX4_restore_68 : decode cX4_restore 68 = .ok (.aload_n 0, 1) := by decide +kernel
theorem dX4_restore_69 : decode cX4_restore 69 = .ok (.getfield 22, 3) := by decide +kernel
theorem dX4_restore_72 : decode cX4_restore 72 = .ok (.iload_n 1, 1) := by decide +kernel
theorem dX4_restore_73 : decode cX4_restore 73 = .ok (.iaload, 1) := by decide +kernel
theorem dX4_restore_74 : decode cX4_restore 74 = .ok (.ifCond .lt 33, 3) := by decide +kernel
theorem dX4_restore_77 : decode cX4_restore 77 = .ok (.iload_n 2, 1) := by decide +kernel
theorem dX4_restore_78 : decode cX4_restore 78 = .ok (.iload_n 1, 1) := by decide +kernel
theorem dX4_restore_79 : decode cX4_restore 79 = .ok (.if_icmp .gt 28, 3) := by decide +kernel
theorem dX4_restore_82 : decode cX4_restore 82 = .ok (.iload_n 3, 1) := by decide +kernel
theorem dX4_restore_83 : decode cX4_restore 83 = .ok (.sipush 256, 3) := by decide +kernel
theorem dX4_restore_86 : decode cX4_restore 86 = .ok (.if_icmp .lt 17, 3) := by decide +kernel
theorem dX4_restore_89 : decode cX4_restore 89 = .ok (.iload_n 1, 1) := by decide +kernel
theorem dX4_restore_90 : decode cX4_restore 90 = .ok (.aload_n 0, 1) := by decide +kernel
theorem dX4_restore_91 : decode cX4_restore 91 = .ok (.getfield 76, 3) := by decide +kernel
theorem dX4_restore_94 : decode cX4_restore 94 = .ok (.iconst 1, 1) := by decide +kernel
theorem dX4_restore_95 : decode cX4_restore 95 = .ok (.isub, 1) := by decide +kernel
theorem dX4_restore_96 : decode cX4_restore 96 = .ok (.if_icmp .ne 11, 3) := by decide +kernel
theorem dX4_restore_99 : decode cX4_restore 99 = .ok (.iload_n 2, 1) := by decide +kernel
theorem dX4_restore_100 : decode cX4_restore 100 = .ok (.ifCond .le 7, 3) := by decide +kernel
theorem dX4_restore_103 : decode cX4_restore 103 = .ok (.iconst 1, 1) := by decide +kernel
theorem dX4_restore_104 : decode cX4_restore 104 = .ok (.goto 4, 3) := by decide +kernel
theorem dX4_restore_107 : decode cX4_restore 107 = .ok (.iconst 0, 1) := by decide +kernel
theorem dX4_restore_108 : decode cX4_restore 108 = .ok (.istore 4, 2) := by decide +kernel
theorem dX4_restore_110 : decode cX4_restore 110 = .ok (.iload 4, 2) := by decide +kernel
theorem dX4_restore_112 : decode cX4_restore 112 = .ok (.ifCond .eq 7, 3) := by decide +kernel
theorem dX4_restore_115 : decode cX4_restore 115 = .ok (.iload_n 2, 1) := by decide +kernel
theorem dX4_restore_116 : decode cX4_restore 116 = .ok (.ifCond .ne 7, 3) := by decide +kernel
theorem dX4_restore_119 : decode cX4_restore 119 = .ok (.iconst 0, 1) := by decide +kernel
theorem dX4_restore_120 : decode cX4_restore 120 = .ok (.goto 9, 3) := by decide +kernel
theorem dX4_restore_123 : decode cX4_restore 123 = .ok (.aload_n 0, 1) := by decide +kernel
theorem dX4_restore_124 : decode cX4_restore 124 = .ok (.getfield 28, 3) := by decide +kernel
theorem dX4_restore_127 : decode cX4_restore 127 = .ok (.iload_n 2, 1) := by decide +kernel
theorem dX4_restore_128 : decode cX4_restore 128 = .ok (.iaload, 1) := by decide +kernel
theorem dX4_restore_129 : decode cX4_restore 129 = .ok (.istore 5, 2) := by decide +kernel
theorem dX4_restore_131 : decode cX4_restore 131 = .ok (.iload_n 3, 1) := by decide +kernel
theorem dX4_restore_132 : decode cX4_restore 132 = .ok (.sipush 256, 3) := by decide +kernel
theorem dX4_restore_135 : decode cX4_restore 135 = .ok (.if_icmp .ge 10, 3) := by decide +kernel
theorem dX4_restore_138 : decode cX4_restore 138 = .ok (.iload 5, 2) := by decide +kernel
theorem dX4_restore_140 : decode cX4_restore 140 = .ok (.iconst 1, 1) := by decide +kernel
theorem dX4_restore_141 : decode cX4_restore 141 = .ok (.iadd, 1) := by decide +kernel
theorem dX4_restore_142 : decode cX4_restore 142 = .ok (.goto 5, 3) := by decide +kernel
theorem dX4_restore_145 : decode cX4_restore 145 = .ok (.iload 5, 2) := by decide +kernel
theorem dX4_restore_147 : decode cX4_restore 147 = .ok (.istore 6, 2) := by decide +kernel
theorem dX4_restore_149 : decode cX4_restore 149 = .ok (.iload 4, 2) := by decide +kernel
theorem dX4_restore_151 : decode cX4_restore 151 = .ok (.ifCond .eq 16, 3) := by decide +kernel
theorem dX4_restore_154 : decode cX4_restore 154 = .ok (.aload_n 0, 1) := by decide +kernel
theorem dX4_restore_155 : decode cX4_restore 155 = .ok (.getfield 38, 3) := by decide +kernel
theorem dX4_restore_158 : decode cX4_restore 158 = .ok (.iload 6, 2) := by decide +kernel
theorem dX4_restore_160 : decode cX4_restore 160 = .ok (.iadd, 1) := by decide +kernel
theorem dX4_restore_161 : decode cX4_restore 161 = .ok (.sipush 240, 3) := by decide +kernel
theorem dX4_restore_164 : decode cX4_restore 164 = .ok (.if_icmp .le 7, 3) := by decide +kernel
theorem dX4_restore_167 : decode cX4_restore 167 = .ok (.iconst (-1), 1) := by decide +kernel
theorem dX4_restore_168 : decode cX4_restore 168 = .ok (.iload_n 1, 1) := by decide +kernel
theorem dX4_restore_169 : decode cX4_restore 169 = .ok (.isub, 1) := by decide +kernel
theorem dX4_restore_170 : decode cX4_restore 170 = .ok (.ireturn, 1) := by decide +kernel
theorem dX4_restore_171 : decode cX4_restore 171 = .ok (.aload_n 0, 1) := by decide +kernel
theorem dX4_restore_172 : decode cX4_restore 172 = .ok (.getfield 25, 3) := by decide +kernel
theorem dX4_restore_175 : decode cX4_restore 175 = .ok (.iload_n 1, 1) := by decide +kernel
theorem dX4_restore_176 : decode cX4_restore 176 = .ok (.iconst 1, 1) := by decide +kernel
theorem dX4_restore_177 : decode cX4_restore 177 = .ok (.iadd, 1) := by decide +kernel
theorem dX4_restore_178 : decode cX4_restore 178 = .ok (.aload_n 0, 1) := by decide +kernel
theorem dX4_restore_179 : decode cX4_restore 179 = .ok (.getfield 38, 3) := by decide +kernel
theorem dX4_restore_182 : decode cX4_restore 182 = .ok (.iastore, 1) := by decide +kernel
theorem dX4_restore_183 : decode cX4_restore 183 = .ok (.aload_n 0, 1) := by decide +kernel
theorem dX4_restore_184 : decode cX4_restore 184 = .ok (.getfield 28, 3) := by decide +kernel
theorem dX4_restore_187 : decode cX4_restore 187 = .ok (.iload_n 1, 1) := by decide +kernel
theorem dX4_restore_188 : decode cX4_restore 188 = .ok (.iconst 1, 1) := by decide +kernel
theorem dX4_restore_189 : decode cX4_restore 189 = .ok (.iadd, 1) := by decide +kernel
theorem dX4_restore_190 : decode cX4_restore 190 = .ok (.iload 6, 2) := by decide +kernel
theorem dX4_restore_192 : decode cX4_restore 192 = .ok (.iastore, 1) := by decide +kernel
theorem dX4_restore_193 : decode cX4_restore 193 = .ok (.iload_n 2, 1) := by decide +kernel
theorem dX4_restore_194 : decode cX4_restore 194 = .ok (.ifCond .ne 7, 3) := by decide +kernel
theorem dX4_restore_197 : decode cX4_restore 197 = .ok (.iconst 0, 1) := by decide +kernel
theorem dX4_restore_198 : decode cX4_restore 198 = .ok (.goto 9, 3) := by decide +kernel
theorem dX4_restore_201 : decode cX4_restore 201 = .ok (.aload_n 0, 1) := by decide +kernel
theorem dX4_restore_202 : decode cX4_restore 202 = .ok (.getfield 25, 3) := by decide +kernel
theorem dX4_restore_205 : decode cX4_restore 205 = .ok (.iload_n 2, 1) := by decide +kernel
theorem dX4_restore_206 : decode cX4_restore 206 = .ok (.iaload, 1) := by decide +kernel
theorem dX4_restore_207 : decode cX4_restore 207 = .ok (.istore 7, 2) := by decide +kernel
theorem dX4_restore_209 : decode cX4_restore 209 = .ok (.iconst 0, 1) := by decide +kernel
theorem dX4_restore_210 : decode cX4_restore 210 = .ok (.istore 8, 2) := by decide +kernel
theorem dX4_restore_212 : decode cX4_restore 212 = .ok (.iload 8, 2) := by decide +kernel
theorem dX4_restore_214 : decode cX4_restore 214 = .ok (.iload 5, 2) := by decide +kernel
theorem dX4_restore_216 : decode cX4_restore 216 = .ok (.if_icmp .ge 23, 3) := by decide +kernel
theorem dX4_restore_219 : decode cX4_restore 219 = .ok (.aload_n 0, 1) := by decide +kernel
theorem dX4_restore_220 : decode cX4_restore 220 = .ok (.aload_n 0, 1) := by decide +kernel
theorem dX4_restore_221 : decode cX4_restore 221 = .ok (.getfield 16, 3) := by decide +kernel
theorem dX4_restore_224 : decode cX4_restore 224 = .ok (.iload 7, 2) := by decide +kernel
theorem dX4_restore_226 : decode cX4_restore 226 = .ok (.iload 8, 2) := by decide +kernel
theorem dX4_restore_228 : decode cX4_restore 228 = .ok (.iadd, 1) := by decide +kernel
theorem dX4_restore_229 : decode cX4_restore 229 = .ok (.iaload, 1) := by decide +kernel
theorem dX4_restore_230 : decode cX4_restore 230 = .ok (.invokevirtual 62, 3) := by decide +kernel
theorem dX4_restore_233 : decode cX4_restore 233 = .ok (.iinc 8 1, 3) := by decide +kernel
theorem dX4_restore_236 : decode cX4_restore 236 = .ok (.goto (-24), 3) := by decide +kernel
theorem dX4_restore_239 : decode cX4_restore 239 = .ok (.iload_n 3, 1) := by decide +kernel
theorem dX4_restore_240 : decode cX4_restore 240 = .ok (.sipush 256, 3) := by decide +kernel
theorem dX4_restore_243 : decode cX4_restore 243 = .ok (.if_icmp .ge 8, 3) := by decide +kernel
theorem dX4_restore_246 : decode cX4_restore 246 = .ok (.aload_n 0, 1) := by decide +kernel
theorem dX4_restore_247 : decode cX4_restore 247 = .ok (.iload_n 3, 1) := by decide +kernel
theorem dX4_restore_248 : decode cX4_restore 248 = .ok (.invokevirtual 62, 3) := by decide +kernel
theorem dX4_restore_251 : decode cX4_restore 251 = .ok (.iinc 1 1, 3) := by decide +kernel
theorem dX4_restore_254 : decode cX4_restore 254 = .ok (.goto (-242), 3) := by decide +kernel
theorem dX4_restore_257 : decode cX4_restore 257 = .ok (.aload_n 0, 1) := by decide +kernel
theorem dX4_restore_258 : decode cX4_restore 258 = .ok (.invokevirtual 66, 3) := by decide +kernel
theorem dX4_restore_261 : decode cX4_restore 261 = .ok (.ireturn, 1) := by decide +kernel
set_option maxRecDepth 20000 in
theorem ggX4_told_X4_length : GoodIn wsX4_told wsX4_length := goodIn_r _ [10, 11, 2, 17, 18, 19, 20, 21, 22, 23, 24, 25, 26, 27, 28, 29] (by decide +kernel) (by decide +kernel)
set_option maxRecDepth 20000 in
theorem gX4_told_X4_length : GoodIn wsX4_told (wsV RX4 48 RX4 yX4_length wsX4_length) := goodIn_app (goodIn_of _ (by decide +kernel)) ggX4_told_X4_length
set_option maxRecDepth 20000 in
theorem ggX4_told_X4_charAt : GoodIn wsX4_told wsX4_charAt := goodIn_r _ [15, 16, 2, 17, 18, 19, 20, 21, 22, 23, 24, 25, 26, 27, 28, 29] (by decide +kernel) (by decide +kernel)
set_option maxRecDepth 20000 in
theorem gX4_told_X4_charAt : GoodIn wsX4_told (wsV RX4 41 RX4 yX4_charAt wsX4_charAt) := goodIn_app (goodIn_of _ (by decide +kernel)) ggX4_told_X4_charAt
theorem dX4_told_0 : decode cX4_told 0 = .ok (.aload_n 0, 1) := by decide +kernel
theorem dX4_told_1 : decode cX4_told 1 = .ok (.iconst 0, 1) := by decide +kernel
theorem dX4_told_2 : decode cX4_told 2 = .ok (.putfield 31, 3) := by decide +kernel
theorem dX4_told_5 : decode cX4_told 5 = .ok (.iload_n 1, 1) := by decide +kernel
theorem dX4_told_6 : decode cX4_told 6 = .ok (.iconst 5, 1) := by decide +kernel
theorem dX4_told_7 : decode cX4_told 7 = .ok (.if_icmp .ne 80, 3) := by decide +kernel
theorem dX4_told_10 : decode cX4_told 10 = .ok (.iconst 0, 1) := by decide +kernel
theorem dX4_told_11 : decode cX4_told 11 = .ok (.istore_n 2, 1) := by decide +kernel
theorem dX4_told_12 : decode cX4_told 12 = .ok (.iconst 0, 1) := by decide +kernel
theorem dX4_told_13 : decode cX4_told 13 = .ok (.istore_n 3, 1) := by decide +kernel
theorem dX4_told_14 : decode cX4_told 14 = .ok (.iload_n 3, 1) := by decide +kernel
theorem dX4_told_15 : decode cX4_told 15 = .ok (.aload_n 0, 1) := by decide +kernel
theorem dX4_told_16 : decode cX4_told 16 = .ok (.invokevirtual 48, 3) := by decide +kernel
theorem dX4_told_19 : decode cX4_told 19 = .ok (.if_icmp .ge 66, 3) := by decide +kernel
theorem dX4_told_22 : decode cX4_told 22 = .ok (.iconst 1, 1) := by decide +kernel
theorem dX4_told_23 : decode cX4_told 23 = .ok (.istore 4, 2) := by decide +kernel
theorem dX4_told_25 : decode cX4_told 25 = .ok (.iconst 0, 1) := by decide +kernel
theorem dX4_told_26 : decode cX4_told 26 = .ok (.istore 5, 2) := by decide +kernel
theorem dX4_told_28 : decode cX4_told 28 = .ok (.iload 5, 2) := by decide +kernel
theorem dX4_told_30 : decode cX4_told 30 = .ok (.iload_n 3, 1) := by decide +kernel
theorem dX4_told_31 : decode cX4_told 31 = .ok (.if_icmp .ge 35, 3) := by decide +kernel
theorem dX4_told_34 : decode cX4_told 34 = .ok (.iload 4, 2) := by decide +kernel
theorem dX4_told_36 : decode cX4_told 36 = .ok (.ifCond .eq 21, 3) := by decide +kernel
theorem dX4_told_39 : decode cX4_told 39 = .ok (.aload_n 0, 1) := by decide +kernel
theorem dX4_told_40 : decode cX4_told 40 = .ok (.iload 5, 2) := by decide +kernel
theorem dX4_told_42 : decode cX4_told 42 = .ok (.invokevirtual 41, 3) := by decide +kernel
theorem dX4_told_45 : decode cX4_told 45 = .ok (.aload_n 0, 1) := by decide +kernel
theorem dX4_told_46 : decode cX4_told 46 = .ok (.iload_n 3, 1) := by decide +kernel
theorem dX4_told_47 : decode cX4_told 47 = .ok (.invokevirtual 41, 3) := by decide +kernel
theorem dX4_told_50 : decode cX4_told 50 = .ok (.if_icmp .eq 7, 3) := by decide +kernel
theorem dX4_told_53 : decode cX4_told 53 = .ok (.iconst 1, 1) := by decide +kernel
theorem dX4_told_54 : decode cX4_told 54 = .ok (.goto 4, 3) := by decide +kernel
theorem dX4_told_57 : decode cX4_told 57 = .ok (.iconst 0, 1) := by decide +kernel
theorem dX4_told_58 : decode cX4_told 58 = .ok (.istore 4, 2) := by decide +kernel
theorem dX4_told_60 : decode cX4_told 60 = .ok (.iinc 5 1, 3) := by decide +kernel
theorem dX4_told_63 : decode cX4_told 63 = .ok (.goto (-35), 3) := by decide +kernel
theorem dX4_told_66 : decode cX4_told 66 = .ok (.iload 4, 2) := by decide +kernel
theorem dX4_told_68 : decode cX4_told 68 = .ok (.ifCond .eq 9, 3) := by decide +kernel
theorem dX4_told_71 : decode cX4_told 71 = .ok (.iload_n 2, 1) := by decide +kernel
theorem dX4_told_72 : decode cX4_told 72 = .ok (.iconst 1, 1) := by decide +kernel
theorem dX4_told_73 : decode cX4_told 73 = .ok (.iadd, 1) := by decide +kernel
theorem dX4_told_74 : decode cX4_told 74 = .ok (.goto 4, 3) := by decide +kernel
theorem dX4_told_77 : decode cX4_told 77 = .ok (.iload_n 2, 1) := by decide +kernel
theorem dX4_told_78 : decode cX4_told 78 = .ok (.istore_n 2, 1) := by decide +kernel
theorem dX4_told_79 : decode cX4_told 79 = .ok (.iinc 3 1, 3) := by decide +kernel
theorem dX4_told_82 : decode cX4_told 82 = .ok (.goto (-68), 3) := by decide +kernel
theorem dX4_told_85 : decode cX4_told 85 = .ok (.iload_n 2, 1) := by decide +kernel
theorem dX4_told_86 : decode cX4_told 86 = .ok (.ireturn, 1) := by decide +kernel
theorem dX4_told_87 : decode cX4_told 87 = .ok (.iload_n 1, 1) := by decide +kernel
theorem dX4_told_88 : decode cX4_told 88 = .ok (.ifCond .ne 10, 3) := by decide +kernel
theorem dX4_told_91 : decode cX4_told 91 = .ok (.aload_n 0, 1) := by decide +kernel
theorem dX4_told_92 : decode cX4_told 92 = .ok (.invokevirtual 48, 3) := by decide +kernel
theorem dX4_told_95 : decode cX4_told 95 = .ok (.goto 52, 3) := by decide +kernel
theorem dX4_told_98 : decode cX4_told 98 = .ok (.iload_n 1, 1) := by decide +kernel
theorem dX4_told_99 : decode cX4_told 99 = .ok (.iconst 1, 1) := by decide +kernel
theorem dX4_told_100 : decode cX4_told 100 = .ok (.if_icmp .ne 10, 3) := by decide +kernel
theorem dX4_told_103 : decode cX4_told 103 = .ok (.aload_n 0, 1) := by decide +kernel
theorem dX4_told_104 : decode cX4_told 104 = .ok (.getfield 35, 3) := by decide +kernel
theorem dX4_told_107 : decode cX4_told 107 = .ok (.goto 40, 3) := by decide +kernel
theorem dX4_told_110 : decode cX4_told 110 = .ok (.iload_n 1, 1) := by decide +kernel
theorem dX4_told_111 : decode cX4_told 111 = .ok (.iconst 2, 1) := by decide +kernel
theorem dX4_told_112 : decode cX4_told 112 = .ok (.if_icmp .ne 10, 3) := by decide +kernel
theorem dX4_told_115 : decode cX4_told 115 = .ok (.aload_n 0, 1) := by decide +kernel
theorem dX4_told_116 : decode cX4_told 116 = .ok (.getfield 45, 3) := by decide +kernel
theorem dX4_told_119 : decode cX4_told 119 = .ok (.goto 28, 3) := by decide +kernel
theorem dX4_told_122 : decode cX4_told 122 = .ok (.iload_n 1, 1) := by decide +kernel
theorem dX4_told_123 : decode cX4_told 123 = .ok (.iconst 3, 1) := by decide +kernel
theorem dX4_told_124 : decode cX4_told 124 = .ok (.if_icmp .ne 10, 3) := by decide +kernel
theorem dX4_told_127 : decode cX4_told 127 = .ok (.aload_n 0, 1) := by decide +kernel
theorem dX4_told_128 : decode cX4_told 128 = .ok (.getfield 69, 3) := by decide +kernel
theorem dX4_told_131 : decode cX4_told 131 = .ok (.goto 16, 3) := by decide +kernel
theorem dX4_told_134 : decode cX4_told 134 = .ok (.iload_n 1, 1) := by decide +kernel
theorem dX4_told_135 : decode cX4_told 135 = .ok (.iconst 4, 1) := by decide +kernel
theorem dX4_told_136 : decode cX4_told 136 = .ok (.if_icmp .ne 10, 3) := by decide +kernel
theorem dX4_told_139 : decode cX4_told 139 = .ok (.aload_n 0, 1) := by decide +kernel
theorem dX4_told_140 : decode cX4_told 140 = .ok (.getfield 76, 3) := by decide +kernel
theorem dX4_told_143 : decode cX4_told 143 = .ok (.goto 4, 3) := by decide +kernel
theorem dX4_told_146 : decode cX4_told 146 = .ok (.iconst (-1), 1) := by decide +kernel
theorem dX4_told_147 : decode cX4_told 147 = .ok (.ireturn, 1) := by decide +kernel
theorem dX4_clear_0 : decode cX4_clear 0 = .ok (.aload_n 0, 1) := by decide +kernel
theorem dX4_clear_1 : decode cX4_clear 1 = .ok (.iconst 0, 1) := by decide +kernel
theorem dX4_clear_2 : decode cX4_clear 2 = .ok (.putfield 31, 3) := by decide +kernel
theorem dX4_clear_5 : decode cX4_clear 5 = .ok (.aload_n 0, 1) := by decide +kernel
theorem dX4_clear_6 : decode cX4_clear 6 = .ok (.iconst 0, 1) := by decide +kernel
theorem dX4_clear_7 : decode cX4_clear 7 = .ok (.putfield 35, 3) := by decide +kernel
theorem dX4_clear_10 : decode cX4_clear 10 = .ok (.aload_n 0, 1) := by decide +kernel
theorem dX4_clear_11 : decode cX4_clear 11 = .ok (.iconst 0, 1) := by decide +kernel
theorem dX4_clear_12 : decode cX4_clear 12 = .ok (.putfield 45, 3) := by decide +kernel
theorem dX4_clear_15 : decode cX4_clear 15 = .ok (.aload_n 0, 1) := by decide +kernel
theorem dX4_clear_16 : decode cX4_clear 16 = .ok (.getfield 13, 3) := by decide +kernel
theorem dX4_clear_19 : decode cX4_clear 19 = .ok (.iconst 0, 1) := by decide +kernel
theorem dX4_clear_20 : decode cX4_clear 20 = .ok (.iconst 0, 1) := by decide +kernel
theorem dX4_clear_21 : decode cX4_clear 21 = .ok (.iastore, 1) := by decide +kernel
theorem dX4_clear_22 : decode cX4_clear 22 = .ok (.aload_n 0, 1) := by decide +kernel
theorem dX4_clear_23 : decode cX4_clear 23 = .ok (.iconst 0, 1) := by decide +kernel
theorem dX4_clear_24 : decode cX4_clear 24 = .ok (.putfield 69, 3) := by decide +kernel
theorem dX4_clear_27 : decode cX4_clear 27 = .ok (.aload_n 0, 1) := by decide +kernel
theorem dX4_clear_28 : decode cX4_clear 28 = .ok (.iconst 0, 1) := by decide +kernel
theorem dX4_clear_29 : decode cX4_clear 29 = .ok (.putfield 76, 3) := by decide +kernel
theorem dX4_clear_32 : decode cX4_clear 32 = .ok (.return_, 1) := by decide +kernel
end
section
def zW (N : Nat) (ad : Nat → Nat) (cw : Nat → va_E) : va_W := (List.range N).map (fun k => (ad k, cw k))
theorem zW_get {N : Nat} {ad : Nat → Nat} {cw : Nat → va_E} {k : Nat} (h : k < N) : (zW N ad cw)[k]? = some (ad k, cw k) := by
  simp [zW, h]
theorem zW_at {N : Nat} {ad : Nat → Nat} {cw : Nat → va_E} {k : Nat} {E : va_E} (h : k < N) (he : cw k = E) : (zW N ad cw)[k]? = some (ad k, E) := by
  rw [zW_get h, he]
theorem zW_set {N : Nat} {ad : Nat → Nat} {cw : Nat → va_E} {k : Nat} {E : va_E} (h : k < N) : (zW N ad cw).set k (ad k, E) = zW N ad (va_up cw k E) := by
  apply List.ext_getElem?
  intro i
  by_cases hi : i = k
  · subst hi
    rw [zW_get h, va_up_self, List.getElem?_set_self (by simp [zW]; exact h)]
  · rw [List.getElem?_set_ne (Ne.symm hi)]
    by_cases h2 : i < N
    · rw [zW_get h2, zW_get h2, va_up_ne _ _ hi]
    · simp [zW, h2]
theorem zW_push {N : Nat} {ad : Nat → Nat} {cw : Nat → va_E} {q : Nat} {E : va_E} : zW N ad cw ++ [(q, E)] = zW (N + 1) (va_up ad N q) (va_up cw N E) := by
  unfold zW
  rw [List.range_succ, List.map_append]
  congr 1
  · apply List.map_congr_left
    intro a ha
    have h := List.mem_range.mp ha
    rw [va_up_ne _ _ (Nat.ne_of_lt h), va_up_ne _ _ (Nat.ne_of_lt h)]
  · simp [va_up_self]
def zA (B : Nat) : Nat → Prop := fun q => B ≤ q
abbrev xIO : String := "java/lang/IndexOutOfBoundsException"
abbrev xIA : String := "java/lang/IllegalArgumentException"
abbrev xIS : String := "java/lang/IllegalStateException"
abbrev xUO : String := "java/lang/UnsupportedOperationException"
abbrev xNames : List String := ["java/lang/RuntimeException", "java/lang/Exception"]
def zStrs : List (Nat × String) := [(106, "the pattern would be too long"), (113, "the pattern has no characters"), (151, "no such place"), (155, "no character"), (158, "not so many characters"), (160, "the text would be too long"), (162, "no such word"), (76, "no such character"), (90, "the past has no action"), (99, "the future has no action")]
def zNcs : List (String × String) := [(xIA, xIO), (xUO, xIO), (xUO, xIA), (xIS, xIA)]
def zNgs : List Cond := [.castable xIO xIO, .castable xIA xIA, .castable xIS xIS, .castable xUO xUO, .declares (Bundle.initS "java/lang/RuntimeException"), .declares (Bundle.initS "java/lang/Exception"), .declares (Bundle.initS "java/lang/Throwable")]
theorem zNgs_ok : ∀ w ∈ zNgs, w.onTables = true ∧ w.keepsFace = true := by decide +kernel
/-- what of the state at the start stays so: the two statics of Throwable, the texts, what isn't castable -/
def zE (B : Nat) (U : State) (H : Heap) : Prop :=
  vx_Zq Bundle.tN "UNASSIGNED_STACK" Bundle.steD (zA B) U H ∧ vx_Zq Bundle.tN "SUPPRESSED_SENTINEL" Bundle.listD (zA B) U H ∧ va_AO RX2 U ∧
  (∀ q ∈ zStrs, ∃ a, vk_R RX3 q.1 q.2 a U) ∧ (∀ q ∈ zNcs, va_Nc q.1 q.2 U) ∧ (∀ w ∈ zNgs, va_Nw w U)
theorem zE_warm {B : Nat} {s U : State} {H : Heap} (hW : s.WarmedH U.vm) (h : zE B s H) : zE B U H :=
  ⟨vx_Zq.moved hW.alike h.1, vx_Zq.moved hW.alike h.2.1, va_AO.moved hW.alike h.2.2.1, fun q hq => (h.2.2.2.1 q hq).imp fun a ha => vk_R.warm hW ha, fun q hq => va_Nc.moved hW.alike (h.2.2.2.2.1 q hq),
   fun w hw => va_tabs (zNgs_ok w hw).1 (rfl : (s.setVm U.vm).vm = U.vm) (Cond.before_shiftedFace (State.Shifted.of_warmed hW) w (zNgs_ok w hw).2 (h.2.2.2.2.2 w hw))⟩
theorem zE_kept {B : Nat} {s : State} {H H1 : Heap} (h : zE B s H) (hq : ∀ a : Nat, a < H.size → ¬ zA B a → H1[a]? = H[a]?) : zE B s H1 :=
  ⟨h.1.kept hq, h.2.1.kept hq, h.2.2⟩
/-- the world at a heap -/
def zH (D : va_G) (cl : List vw_C) (B N : Nat) (ad : Nat → Nat) (cw : Nat → va_E) (H : Heap) : Prop := va_P D cl (zW N ad cw) H ∧ va_D (zA B) (zW N ad cw)
/-- the world, and what the tables say, at a state -/
def zI (D : va_G) (cl : List vw_C) (tys : List (ClassId × FieldType)) (B N : Nat) (ad : Nat → Nat) (cw : Nat → va_E) (U : State) : Prop :=
  zH D cl B N ad cw U.heap ∧ va_K D cl tys U ∧ B ≤ U.heap.size ∧ zE B U U.heap
/-- what holds all through a body -/
def zC (p : Program) (s : State) (m : MethodId) (args : Array Value) (meth : Method) (c : Code) (cc : ByteArray) (nL : Nat) (own : String) (Ts : List Cond) (D : va_G) (cl : List vw_C) (tys : List (ClassId × FieldType)) (B : Nat) : Prop :=
  p.tables.exec = Jvm.exec ∧ c.code = cc ∧ c.maxLocals = nL ∧ s.vm.findClass own = some m.cls ∧ (∀ w ∈ Ts, w.before args s = true) ∧ va_K D cl tys s ∧ meth.locks = false ∧ B ≤ s.heap.size ∧ zE B s s.heap
/-- THE JUDGEMENT: at pc, with these locals and this stack, in every heap that holds the world -/
def zG (p : Program) (l : Launch) (e : Env) (R : Room) (s : State) (m : MethodId) (args : Array Value) (below : List Frame) (meth : Method) (c : Code) (Q : State → Prop) (D : va_G) (cl : List vw_C) (B nL N : Nat) (ad : Nat → Nat) (cw : Nat → va_E) (cells slots : Nat) (lv : List (Nat × Value)) (pc : Nat) (st : List Value) : Prop :=
  ∀ (H : Heap) (locs : List Loc) (ls : Array Slot), zH D cl B N ad cw H → va_S (zA B) s.heap H locs → lv_has ls nL lv → W p l e R s m args below meth c H locs cells slots Q (F0 m pc ls st)
/-- q of the class E is thrown over the frame at pc -/
def zX (p : Program) (l : Launch) (e : Env) (R : Room) (s : State) (m : MethodId) (args : Array Value) (below : List Frame) (meth : Method) (c : Code) (Q : State → Prop) (D : va_G) (cl : List vw_C) (B nL N : Nat) (ad : Nat → Nat) (cw : Nat → va_E) (cells slots : Nat) (lv : List (Nat × Value)) (pc : Nat) (st : List Value) (E : String) : Prop :=
  ∀ (H : Heap) (locs : List Loc) (ls : Array Slot) (q : Addr) (ce : Cell), zH D cl B N ad cw H → va_S (zA B) s.heap H locs → lv_has ls nL lv → H[q]? = some ce → ce.vm = .none → s.vm.findClass E = some ce.cls → vx_W p l e R s m args below meth c H locs cells slots Q (F0 m pc ls st) q
section Z1
variable {p : Program} {l : Launch} {e : Env} {R : Room} {s : State} {m : MethodId} {args : Array Value} {below : List Frame} {meth : Method} {c : Code} {cells slots : Nat} {Q : State → Prop}
variable {D : va_G} {cl : List vw_C} {tys : List (ClassId × FieldType)} {B N nL : Nat} {ad : Nat → Nat} {cw : Nat → va_E} {lv lv' : List (Nat × Value)} {pc : Nat} {st : List Value} {cc : ByteArray} {own : String} {Ts : List Cond}
theorem z_iconst {n : Int} {v : Int32} (C : zC p s m args meth c cc nL own Ts D cl tys B) (d : decode cc pc = .ok (.iconst n, 1)) (hv : Int32.ofInt n = v) (kk : zG p l e R s m args below meth c Q D cl B nL N ad cw cells slots lv (pc + 1) (.int v :: st)) : zG p l e R s m args below meth c Q D cl B nL N ad cw cells slots lv pc st := fun H locs ls hW hS hl => lv_iconst C.1 C.2.1  d hv (kk H locs ls hW hS hl)
theorem z_bipush {n : Int} {v : Int32} (C : zC p s m args meth c cc nL own Ts D cl tys B) (d : decode cc pc = .ok (.bipush n, 2)) (hv : (Int8.ofInt n).toInt32 = v) (kk : zG p l e R s m args below meth c Q D cl B nL N ad cw cells slots lv (pc + 2) (.int v :: st)) : zG p l e R s m args below meth c Q D cl B nL N ad cw cells slots lv pc st := fun H locs ls hW hS hl => lv_bipush C.1 C.2.1  d hv (kk H locs ls hW hS hl)
theorem z_sipush {n : Int} {v : Int32} (C : zC p s m args meth c cc nL own Ts D cl tys B) (d : decode cc pc = .ok (.sipush n, 3)) (hv : (Int16.ofInt n).toInt32 = v) (kk : zG p l e R s m args below meth c Q D cl B nL N ad cw cells slots lv (pc + 3) (.int v :: st)) : zG p l e R s m args below meth c Q D cl B nL N ad cw cells slots lv pc st := fun H locs ls hW hS hl => lv_sipush C.1 C.2.1  d hv (kk H locs ls hW hS hl)
theorem z_iload_n {k : Fin 4} {x : Int32} (C : zC p s m args meth c cc nL own Ts D cl tys B) (d : decode cc pc = .ok (.iload_n k, 1)) (j : Nat) (h : lv[j]? = some ((k : Nat), .int x)) (kk : zG p l e R s m args below meth c Q D cl B nL N ad cw cells slots lv (pc + 1) (.int x :: st)) : zG p l e R s m args below meth c Q D cl B nL N ad cw cells slots lv pc st := fun H locs ls hW hS hl => lv_iload_n C.1 C.2.1  d rfl (lv_at hl j h) (kk H locs ls hW hS hl)
theorem z_iload {k : Nat} {x : Int32} (C : zC p s m args meth c cc nL own Ts D cl tys B) (d : decode cc pc = .ok (.iload k, 2)) (j : Nat) (h : lv[j]? = some (k, .int x)) (kk : zG p l e R s m args below meth c Q D cl B nL N ad cw cells slots lv (pc + 2) (.int x :: st)) : zG p l e R s m args below meth c Q D cl B nL N ad cw cells slots lv pc st := fun H locs ls hW hS hl => lv_iload C.1 C.2.1  d (lv_at hl j h) (kk H locs ls hW hS hl)
theorem z_aload_n {k : Fin 4} {x : Nat} (C : zC p s m args meth c cc nL own Ts D cl tys B) (d : decode cc pc = .ok (.aload_n k, 1)) (j : Nat) (h : lv[j]? = some ((k : Nat), .ref x)) (kk : zG p l e R s m args below meth c Q D cl B nL N ad cw cells slots lv (pc + 1) (.ref x :: st)) : zG p l e R s m args below meth c Q D cl B nL N ad cw cells slots lv pc st := fun H locs ls hW hS hl => lv_aload_n C.1 C.2.1  d rfl (lv_at hl j h) (kk H locs ls hW hS hl)
theorem z_aload {k : Nat} {x : Nat} (C : zC p s m args meth c cc nL own Ts D cl tys B) (d : decode cc pc = .ok (.aload k, 2)) (j : Nat) (h : lv[j]? = some (k, .ref x)) (kk : zG p l e R s m args below meth c Q D cl B nL N ad cw cells slots lv (pc + 2) (.ref x :: st)) : zG p l e R s m args below meth c Q D cl B nL N ad cw cells slots lv pc st := fun H locs ls hW hS hl => lv_aload C.1 C.2.1  d (lv_at hl j h) (kk H locs ls hW hS hl)
theorem z_istore_n {k : Fin 4} {i : Nat} {x : Int32} (C : zC p s m args meth c cc nL own Ts D cl tys B) (d : decode cc pc = .ok (.istore_n k, 1)) (hi : (k : Nat) = i) (hn : i < nL) (hl' : (i, Value.int x) :: lv.filter (fun q => !(q.1 == i) && !(q.1 + 1 == i && q.2.category == 2)) = lv') (kk : zG p l e R s m args below meth c Q D cl B nL N ad cw cells slots lv' (pc + 1) st) : zG p l e R s m args below meth c Q D cl B nL N ad cw cells slots lv pc (.int x :: st) := fun H locs ls hW hS hl => lv_istore_n C.1 C.2.1 d hi hl hn hl' (fun ls' hl2 => kk H locs ls' hW hS hl2)
theorem z_istore {i : Nat} {x : Int32} (C : zC p s m args meth c cc nL own Ts D cl tys B) (d : decode cc pc = .ok (.istore i, 2)) (hn : i < nL) (hl' : (i, Value.int x) :: lv.filter (fun q => !(q.1 == i) && !(q.1 + 1 == i && q.2.category == 2)) = lv') (kk : zG p l e R s m args below meth c Q D cl B nL N ad cw cells slots lv' (pc + 2) st) : zG p l e R s m args below meth c Q D cl B nL N ad cw cells slots lv pc (.int x :: st) := fun H locs ls hW hS hl => lv_istore C.1 C.2.1 d hl hn hl' (fun ls' hl2 => kk H locs ls' hW hS hl2)
theorem z_astore_n {k : Fin 4} {i : Nat} {x : Nat} (C : zC p s m args meth c cc nL own Ts D cl tys B) (d : decode cc pc = .ok (.astore_n k, 1)) (hi : (k : Nat) = i) (hn : i < nL) (hl' : (i, Value.ref x) :: lv.filter (fun q => !(q.1 == i) && !(q.1 + 1 == i && q.2.category == 2)) = lv') (kk : zG p l e R s m args below meth c Q D cl B nL N ad cw cells slots lv' (pc + 1) st) : zG p l e R s m args below meth c Q D cl B nL N ad cw cells slots lv pc (.ref x :: st) := fun H locs ls hW hS hl => lv_astore_n C.1 C.2.1 d hi hl hn hl' (fun ls' hl2 => kk H locs ls' hW hS hl2)
theorem z_astore {i : Nat} {x : Nat} (C : zC p s m args meth c cc nL own Ts D cl tys B) (d : decode cc pc = .ok (.astore i, 2)) (hn : i < nL) (hl' : (i, Value.ref x) :: lv.filter (fun q => !(q.1 == i) && !(q.1 + 1 == i && q.2.category == 2)) = lv') (kk : zG p l e R s m args below meth c Q D cl B nL N ad cw cells slots lv' (pc + 2) st) : zG p l e R s m args below meth c Q D cl B nL N ad cw cells slots lv pc (.ref x :: st) := fun H locs ls hW hS hl => lv_astore C.1 C.2.1 d hl hn hl' (fun ls' hl2 => kk H locs ls' hW hS hl2)
theorem z_iinc {i : Nat} {n : Int} {x x0 : Int32} (C : zC p s m args meth c cc nL own Ts D cl tys B) (d : decode cc pc = .ok (.iinc i n, 3)) (j : Nat) (h : lv[j]? = some (i, .int x0)) (hv : x0 + Int32.ofInt n = x) (hn : i < nL) (hl' : (i, Value.int x) :: lv.filter (fun q => !(q.1 == i) && !(q.1 + 1 == i && q.2.category == 2)) = lv') (kk : zG p l e R s m args below meth c Q D cl B nL N ad cw cells slots lv' (pc + 3) st) : zG p l e R s m args below meth c Q D cl B nL N ad cw cells slots lv pc st := fun H locs ls hW hS hl => lv_iinc C.1 C.2.1 d hl h hv hn hl' (fun ls' hl2 => kk H locs ls' hW hS hl2)
theorem z_iadd {x y : Int32} (C : zC p s m args meth c cc nL own Ts D cl tys B) (d : decode cc pc = .ok (.iadd, 1))  (kk : zG p l e R s m args below meth c Q D cl B nL N ad cw cells slots lv (pc + 1) (.int (x + y) :: st)) : zG p l e R s m args below meth c Q D cl B nL N ad cw cells slots lv pc (.int y :: .int x :: st) := fun H locs ls hW hS hl => lv_iadd C.1 C.2.1  d  (kk H locs ls hW hS hl)
theorem z_isub {x y : Int32} (C : zC p s m args meth c cc nL own Ts D cl tys B) (d : decode cc pc = .ok (.isub, 1))  (kk : zG p l e R s m args below meth c Q D cl B nL N ad cw cells slots lv (pc + 1) (.int (x - y) :: st)) : zG p l e R s m args below meth c Q D cl B nL N ad cw cells slots lv pc (.int y :: .int x :: st) := fun H locs ls hW hS hl => lv_isub C.1 C.2.1  d  (kk H locs ls hW hS hl)
theorem z_imul {x y : Int32} (C : zC p s m args meth c cc nL own Ts D cl tys B) (d : decode cc pc = .ok (.imul, 1))  (kk : zG p l e R s m args below meth c Q D cl B nL N ad cw cells slots lv (pc + 1) (.int (x * y) :: st)) : zG p l e R s m args below meth c Q D cl B nL N ad cw cells slots lv pc (.int y :: .int x :: st) := fun H locs ls hW hS hl => lv_imul C.1 C.2.1  d  (kk H locs ls hW hS hl)
theorem z_iand {x y : Int32} (C : zC p s m args meth c cc nL own Ts D cl tys B) (d : decode cc pc = .ok (.iand, 1))  (kk : zG p l e R s m args below meth c Q D cl B nL N ad cw cells slots lv (pc + 1) (.int (x &&& y) :: st)) : zG p l e R s m args below meth c Q D cl B nL N ad cw cells slots lv pc (.int y :: .int x :: st) := fun H locs ls hW hS hl => lv_iand C.1 C.2.1  d  (kk H locs ls hW hS hl)
theorem z_idiv {x y : Int32} (C : zC p s m args meth c cc nL own Ts D cl tys B) (d : decode cc pc = .ok (.idiv, 1)) (hne : ¬ y = 0) (kk : zG p l e R s m args below meth c Q D cl B nL N ad cw cells slots lv (pc + 1) (.int (x / y) :: st)) : zG p l e R s m args below meth c Q D cl B nL N ad cw cells slots lv pc (.int y :: .int x :: st) := fun H locs ls hW hS hl => lv_idiv C.1 C.2.1  d hne (kk H locs ls hW hS hl)
theorem z_irem {x y : Int32} (C : zC p s m args meth c cc nL own Ts D cl tys B) (d : decode cc pc = .ok (.irem, 1)) (hne : ¬ y = 0) (kk : zG p l e R s m args below meth c Q D cl B nL N ad cw cells slots lv (pc + 1) (.int (x - x / y * y) :: st)) : zG p l e R s m args below meth c Q D cl B nL N ad cw cells slots lv pc (.int y :: .int x :: st) := fun H locs ls hW hS hl => lv_irem C.1 C.2.1  d hne (kk H locs ls hW hS hl)
theorem z_dup {va : Value} (C : zC p s m args meth c cc nL own Ts D cl tys B) (d : decode cc pc = .ok (.dup, 1)) (hva : va.category = 1) (kk : zG p l e R s m args below meth c Q D cl B nL N ad cw cells slots lv (pc + 1) (va :: va :: st)) : zG p l e R s m args below meth c Q D cl B nL N ad cw cells slots lv pc (va :: st) := fun H locs ls hW hS hl => lv_dup C.1 C.2.1  d hva (kk H locs ls hW hS hl)
theorem z_pop {va : Value} (C : zC p s m args meth c cc nL own Ts D cl tys B) (d : decode cc pc = .ok (.pop, 1)) (hva : va.category = 1) (kk : zG p l e R s m args below meth c Q D cl B nL N ad cw cells slots lv (pc + 1) st) : zG p l e R s m args below meth c Q D cl B nL N ad cw cells slots lv pc (va :: st) := fun H locs ls hW hS hl => lv_pop C.1 C.2.1  d hva (kk H locs ls hW hS hl)
theorem z_i2l {x : Int32} {v : Int64} (C : zC p s m args meth c cc nL own Ts D cl tys B) (d : decode cc pc = .ok (.i2l, 1)) (hv : x.toInt64 = v) (kk : zG p l e R s m args below meth c Q D cl B nL N ad cw cells slots lv (pc + 1) (.long v :: st)) : zG p l e R s m args below meth c Q D cl B nL N ad cw cells slots lv pc (.int x :: st) := fun H locs ls hW hS hl => lv_i2l C.1 C.2.1  d hv (kk H locs ls hW hS hl)
theorem z_if_eq {x : Int32} {off : Int} {tgt : Nat} (C : zC p s m args meth c cc nL own Ts D cl tys B) (d : decode cc pc = .ok (.ifCond .eq off, 3)) (ht : (pc : Int) + off = (tgt : Int)) (kt : x = 0 → zG p l e R s m args below meth c Q D cl B nL N ad cw cells slots lv tgt st) (kf : ¬ (x = 0) → zG p l e R s m args below meth c Q D cl B nL N ad cw cells slots lv (pc + 3) st) : zG p l e R s m args below meth c Q D cl B nL N ad cw cells slots lv pc (.int x :: st) := fun H locs ls hW hS hl => lv_if_eq C.1 C.2.1 d ht (fun h => kt h H locs ls hW hS hl) (fun h => kf h H locs ls hW hS hl)
theorem z_icmp_eq {x y : Int32} {off : Int} {tgt : Nat} (C : zC p s m args meth c cc nL own Ts D cl tys B) (d : decode cc pc = .ok (.if_icmp .eq off, 3)) (ht : (pc : Int) + off = (tgt : Int)) (kt : x = y → zG p l e R s m args below meth c Q D cl B nL N ad cw cells slots lv tgt st) (kf : ¬ (x = y) → zG p l e R s m args below meth c Q D cl B nL N ad cw cells slots lv (pc + 3) st) : zG p l e R s m args below meth c Q D cl B nL N ad cw cells slots lv pc (.int y :: .int x :: st) := fun H locs ls hW hS hl => lv_icmp_eq C.1 C.2.1 d ht (fun h => kt h H locs ls hW hS hl) (fun h => kf h H locs ls hW hS hl)
theorem z_if_ne {x : Int32} {off : Int} {tgt : Nat} (C : zC p s m args meth c cc nL own Ts D cl tys B) (d : decode cc pc = .ok (.ifCond .ne off, 3)) (ht : (pc : Int) + off = (tgt : Int)) (kt : ¬ x = 0 → zG p l e R s m args below meth c Q D cl B nL N ad cw cells slots lv tgt st) (kf : x = 0 → zG p l e R s m args below meth c Q D cl B nL N ad cw cells slots lv (pc + 3) st) : zG p l e R s m args below meth c Q D cl B nL N ad cw cells slots lv pc (.int x :: st) := fun H locs ls hW hS hl => lv_if_ne C.1 C.2.1 d ht (fun h => kt h H locs ls hW hS hl) (fun h => kf h H locs ls hW hS hl)
theorem z_icmp_ne {x y : Int32} {off : Int} {tgt : Nat} (C : zC p s m args meth c cc nL own Ts D cl tys B) (d : decode cc pc = .ok (.if_icmp .ne off, 3)) (ht : (pc : Int) + off = (tgt : Int)) (kt : ¬ x = y → zG p l e R s m args below meth c Q D cl B nL N ad cw cells slots lv tgt st) (kf : x = y → zG p l e R s m args below meth c Q D cl B nL N ad cw cells slots lv (pc + 3) st) : zG p l e R s m args below meth c Q D cl B nL N ad cw cells slots lv pc (.int y :: .int x :: st) := fun H locs ls hW hS hl => lv_icmp_ne C.1 C.2.1 d ht (fun h => kt h H locs ls hW hS hl) (fun h => kf h H locs ls hW hS hl)
theorem z_if_lt {x : Int32} {off : Int} {tgt : Nat} (C : zC p s m args meth c cc nL own Ts D cl tys B) (d : decode cc pc = .ok (.ifCond .lt off, 3)) (ht : (pc : Int) + off = (tgt : Int)) (kt : x < 0 → zG p l e R s m args below meth c Q D cl B nL N ad cw cells slots lv tgt st) (kf : ¬ (x < 0) → zG p l e R s m args below meth c Q D cl B nL N ad cw cells slots lv (pc + 3) st) : zG p l e R s m args below meth c Q D cl B nL N ad cw cells slots lv pc (.int x :: st) := fun H locs ls hW hS hl => lv_if_lt C.1 C.2.1 d ht (fun h => kt h H locs ls hW hS hl) (fun h => kf h H locs ls hW hS hl)
theorem z_icmp_lt {x y : Int32} {off : Int} {tgt : Nat} (C : zC p s m args meth c cc nL own Ts D cl tys B) (d : decode cc pc = .ok (.if_icmp .lt off, 3)) (ht : (pc : Int) + off = (tgt : Int)) (kt : x < y → zG p l e R s m args below meth c Q D cl B nL N ad cw cells slots lv tgt st) (kf : ¬ (x < y) → zG p l e R s m args below meth c Q D cl B nL N ad cw cells slots lv (pc + 3) st) : zG p l e R s m args below meth c Q D cl B nL N ad cw cells slots lv pc (.int y :: .int x :: st) := fun H locs ls hW hS hl => lv_icmp_lt C.1 C.2.1 d ht (fun h => kt h H locs ls hW hS hl) (fun h => kf h H locs ls hW hS hl)
theorem z_if_ge {x : Int32} {off : Int} {tgt : Nat} (C : zC p s m args meth c cc nL own Ts D cl tys B) (d : decode cc pc = .ok (.ifCond .ge off, 3)) (ht : (pc : Int) + off = (tgt : Int)) (kt : 0 ≤ x → zG p l e R s m args below meth c Q D cl B nL N ad cw cells slots lv tgt st) (kf : ¬ (0 ≤ x) → zG p l e R s m args below meth c Q D cl B nL N ad cw cells slots lv (pc + 3) st) : zG p l e R s m args below meth c Q D cl B nL N ad cw cells slots lv pc (.int x :: st) := fun H locs ls hW hS hl => lv_if_ge C.1 C.2.1 d ht (fun h => kt h H locs ls hW hS hl) (fun h => kf h H locs ls hW hS hl)
theorem z_icmp_ge {x y : Int32} {off : Int} {tgt : Nat} (C : zC p s m args meth c cc nL own Ts D cl tys B) (d : decode cc pc = .ok (.if_icmp .ge off, 3)) (ht : (pc : Int) + off = (tgt : Int)) (kt : y ≤ x → zG p l e R s m args below meth c Q D cl B nL N ad cw cells slots lv tgt st) (kf : ¬ (y ≤ x) → zG p l e R s m args below meth c Q D cl B nL N ad cw cells slots lv (pc + 3) st) : zG p l e R s m args below meth c Q D cl B nL N ad cw cells slots lv pc (.int y :: .int x :: st) := fun H locs ls hW hS hl => lv_icmp_ge C.1 C.2.1 d ht (fun h => kt h H locs ls hW hS hl) (fun h => kf h H locs ls hW hS hl)
theorem z_if_gt {x : Int32} {off : Int} {tgt : Nat} (C : zC p s m args meth c cc nL own Ts D cl tys B) (d : decode cc pc = .ok (.ifCond .gt off, 3)) (ht : (pc : Int) + off = (tgt : Int)) (kt : 0 < x → zG p l e R s m args below meth c Q D cl B nL N ad cw cells slots lv tgt st) (kf : ¬ (0 < x) → zG p l e R s m args below meth c Q D cl B nL N ad cw cells slots lv (pc + 3) st) : zG p l e R s m args below meth c Q D cl B nL N ad cw cells slots lv pc (.int x :: st) := fun H locs ls hW hS hl => lv_if_gt C.1 C.2.1 d ht (fun h => kt h H locs ls hW hS hl) (fun h => kf h H locs ls hW hS hl)
theorem z_icmp_gt {x y : Int32} {off : Int} {tgt : Nat} (C : zC p s m args meth c cc nL own Ts D cl tys B) (d : decode cc pc = .ok (.if_icmp .gt off, 3)) (ht : (pc : Int) + off = (tgt : Int)) (kt : y < x → zG p l e R s m args below meth c Q D cl B nL N ad cw cells slots lv tgt st) (kf : ¬ (y < x) → zG p l e R s m args below meth c Q D cl B nL N ad cw cells slots lv (pc + 3) st) : zG p l e R s m args below meth c Q D cl B nL N ad cw cells slots lv pc (.int y :: .int x :: st) := fun H locs ls hW hS hl => lv_icmp_gt C.1 C.2.1 d ht (fun h => kt h H locs ls hW hS hl) (fun h => kf h H locs ls hW hS hl)
theorem z_if_le {x : Int32} {off : Int} {tgt : Nat} (C : zC p s m args meth c cc nL own Ts D cl tys B) (d : decode cc pc = .ok (.ifCond .le off, 3)) (ht : (pc : Int) + off = (tgt : Int)) (kt : x ≤ 0 → zG p l e R s m args below meth c Q D cl B nL N ad cw cells slots lv tgt st) (kf : ¬ (x ≤ 0) → zG p l e R s m args below meth c Q D cl B nL N ad cw cells slots lv (pc + 3) st) : zG p l e R s m args below meth c Q D cl B nL N ad cw cells slots lv pc (.int x :: st) := fun H locs ls hW hS hl => lv_if_le C.1 C.2.1 d ht (fun h => kt h H locs ls hW hS hl) (fun h => kf h H locs ls hW hS hl)
theorem z_icmp_le {x y : Int32} {off : Int} {tgt : Nat} (C : zC p s m args meth c cc nL own Ts D cl tys B) (d : decode cc pc = .ok (.if_icmp .le off, 3)) (ht : (pc : Int) + off = (tgt : Int)) (kt : x ≤ y → zG p l e R s m args below meth c Q D cl B nL N ad cw cells slots lv tgt st) (kf : ¬ (x ≤ y) → zG p l e R s m args below meth c Q D cl B nL N ad cw cells slots lv (pc + 3) st) : zG p l e R s m args below meth c Q D cl B nL N ad cw cells slots lv pc (.int y :: .int x :: st) := fun H locs ls hW hS hl => lv_icmp_le C.1 C.2.1 d ht (fun h => kt h H locs ls hW hS hl) (fun h => kf h H locs ls hW hS hl)
theorem z_goto {off : Int} {tgt : Nat} (C : zC p s m args meth c cc nL own Ts D cl tys B) (d : decode cc pc = .ok (.goto off, 3)) (ht : (pc : Int) + off = (tgt : Int)) (kk : zG p l e R s m args below meth c Q D cl B nL N ad cw cells slots lv tgt st) : zG p l e R s m args below meth c Q D cl B nL N ad cw cells slots lv pc st := fun H locs ls hW hS hl => lv_goto C.1 C.2.1 d ht (kk H locs ls hW hS hl)
theorem z_top {x y : Int32} (h : x = y) (kk : zG p l e R s m args below meth c Q D cl B nL N ad cw cells slots lv pc (.int y :: st)) : zG p l e R s m args below meth c Q D cl B nL N ad cw cells slots lv pc (.int x :: st) := by rw [h]; exact kk
theorem z_lv {lv' : List (Nat × Value)} (ks : List Nat) (h : lv_pick lv ks = lv') (kk : zG p l e R s m args below meth c Q D cl B nL N ad cw cells slots lv' pc st) : zG p l e R s m args below meth c Q D cl B nL N ad cw cells slots lv pc st := fun H locs ls hW hS hl => kk H locs ls hW hS (lv_sub hl ks h)
theorem z_cw {cw' : Nat → va_E} (h : cw = cw') (kk : zG p l e R s m args below meth c Q D cl B nL N ad cw' cells slots lv pc st) : zG p l e R s m args below meth c Q D cl B nL N ad cw cells slots lv pc st := by rw [h]; exact kk
theorem z_widen {k n : Nat} (h1 : cells ≤ k) (h2 : slots ≤ n) (kk : zG p l e R s m args below meth c Q D cl B nL N ad cw k n lv pc st) : zG p l e R s m args below meth c Q D cl B nL N ad cw cells slots lv pc st := fun H locs ls hW hS hl => W.widen h1 h2 (kk H locs ls hW hS hl)
theorem z_ldc {index : Nat} {v : Int32} (C : zC p s m args meth c cc nL own Ts D cl tys B) (hc : (Jvm.Cond.constant own index v).before args s = true) (d : decode cc pc = .ok (.ldc index, 2)) (kk : zG p l e R s m args below meth c Q D cl B nL N ad cw cells slots lv (pc + 2) (.int v :: st)) : zG p l e R s m args below meth c Q D cl B nL N ad cw cells slots lv pc st := fun H locs ls hW hS hl => lv_ldc C.1 C.2.1 C.2.2.2.1 hc d (kk H locs ls hW hS hl)
theorem z_get {ref Cn : String} {T : u_T} {NF ci index : Nat} {fs : List Value} {v : Value} (C : zC p s m args meth c cc nL own Ts D cl tys B) (hin : ∀ w ∈ u_ws Cn T NF, w ∈ Ts) (hc : cl[ci]? = some (Cn, T, NF)) (k : Nat) (hk : k < NF) (hlink : (Cond.fieldLink own index ref (T k).2.1 (T k).2.2.1).before args s = true) (hsame : ∀ x, s.fieldFound? (T k).1 (T k).2.1 (T k).2.2.1 = some x → s.fieldFound? ref (T k).2.1 (T k).2.2.1 = some x) (d : decode cc pc = .ok (.getfield index, 3)) (i : Nat) (hi : i < N) (he : cw i = .inr (ci, fs)) (hv : fs[k]? = some v) (kk : zG p l e R s m args below meth c Q D cl B nL N ad cw cells slots lv (pc + 3) (v :: st)) : zG p l e R s m args below meth c Q D cl B nL N ad cw cells slots lv pc (.ref (ad i) :: st) := fun H locs ls hW hS hl => va_get C.1 C.2.1 C.2.2.2.2.1 hin C.2.2.2.1 C.2.2.2.2.2.1 hW.1 i (zW_at hi he) hc k hk hlink hsame hv d (kk H locs ls hW hS hl)
theorem z_getN {host : String} {ref Cn : String} {T : u_T} {NF ci index : Nat} {fs : List Value} {v : Value} (C : zC p s m args meth c cc nL own Ts D cl tys B) (hin : ∀ w ∈ u_ws Cn T NF, w ∈ Ts) (hc : cl[ci]? = some (Cn, T, NF)) (k : Nat) (hk : k < NF) (hlink : (Cond.fieldLinkNest own index ref (T k).2.1 (T k).2.2.1 host).before args s = true) (hsame : ∀ x, s.fieldFound? (T k).1 (T k).2.1 (T k).2.2.1 = some x → s.fieldFound? ref (T k).2.1 (T k).2.2.1 = some x) (d : decode cc pc = .ok (.getfield index, 3)) (i : Nat) (hi : i < N) (he : cw i = .inr (ci, fs)) (hv : fs[k]? = some v) (kk : zG p l e R s m args below meth c Q D cl B nL N ad cw cells slots lv (pc + 3) (v :: st)) : zG p l e R s m args below meth c Q D cl B nL N ad cw cells slots lv pc (.ref (ad i) :: st) := fun H locs ls hW hS hl => va_getN C.1 C.2.1 C.2.2.2.2.1 hin C.2.2.2.1 C.2.2.2.2.2.1 hW.1 i (zW_at hi he) hc k hk hlink hsame hv d (kk H locs ls hW hS hl)
theorem z_put {ref Cn : String} {T : u_T} {NF ci index : Nat} {fs : List Value} {ty : FieldType} {v : Value} (C : zC p s m args meth c cc nL own Ts D cl tys B) (hin : ∀ w ∈ u_ws Cn T NF, w ∈ Ts) {ty0 : Nat → FieldType} (hty : ∀ k, k < NF → parseFieldDescriptor (T k).2.2.1 = some (ty0 k)) (hnm : ∀ a, a < NF → ∀ b, b < NF → a ≠ b → (T a).2.1 ≠ (T b).2.1) (hc : cl[ci]? = some (Cn, T, NF)) (k : Nat) (hk : k < NF) (hlink : (Cond.fieldLink own index ref (T k).2.1 (T k).2.2.1).before args s = true) (hsame : ∀ x, s.fieldFound? (T k).1 (T k).2.1 (T k).2.2.1 = some x → s.fieldFound? ref (T k).2.1 (T k).2.2.1 = some x) (hfin : (T k).2.2.2 = false) (hd : parseFieldDescriptor (T k).2.2.1 = some ty) (d : decode cc pc = .ok (.putfield index, 3)) (i : Nat) (hi : i < N) (he : cw i = .inr (ci, fs)) (hn : narrow ty v = v) (hfit : fits ty v = true) (hln : k < fs.length) (kk : zG p l e R s m args below meth c Q D cl B nL N ad (va_up cw i (.inr (ci, fs.set k v))) cells slots lv (pc + 3) st) : zG p l e R s m args below meth c Q D cl B nL N ad cw cells slots lv pc (v :: .ref (ad i) :: st) := fun H locs ls hW hS hl => va_put C.1 C.2.1 C.2.2.2.2.1 hin ty0 hty hnm C.2.2.2.1 C.2.2.2.2.2.1 hW.1 hW.2 hS i (zW_at hi he) hc k hk hlink hsame hfin hd hn hfit hln d (fun H1 locs1 hP hD hS1 => kk H1 locs1 ls ⟨by rw [← zW_set hi]; exact hP, by rw [← zW_set hi]; exact hD⟩ hS1 hl)
theorem z_putN {host : String} {ref Cn : String} {T : u_T} {NF ci index : Nat} {fs : List Value} {ty : FieldType} {v : Value} (C : zC p s m args meth c cc nL own Ts D cl tys B) (hin : ∀ w ∈ u_ws Cn T NF, w ∈ Ts) {ty0 : Nat → FieldType} (hty : ∀ k, k < NF → parseFieldDescriptor (T k).2.2.1 = some (ty0 k)) (hnm : ∀ a, a < NF → ∀ b, b < NF → a ≠ b → (T a).2.1 ≠ (T b).2.1) (hc : cl[ci]? = some (Cn, T, NF)) (k : Nat) (hk : k < NF) (hlink : (Cond.fieldLinkNest own index ref (T k).2.1 (T k).2.2.1 host).before args s = true) (hsame : ∀ x, s.fieldFound? (T k).1 (T k).2.1 (T k).2.2.1 = some x → s.fieldFound? ref (T k).2.1 (T k).2.2.1 = some x) (hfin : (T k).2.2.2 = false) (hd : parseFieldDescriptor (T k).2.2.1 = some ty) (d : decode cc pc = .ok (.putfield index, 3)) (i : Nat) (hi : i < N) (he : cw i = .inr (ci, fs)) (hn : narrow ty v = v) (hfit : fits ty v = true) (hln : k < fs.length) (kk : zG p l e R s m args below meth c Q D cl B nL N ad (va_up cw i (.inr (ci, fs.set k v))) cells slots lv (pc + 3) st) : zG p l e R s m args below meth c Q D cl B nL N ad cw cells slots lv pc (v :: .ref (ad i) :: st) := fun H locs ls hW hS hl => va_putN C.1 C.2.1 C.2.2.2.2.1 hin ty0 hty hnm C.2.2.2.1 C.2.2.2.2.2.1 hW.1 hW.2 hS i (zW_at hi he) hc k hk hlink hsame hfin hd hn hfit hln d (fun H1 locs1 hP hD hS1 => kk H1 locs1 ls ⟨by rw [← zW_set hi]; exact hP, by rw [← zW_set hi]; exact hD⟩ hS1 hl)
theorem z_putF {ref Cn : String} {T : u_T} {NF ci index : Nat} {fs : List Value} {ty : FieldType} {v : Value} (C : zC p s m args meth c cc nL own Ts D cl tys B) (hin : ∀ w ∈ u_ws Cn T NF, w ∈ Ts) {ty0 : Nat → FieldType} (hty : ∀ k, k < NF → parseFieldDescriptor (T k).2.2.1 = some (ty0 k)) (hnm : ∀ a, a < NF → ∀ b, b < NF → a ≠ b → (T a).2.1 ≠ (T b).2.1) (hc : cl[ci]? = some (Cn, T, NF)) (k : Nat) (hk : k < NF) (hlink : (Cond.fieldLink own index ref (T k).2.1 (T k).2.2.1).before args s = true) (hsame : ∀ x, s.fieldFound? (T k).1 (T k).2.1 (T k).2.2.1 = some x → s.fieldFound? ref (T k).2.1 (T k).2.2.1 = some x) (hfin : (T k).2.2.2 = true) (hin2 : meth.name = "<init>") (hdecl : (T k).1 = own) (hd : parseFieldDescriptor (T k).2.2.1 = some ty) (d : decode cc pc = .ok (.putfield index, 3)) (i : Nat) (hi : i < N) (he : cw i = .inr (ci, fs)) (hn : narrow ty v = v) (hfit : fits ty v = true) (hln : k < fs.length) (kk : zG p l e R s m args below meth c Q D cl B nL N ad (va_up cw i (.inr (ci, fs.set k v))) cells slots lv (pc + 3) st) : zG p l e R s m args below meth c Q D cl B nL N ad cw cells slots lv pc (v :: .ref (ad i) :: st) := fun H locs ls hW hS hl => va_putF C.1 C.2.1 C.2.2.2.2.1 hin ty0 hty hnm C.2.2.2.1 C.2.2.2.2.2.1 hW.1 hW.2 hS i (zW_at hi he) hc k hk hlink hsame hfin hin2 hdecl hd hn hfit hln d (fun H1 locs1 hP hD hS1 => kk H1 locs1 ls ⟨by rw [← zW_set hi]; exact hP, by rw [← zW_set hi]; exact hD⟩ hS1 hl)
theorem z_iald {cA : ClassId} {n : Nat} {f : Nat → Int32} {i : Int32} (C : zC p s m args meth c cc nL own Ts D cl tys B) (t0 : Nat) (ht : tys[t0]? = some (cA, .int)) (d : decode cc pc = .ok (.iaload, 1)) (k : Nat) (hk : k < N) (he : cw k = .inl (cA, n, .inl f)) (j : Nat) (hj : i = nI j) (hjn : j < n) (hn : n < 2 ^ 31) (kk : zG p l e R s m args below meth c Q D cl B nL N ad cw cells slots lv (pc + 1) (.int (f j) :: st)) : zG p l e R s m args below meth c Q D cl B nL N ad cw cells slots lv pc (.int i :: .ref (ad k) :: st) := fun H locs ls hW hS hl => va_iald C.1 C.2.1 C.2.2.2.2.2.1 hW.1 k t0 (zW_at hk he) ht (by rw [hj]; exact vp_in_nI hjn hn) d (by rw [hj, nI_clamp (Nat.lt_trans hjn hn)]; exact kk H locs ls hW hS hl)
theorem z_iast {cA : ClassId} {n : Nat} {f : Nat → Int32} {i x : Int32} (C : zC p s m args meth c cc nL own Ts D cl tys B) (t0 : Nat) (ht : tys[t0]? = some (cA, .int)) (d : decode cc pc = .ok (.iastore, 1)) (k : Nat) (hk : k < N) (he : cw k = .inl (cA, n, .inl f)) (j : Nat) (hj : i = nI j) (hjn : j < n) (hn : n < 2 ^ 31) (kk : zG p l e R s m args below meth c Q D cl B nL N ad (va_up cw k (.inl (cA, n, .inl (upd f j x)))) cells slots lv (pc + 1) st) : zG p l e R s m args below meth c Q D cl B nL N ad cw cells slots lv pc (.int x :: .int i :: .ref (ad k) :: st) := fun H locs ls hW hS hl => va_iast C.1 C.2.1 C.2.2.2.2.2.1 hW.1 hW.2 hS k t0 (zW_at hk he) ht (by rw [hj]; exact vp_in_nI hjn hn) d (fun H1 locs1 hP hD hS1 => by rw [zW_set hk, hj, nI_clamp (Nat.lt_trans hjn hn)] at hP hD; exact kk H1 locs1 ls ⟨hP, hD⟩ hS1 hl)
theorem z_lald {cA : ClassId} {n : Nat} {f : Nat → Int64} {i : Int32} (C : zC p s m args meth c cc nL own Ts D cl tys B) (t0 : Nat) (ht : tys[t0]? = some (cA, .long)) (d : decode cc pc = .ok (.laload, 1)) (k : Nat) (hk : k < N) (he : cw k = .inl (cA, n, .inr (.inl f))) (j : Nat) (hj : i = nI j) (hjn : j < n) (hn : n < 2 ^ 31) (kk : zG p l e R s m args below meth c Q D cl B nL N ad cw cells slots lv (pc + 1) (.long (f j) :: st)) : zG p l e R s m args below meth c Q D cl B nL N ad cw cells slots lv pc (.int i :: .ref (ad k) :: st) := fun H locs ls hW hS hl => va_lald C.1 C.2.1 C.2.2.2.2.2.1 hW.1 k t0 (zW_at hk he) ht (by rw [hj]; exact vp_in_nI hjn hn) d (by rw [hj, nI_clamp (Nat.lt_trans hjn hn)]; exact kk H locs ls hW hS hl)
theorem z_last {cA : ClassId} {n : Nat} {f : Nat → Int64} {i : Int32} {x : Int64} (C : zC p s m args meth c cc nL own Ts D cl tys B) (t0 : Nat) (ht : tys[t0]? = some (cA, .long)) (d : decode cc pc = .ok (.lastore, 1)) (k : Nat) (hk : k < N) (he : cw k = .inl (cA, n, .inr (.inl f))) (j : Nat) (hj : i = nI j) (hjn : j < n) (hn : n < 2 ^ 31) (kk : zG p l e R s m args below meth c Q D cl B nL N ad (va_up cw k (.inl (cA, n, .inr (.inl (vp_updL f j x))))) cells slots lv (pc + 1) st) : zG p l e R s m args below meth c Q D cl B nL N ad cw cells slots lv pc (.long x :: .int i :: .ref (ad k) :: st) := fun H locs ls hW hS hl => va_last C.1 C.2.1 C.2.2.2.2.2.1 hW.1 hW.2 hS k t0 (zW_at hk he) ht (by rw [hj]; exact vp_in_nI hjn hn) d (fun H1 locs1 hP hD hS1 => by rw [zW_set hk, hj, nI_clamp (Nat.lt_trans hjn hn)] at hP hD; exact kk H1 locs1 ls ⟨hP, hD⟩ hS1 hl)
theorem z_aald {cA : ClassId} {Cn : String} {n : Nat} {f : Nat → Option Nat} {i : Int32} (C : zC p s m args meth c cc nL own Ts D cl tys B) (t0 : Nat) (ht : tys[t0]? = some (cA, .object Cn)) (d : decode cc pc = .ok (.aaload, 1)) (k : Nat) (hk : k < N) (he : cw k = .inl (cA, n, .inr (.inr (.inr (.inr f))))) (j : Nat) (hj : i = nI j) (hjn : j < n) (hn : n < 2 ^ 31) {a : Nat} (hf : f j = some a) (kk : zG p l e R s m args below meth c Q D cl B nL N ad cw cells slots lv (pc + 1) (.ref a :: st)) : zG p l e R s m args below meth c Q D cl B nL N ad cw cells slots lv pc (.int i :: .ref (ad k) :: st) := fun H locs ls hW hS hl => va_aldq C.1 C.2.1 C.2.2.2.2.2.1 hW.1 k t0 (zW_at hk he) ht (by rw [hj]; exact vp_in_nI hjn hn) d (by rw [hj, nI_clamp (Nat.lt_trans hjn hn), hf]; exact kk H locs ls hW hS hl)
theorem z_aast {cA : ClassId} {r : vw_C} {n kv ci : Nat} {vs : List Value} {f : Nat → Option Nat} {i : Int32} (C : zC p s m args meth c cc nL own Ts D cl tys B) (t0 : Nat) (ht : tys[t0]? = some (cA, .object r.1)) (hc : cl[ci]? = some r) (d : decode cc pc = .ok (.aastore, 1)) (k : Nat) (hk : k < N) (he : cw k = .inl (cA, n, .inr (.inr (.inr (.inr f))))) (hkv : kv < N) (hev : cw kv = .inr (ci, vs)) (j : Nat) (hj : i = nI j) (hjn : j < n) (hn : n < 2 ^ 31) (kk : zG p l e R s m args below meth c Q D cl B nL N ad (va_up cw k (.inl (cA, n, .inr (.inr (.inr (.inr (va_up f j (some (ad kv))))))))) cells slots lv (pc + 1) st) : zG p l e R s m args below meth c Q D cl B nL N ad cw cells slots lv pc (.ref (ad kv) :: .int i :: .ref (ad k) :: st) := fun H locs ls hW hS hl => va_astq C.1 C.2.1 C.2.2.2.2.2.1 hW.1 hW.2 hS k t0 kv ci (zW_at hk he) ht (zW_at hkv hev) hc (by rw [hj]; exact vp_in_nI hjn hn) d (fun H1 locs1 hP hD hS1 => by rw [zW_set hk, hj, nI_clamp (Nat.lt_trans hjn hn)] at hP hD; exact kk H1 locs1 ls ⟨hP, hD⟩ hS1 hl)
theorem z_alen {cA : ClassId} {x : vp_A} {ty : FieldType} {v : Int32} (C : zC p s m args meth c cc nL own Ts D cl tys B) (t0 : Nat) (ht : tys[t0]? = some (cA, ty)) (d : decode cc pc = .ok (.arraylength, 1)) (k : Nat) (hk : k < N) (he : cw k = .inl (cA, x)) (hv : Int32.ofNat x.1 = v) (kk : zG p l e R s m args below meth c Q D cl B nL N ad cw cells slots lv (pc + 1) (.int v :: st)) : zG p l e R s m args below meth c Q D cl B nL N ad cw cells slots lv pc (.ref (ad k) :: st) := fun H locs ls hW hS hl => va_alen C.1 C.2.1 C.2.2.2.2.2.1 hW.1 k t0 (zW_at hk he) ht hv d (kk H locs ls hW hS hl)
end Z1
section Z2
variable {p : Program} {l : Launch} {e : Env} {R : Room} {s : State} {m : MethodId} {args : Array Value} {below : List Frame} {meth : Method} {c : Code} {cells slots : Nat} {Q : State → Prop}
variable {D : va_G} {cl : List vw_C} {tys : List (ClassId × FieldType)} {B N nL : Nat} {ad : Nat → Nat} {cw : Nat → va_E} {lv : List (Nat × Value)} {pc : Nat} {st : List Value} {cc : ByteArray} {own : String} {Ts : List Cond}
theorem zI_at {H : Heap} {locs : List Loc} {t : State} (C : zC p s m args meth c cc nL own Ts D cl tys B) (hW : zH D cl B N ad cw H) (hS : va_S (zA B) s.heap H locs) (ht : t.heap = H) (hWm : s.WarmedH t.vm) : zI D cl tys B N ad cw t :=
  ⟨by rw [ht]; exact hW, va_K.moved hWm.alike C.2.2.2.2.2.1, by rw [ht]; exact Nat.le_trans C.2.2.2.2.2.2.2.1 hS.1, by rw [ht]; exact zE_warm hWm (zE_kept C.2.2.2.2.2.2.2.2 hS.2.1)⟩
theorem zI_blind {av : List Value} : FrameBlind (va_Pc av (zI D cl tys B N ad cw)) := fun a U g mk q =>
  ⟨q.1, q.2.1, va_K.moved (u := U) (U := U.calling g mk a) (Vm.Alike.refl U.vm) q.2.2.1, q.2.2.2.1, zE_warm (s := U) (U := U.calling g mk a) (State.WarmedH.refl U) q.2.2.2.2⟩
/-- a method's body, from its entry -/
theorem z_ofW {y : MethodName} {ws ws' : List Cond} {rm : Room} {Qc : Array Value → State → Outcome → State → Prop} {mc ms : Nat} {maxL : Nat} {ret : Option FieldType} {av : List Value} (hy : plainName y.cls = true) (hw : ws = Cond.code y cc maxL ret :: ws') (hav : (lg_sl av).length ≤ maxL)
    (body : ∀ p e s m args below meth c, zC p s m args meth c cc maxL y.cls ws D cl tys B → meth.sig.returnType = ret → meth.name = y.name → zG p l e (headSpec ws rm).room s m args below meth c (MQ below Qc args s mc ms (zA B)) D cl B maxL N ad cw 0 0 (lv_args 0 av) 0 []) :
    Met l y ws rm (va_Pc av (zI D cl tys B N ad cw)) Qc mc ms (zA B) := by
  refine Met.ofW hy hw ?_
  intro p e s m args below meth c s₁ Bd hml hv
  obtain ⟨rfl, hW, hK, hB, hE⟩ := hv
  rw [lg_entry_eq]
  exact body p e s m _ below meth c ⟨Bd.exec, Bd.bytes, hml, findClass_of_methodNamed Bd.named, atoms_spec (ws := ws) Bd.pre, hK, Bd.notSynchronized, hB, hE⟩ Bd.returns (name_of_methodNamed Bd.named Bd.method).1 s.heap [] _ hW va_S.rf (lv_entry av hav)
/-- .. of one that may throw -/
theorem z_ofX {y : MethodName} {ws ws' : List Cond} {rm : Room} {Qc : Array Value → State → Outcome → State → Prop} {XC : String → State → State → Prop} {mc ms : Nat} {maxL : Nat} {ret : Option FieldType} {av : List Value} (hy : plainName y.cls = true) (hw : ws = Cond.code y cc maxL ret :: ws') (hav : (lg_sl av).length ≤ maxL)
    (body : ∀ p e s m args below meth c, zC p s m args meth c cc maxL y.cls ws D cl tys B → meth.sig.returnType = ret → (∀ x ∈ c.exceptionTable.toList, False) → zG p l e (headSpec ws rm).room s m args below meth c (vx_MQ below Qc XC args s mc ms (zA B)) D cl B maxL N ad cw 0 0 (lv_args 0 av) 0 []) :
    vx_Met l y ws rm (va_Pc av (zI D cl tys B N ad cw)) Qc XC mc ms (zA B) := by
  refine vx_ofW hy hw ?_
  intro p e s m args below meth c s₁ Bd hml hx0 hv
  obtain ⟨rfl, hW, hK, hB, hE⟩ := hv
  rw [lg_entry_eq]
  exact body p e s m _ below meth c ⟨Bd.exec, Bd.bytes, hml, findClass_of_methodNamed Bd.named, atoms_spec (ws := ws) Bd.pre, hK, Bd.notSynchronized, hB, hE⟩ Bd.returns hx0 s.heap [] _ hW va_S.rf (lv_entry av hav)
/-- .. of one with handlers -/
theorem z_ofH {y : MethodName} {ws ws' : List Cond} {rm : Room} {Qc : Array Value → State → Outcome → State → Prop} {mc ms : Nat} {maxL : Nat} {ret : Option FieldType} {av : List Value} {hh : List (Nat × Nat × Nat × Nat)} (hy : plainName y.cls = true) (hw : ws = Cond.codeWith y cc maxL ret hh :: ws') (hav : (lg_sl av).length ≤ maxL)
    (body : ∀ p e s m args below meth c, zC p s m args meth c cc maxL y.cls ws D cl tys B → meth.sig.returnType = ret → c.exceptionTable.toList = tableOf hh → zG p l e (headSpec ws rm).room s m args below meth c (MQ below Qc args s mc ms (zA B)) D cl B maxL N ad cw 0 0 (lv_args 0 av) 0 []) :
    Met l y ws rm (va_Pc av (zI D cl tys B N ad cw)) Qc mc ms (zA B) := by
  refine va_MetW hy hw ?_
  intro p e s m args below meth c s₁ Bd hml hv
  obtain ⟨rfl, hW, hK, hB, hE⟩ := hv
  rw [lg_entry_eq]
  have hts := atoms_spec (ws := ws) Bd.pre
  exact body p e s m _ below meth c ⟨Bd.exec, Bd.bytes, hml, findClass_of_methodNamed Bd.named, hts, hK, Bd.notSynchronized, hB, hE⟩ Bd.returns (vx_table (x := y) Bd (hts _ (by rw [hw]; exact List.mem_cons_self))) s.heap [] _ hW va_S.rf (lv_entry av hav)
/-- contracts: an answer and a new world; none; a reference; with throws; a world that grows -/
abbrev zQi (D : va_G) (cl : List vw_C) (B N : Nat) (ad : Nat → Nat) (post : Int32 → (Nat → va_E) → Prop) : Array Value → State → Outcome → State → Prop := va_Qi post (fun cw' t => zH D cl B N ad cw' t.heap) (zA B)
abbrev zQv (D : va_G) (cl : List vw_C) (B N : Nat) (ad : Nat → Nat) (post : (Nat → va_E) → Prop) : Array Value → State → Outcome → State → Prop := va_Qv post (fun cw' t => zH D cl B N ad cw' t.heap) (zA B)
abbrev zQr (D : va_G) (cl : List vw_C) (B N : Nat) (ad : Nat → Nat) (post : Nat → (Nat → va_E) → Prop) : Array Value → State → Outcome → State → Prop := va_Qr (fun _ : Nat → va_E => True) (fun cw' a t => post a cw' ∧ zH D cl B N ad cw' t.heap) (zA B)
abbrev zQn (D : va_G) (cl : List vw_C) (B N N' : Nat) (ad : Nat → Nat) (post : (Nat → Nat) → (Nat → va_E) → Prop) : Array Value → State → Outcome → State → Prop := va_Qv (fun u : (Nat → Nat) × (Nat → va_E) => (∀ k, k < N → u.1 k = ad k) ∧ post u.1 u.2) (fun u t => zH D cl B N' u.1 u.2 t.heap) (zA B)
abbrev zXC (D : va_G) (cl : List vw_C) (B N : Nat) (ad : Nat → Nat) (cw : Nat → va_E) (xp : String → Prop) : String → State → State → Prop := vx_X (fun _ : Unit => True) (fun E _ t => xp E ∧ zH D cl B N ad cw t.heap) (zA B)
theorem z_iret {post : Int32 → (Nat → va_E) → Prop} {v : Int32} {mc ms : Nat} (C : zC p s m args meth c cc nL own Ts D cl tys B) (hr : meth.sig.returnType = some .int)  (d : decode cc pc = .ok (.ireturn, 1)) (hp : post v cw) (h1 : cells ≤ mc) (h2 : slots ≤ ms) : zG p l e R s m args below meth c (MQ below (zQi D cl B N ad post) args s mc ms (zA B)) D cl B nL N ad cw cells slots lv pc [.int v] := fun H locs ls hW hS hl => W.widen h1 h2 (W.iret (v := v) C.1 C.2.1 hr  (fun t ht hWm => ⟨⟨v, cw, rfl, hp, by show zH D cl B N ad cw t.heap; rw [ht]; exact hW⟩, hS.F ht⟩) hS.2.2 d C.2.2.2.2.2.2.1)
theorem z_xiret {post : Int32 → (Nat → va_E) → Prop} {v : Int32} {XC : String → State → State → Prop} {mc ms : Nat} (C : zC p s m args meth c cc nL own Ts D cl tys B) (hr : meth.sig.returnType = some .int)  (d : decode cc pc = .ok (.ireturn, 1)) (hp : post v cw) (h1 : cells ≤ mc) (h2 : slots ≤ ms) : zG p l e R s m args below meth c (vx_MQ below (zQi D cl B N ad post) XC args s mc ms (zA B)) D cl B nL N ad cw cells slots lv pc [.int v] := fun H locs ls hW hS hl => vx_ret (W.widen h1 h2 (W.iret (v := v) C.1 C.2.1 hr  (fun t ht hWm => ⟨⟨v, cw, rfl, hp, by show zH D cl B N ad cw t.heap; rw [ht]; exact hW⟩, hS.F ht⟩) hS.2.2 d C.2.2.2.2.2.2.1))
theorem z_zret {post : Int32 → (Nat → va_E) → Prop} {v : Int32} {ty : FieldType} {mc ms : Nat} (C : zC p s m args meth c cc nL own Ts D cl tys B) (hr : meth.sig.returnType = some ty) (hnr : narrow ty (.int v) = .int v) (d : decode cc pc = .ok (.ireturn, 1)) (hp : post v cw) (h1 : cells ≤ mc) (h2 : slots ≤ ms) : zG p l e R s m args below meth c (MQ below (zQi D cl B N ad post) args s mc ms (zA B)) D cl B nL N ad cw cells slots lv pc [.int v] := fun H locs ls hW hS hl => W.widen h1 h2 (W.zret (v := v) C.1 C.2.1 hr hnr (fun t ht hWm => ⟨⟨v, cw, rfl, hp, by show zH D cl B N ad cw t.heap; rw [ht]; exact hW⟩, hS.F ht⟩) hS.2.2 d C.2.2.2.2.2.2.1)
theorem z_xzret {post : Int32 → (Nat → va_E) → Prop} {v : Int32} {ty : FieldType} {XC : String → State → State → Prop} {mc ms : Nat} (C : zC p s m args meth c cc nL own Ts D cl tys B) (hr : meth.sig.returnType = some ty) (hnr : narrow ty (.int v) = .int v) (d : decode cc pc = .ok (.ireturn, 1)) (hp : post v cw) (h1 : cells ≤ mc) (h2 : slots ≤ ms) : zG p l e R s m args below meth c (vx_MQ below (zQi D cl B N ad post) XC args s mc ms (zA B)) D cl B nL N ad cw cells slots lv pc [.int v] := fun H locs ls hW hS hl => vx_ret (W.widen h1 h2 (W.zret (v := v) C.1 C.2.1 hr hnr (fun t ht hWm => ⟨⟨v, cw, rfl, hp, by show zH D cl B N ad cw t.heap; rw [ht]; exact hW⟩, hS.F ht⟩) hS.2.2 d C.2.2.2.2.2.2.1))
theorem z_vret {post : (Nat → va_E) → Prop}  {mc ms : Nat} (C : zC p s m args meth c cc nL own Ts D cl tys B) (hr : meth.sig.returnType = none)  (d : decode cc pc = .ok (.return_, 1)) (hp : post cw) (h1 : cells ≤ mc) (h2 : slots ≤ ms) : zG p l e R s m args below meth c (MQ below (zQv D cl B N ad post) args s mc ms (zA B)) D cl B nL N ad cw cells slots lv pc [] := fun H locs ls hW hS hl => W.widen h1 h2 (W.vret C.1 C.2.1 hr  (fun t ht hWm => ⟨⟨cw, rfl, hp, by show zH D cl B N ad cw t.heap; rw [ht]; exact hW⟩, hS.F ht⟩) hS.2.2 d C.2.2.2.2.2.2.1)
theorem z_xvret {post : (Nat → va_E) → Prop}  {XC : String → State → State → Prop} {mc ms : Nat} (C : zC p s m args meth c cc nL own Ts D cl tys B) (hr : meth.sig.returnType = none)  (d : decode cc pc = .ok (.return_, 1)) (hp : post cw) (h1 : cells ≤ mc) (h2 : slots ≤ ms) : zG p l e R s m args below meth c (vx_MQ below (zQv D cl B N ad post) XC args s mc ms (zA B)) D cl B nL N ad cw cells slots lv pc [] := fun H locs ls hW hS hl => vx_ret (W.widen h1 h2 (W.vret C.1 C.2.1 hr  (fun t ht hWm => ⟨⟨cw, rfl, hp, by show zH D cl B N ad cw t.heap; rw [ht]; exact hW⟩, hS.F ht⟩) hS.2.2 d C.2.2.2.2.2.2.1))
theorem z_aret {post : Nat → (Nat → va_E) → Prop} {a : Nat} {rt : FieldType} {mc ms : Nat} (C : zC p s m args meth c cc nL own Ts D cl tys B) (hr : meth.sig.returnType = some rt) (hrt : (∃ n, rt = .object n) ∨ ∃ t, rt = .array t) (d : decode cc pc = .ok (.areturn, 1)) (hp : post a cw) (h1 : cells ≤ mc) (h2 : slots ≤ ms) : zG p l e R s m args below meth c (MQ below (zQr D cl B N ad post) args s mc ms (zA B)) D cl B nL N ad cw cells slots lv pc [.ref a] := fun H locs ls hW hS hl => W.widen h1 h2 (W.aret (v := .ref a) C.1 C.2.1 hr hrt (Or.inr ⟨a, rfl⟩) (fun t ht hWm => ⟨⟨cw, a, rfl, trivial, hp, by show zH D cl B N ad cw t.heap; rw [ht]; exact hW⟩, hS.F ht⟩) hS.2.2 d C.2.2.2.2.2.2.1)
theorem z_xaret {post : Nat → (Nat → va_E) → Prop} {a : Nat} {rt : FieldType} {XC : String → State → State → Prop} {mc ms : Nat} (C : zC p s m args meth c cc nL own Ts D cl tys B) (hr : meth.sig.returnType = some rt) (hrt : (∃ n, rt = .object n) ∨ ∃ t, rt = .array t) (d : decode cc pc = .ok (.areturn, 1)) (hp : post a cw) (h1 : cells ≤ mc) (h2 : slots ≤ ms) : zG p l e R s m args below meth c (vx_MQ below (zQr D cl B N ad post) XC args s mc ms (zA B)) D cl B nL N ad cw cells slots lv pc [.ref a] := fun H locs ls hW hS hl => vx_ret (W.widen h1 h2 (W.aret (v := .ref a) C.1 C.2.1 hr hrt (Or.inr ⟨a, rfl⟩) (fun t ht hWm => ⟨⟨cw, a, rfl, trivial, hp, by show zH D cl B N ad cw t.heap; rw [ht]; exact hW⟩, hS.F ht⟩) hS.2.2 d C.2.2.2.2.2.2.1))
theorem z_nret {post : (Nat → Nat) → (Nat → va_E) → Prop} {N0 : Nat} {ad0 : Nat → Nat} {mc ms : Nat} (C : zC p s m args meth c cc nL own Ts D cl tys B) (hr : meth.sig.returnType = none)  (d : decode cc pc = .ok (.return_, 1)) (hp : (∀ k, k < N0 → ad k = ad0 k) ∧ post ad cw) (h1 : cells ≤ mc) (h2 : slots ≤ ms) : zG p l e R s m args below meth c (MQ below (zQn D cl B N0 N ad0 post) args s mc ms (zA B)) D cl B nL N ad cw cells slots lv pc [] := fun H locs ls hW hS hl => W.widen h1 h2 (W.vret C.1 C.2.1 hr  (fun t ht hWm => ⟨⟨(ad, cw), rfl, hp, by show zH D cl B N ad cw t.heap; rw [ht]; exact hW⟩, hS.F ht⟩) hS.2.2 d C.2.2.2.2.2.2.1)
end Z2
section Z3
variable {p : Program} {l : Launch} {e : Env} {R : Room} {s : State} {m : MethodId} {args : Array Value} {below : List Frame} {meth : Method} {c : Code} {cells slots : Nat} {Q : State → Prop}
variable {D : va_G} {cl : List vw_C} {tys : List (ClassId × FieldType)} {B N nL : Nat} {ad : Nat → Nat} {cw : Nat → va_E} {lv : List (Nat × Value)} {pc : Nat} {st : List Value} {cc : ByteArray} {own : String} {Ts : List Cond}
variable {y : MethodName} {bytes : ByteArray} {maxL mc ms n index : Nat} {ret : Option FieldType} {ws : List Cond} {rm : Room} {Qc : Array Value → State → Outcome → State → Prop} {XC : String → State → State → Prop} {As rest : List Value} {Cn host : String} {ci i : Nat} {fs : List Value} {rC : vw_C} {hh : List (Nat × Nat × Nat × Nat)}
theorem z_runV (C : zC p s m args meth c cc nL own Ts D cl tys B) (hM : Met l y ws rm (va_Pc (.ref (ad i) :: As) (zI D cl tys B N ad cw)) Qc mc ms (zA B)) (cwv : CallW R s args own Cn index y bytes maxL ret ws rm mc ms n) (hi : i < N) (he : cw i = .inr (ci, fs)) (hc : cl[ci]? = some rC) (hC : rC.1 = Cn) (hn : As.length = n) (hst : st = As.reverse ++ .ref (ad i) :: rest) (hrm : (rest.map fun v => v.category).sum ≤ 8) (d : decode cc pc = .ok (.invokevirtual index, 3)) (hf : cells + mc ≤ R.cells ∧ slots + ms ≤ R.slots) : ∀ (H : Heap) (locs : List Loc) (ls : Array Slot), zH D cl B N ad cw H → va_S (zA B) s.heap H locs → ls.size = nL → va_Run p l e R s m args below meth c H locs cells slots mc ms (F0 m pc ls st) rest (Qc (.ref (ad i) :: As).toArray) (zA B) := fun H locs ls hW hS hls => va_runV (As := As) (rest := rest) ⟨C.1, C.2.1, C.2.2.1, C.2.2.2.1, C.2.2.2.2.1⟩ hM cwv ⟨zI_blind, hC ▸ va_recv C.2.2.2.2.2.1 hW.1 hc (zW_at hi he), fun U hU hWm => ⟨rfl, zI_at C hW hS hU hWm⟩⟩ rfl hn hls hst (lv_room hrm) d hf
theorem z_xrunV (C : zC p s m args meth c cc nL own Ts D cl tys B) (hM : vx_Met l y ws rm (va_Pc (.ref (ad i) :: As) (zI D cl tys B N ad cw)) Qc XC mc ms (zA B)) (cwv : CallW R s args own Cn index y bytes maxL ret ws rm mc ms n) (hi : i < N) (he : cw i = .inr (ci, fs)) (hc : cl[ci]? = some rC) (hC : rC.1 = Cn) (hn : As.length = n) (hst : st = As.reverse ++ .ref (ad i) :: rest) (hrm : (rest.map fun v => v.category).sum ≤ 8) (d : decode cc pc = .ok (.invokevirtual index, 3)) (hf : cells + mc ≤ R.cells ∧ slots + ms ≤ R.slots) : ∀ (H : Heap) (locs : List Loc) (ls : Array Slot), zH D cl B N ad cw H → va_S (zA B) s.heap H locs → ls.size = nL → vx_Run p l e R s m args below meth c H locs cells slots mc ms (F0 m pc ls st) rest (Qc (.ref (ad i) :: As).toArray) (XC) (zA B) := fun H locs ls hW hS hls => vx_runV (As := As) (rest := rest) ⟨C.1, C.2.1, C.2.2.1, C.2.2.2.1, C.2.2.2.2.1⟩ hM cwv ⟨zI_blind, hC ▸ va_recv C.2.2.2.2.2.1 hW.1 hc (zW_at hi he), fun U hU hWm => ⟨rfl, zI_at C hW hS hU hWm⟩⟩ rfl hn hls hst (lv_room hrm) d hf
theorem z_runS (C : zC p s m args meth c cc nL own Ts D cl tys B) (hM : Met l y ws rm (va_Pc As (zI D cl tys B N ad cw)) Qc mc ms (zA B)) (cwv : CallB R s args own index y bytes maxL ret ws rm mc ms n ∧ (Cond.static y).before args s = true)  (hn : As.length = n) (hst : st = As.reverse ++ rest) (hrm : (rest.map fun v => v.category).sum ≤ 8) (d : decode cc pc = .ok (.invokestatic index, 3)) (hf : cells + mc ≤ R.cells ∧ slots + ms ≤ R.slots) : ∀ (H : Heap) (locs : List Loc) (ls : Array Slot), zH D cl B N ad cw H → va_S (zA B) s.heap H locs → ls.size = nL → va_Run p l e R s m args below meth c H locs cells slots mc ms (F0 m pc ls st) rest (Qc As.toArray) (zA B) := fun H locs ls hW hS hls => va_runS (As := As) (rest := rest) ⟨C.1, C.2.1, C.2.2.1, C.2.2.2.1, C.2.2.2.2.1⟩ hM cwv ⟨zI_blind, fun U hU hWm => ⟨rfl, zI_at C hW hS hU hWm⟩⟩ rfl hn hls hst (lv_room hrm) d hf
theorem z_xrunS (C : zC p s m args meth c cc nL own Ts D cl tys B) (hM : vx_Met l y ws rm (va_Pc As (zI D cl tys B N ad cw)) Qc XC mc ms (zA B)) (cwv : CallB R s args own index y bytes maxL ret ws rm mc ms n ∧ (Cond.static y).before args s = true)  (hn : As.length = n) (hst : st = As.reverse ++ rest) (hrm : (rest.map fun v => v.category).sum ≤ 8) (d : decode cc pc = .ok (.invokestatic index, 3)) (hf : cells + mc ≤ R.cells ∧ slots + ms ≤ R.slots) : ∀ (H : Heap) (locs : List Loc) (ls : Array Slot), zH D cl B N ad cw H → va_S (zA B) s.heap H locs → ls.size = nL → vx_Run p l e R s m args below meth c H locs cells slots mc ms (F0 m pc ls st) rest (Qc As.toArray) (XC) (zA B) := fun H locs ls hW hS hls => vx_runS (As := As) (rest := rest) ⟨C.1, C.2.1, C.2.2.1, C.2.2.2.1, C.2.2.2.2.1⟩ hM cwv ⟨zI_blind, fun U hU hWm => ⟨rfl, zI_at C hW hS hU hWm⟩⟩ rfl hn hls hst (lv_room hrm) d hf
theorem z_runSW (C : zC p s m args meth c cc nL own Ts D cl tys B) (hM : Met l y ws rm (va_Pc As (zI D cl tys B N ad cw)) Qc mc ms (zA B)) (cwv : vx_CSW R s args own index y bytes maxL ret hh ws rm mc ms n)  (hn : As.length = n) (hst : st = As.reverse ++ rest) (hrm : (rest.map fun v => v.category).sum ≤ 8) (d : decode cc pc = .ok (.invokestatic index, 3)) (hf : cells + mc ≤ R.cells ∧ slots + ms ≤ R.slots) : ∀ (H : Heap) (locs : List Loc) (ls : Array Slot), zH D cl B N ad cw H → va_S (zA B) s.heap H locs → ls.size = nL → va_Run p l e R s m args below meth c H locs cells slots mc ms (F0 m pc ls st) rest (Qc As.toArray) (zA B) := fun H locs ls hW hS hls => vx_runSW (As := As) (rest := rest) ⟨C.1, C.2.1, C.2.2.1, C.2.2.2.1, C.2.2.2.2.1⟩ hM cwv ⟨zI_blind, fun U hU hWm => ⟨rfl, zI_at C hW hS hU hWm⟩⟩ rfl hn hls hst (lv_room hrm) d hf
theorem z_runI (C : zC p s m args meth c cc nL own Ts D cl tys B) (hM : Met l y ws rm (va_Pc (.ref (ad i) :: As) (zI D cl tys B N ad cw)) Qc mc ms (zA B)) (cwv : CallB R s args own index y bytes maxL none ws rm mc ms n ∧ y.name = "<init>" ∧ (Cond.instanceMethod y).before args s = true)  (hn : As.length = n) (hst : st = As.reverse ++ .ref (ad i) :: rest) (hrm : (rest.map fun v => v.category).sum ≤ 8) (d : decode cc pc = .ok (.invokespecial index, 3)) (hf : cells + mc ≤ R.cells ∧ slots + ms ≤ R.slots) : ∀ (H : Heap) (locs : List Loc) (ls : Array Slot), zH D cl B N ad cw H → va_S (zA B) s.heap H locs → ls.size = nL → va_Run p l e R s m args below meth c H locs cells slots mc ms (F0 m pc ls st) rest (Qc (.ref (ad i) :: As).toArray) (zA B) := fun H locs ls hW hS hls => va_runI (As := As) (rest := rest) ⟨C.1, C.2.1, C.2.2.1, C.2.2.2.1, C.2.2.2.2.1⟩ hM cwv ⟨zI_blind, fun U hU hWm => ⟨rfl, zI_at C hW hS hU hWm⟩⟩ rfl hn hls hst (lv_room hrm) d hf
theorem z_calli {post : Int32 → (Nat → va_E) → Prop} {a : Array Value} (hr : ∀ (H : Heap) (locs : List Loc) (ls : Array Slot), zH D cl B N ad cw H → va_S (zA B) s.heap H locs → ls.size = nL → va_Run p l e R s m args below meth c H locs cells slots mc ms (F0 m pc ls st) rest (zQi D cl B N ad post a) (zA B)) (kk : ∀ (r : Int32) (cw' : Nat → va_E), post r cw' → zG p l e R s m args below meth c Q D cl B nL N ad cw' (cells + mc) (slots + ms) lv (pc + 3) (.int r :: rest)) : zG p l e R s m args below meth c Q D cl B nL N ad cw cells slots lv pc st := fun H locs ls hW hS hl => va_calli (hr H locs ls hW hS hl.1) hS (fun q _ h => h) (fun q h => h) (fun r u t H1 locs1 ht hvm hp hI hz hk hS1 => kk r u hp H1 locs1 ls (by rw [← ht]; exact hI) hS1 hl)
theorem z_callv {post : (Nat → va_E) → Prop} {a : Array Value} (hr : ∀ (H : Heap) (locs : List Loc) (ls : Array Slot), zH D cl B N ad cw H → va_S (zA B) s.heap H locs → ls.size = nL → va_Run p l e R s m args below meth c H locs cells slots mc ms (F0 m pc ls st) rest (zQv D cl B N ad post a) (zA B)) (kk : ∀  (cw' : Nat → va_E), post cw' → zG p l e R s m args below meth c Q D cl B nL N ad cw' (cells + mc) (slots + ms) lv (pc + 3) rest) : zG p l e R s m args below meth c Q D cl B nL N ad cw cells slots lv pc st := fun H locs ls hW hS hl => va_callv (hr H locs ls hW hS hl.1) hS (fun q _ h => h) (fun q h => h) (fun u t H1 locs1 ht hvm hp hI hz hk hS1 => kk u hp H1 locs1 ls (by rw [← ht]; exact hI) hS1 hl)
theorem z_callr {post : Nat → (Nat → va_E) → Prop} {a : Array Value} (hr : ∀ (H : Heap) (locs : List Loc) (ls : Array Slot), zH D cl B N ad cw H → va_S (zA B) s.heap H locs → ls.size = nL → va_Run p l e R s m args below meth c H locs cells slots mc ms (F0 m pc ls st) rest (zQr D cl B N ad post a) (zA B)) (kk : ∀ (r : Nat) (cw' : Nat → va_E), post r cw' → zG p l e R s m args below meth c Q D cl B nL N ad cw' (cells + mc) (slots + ms) lv (pc + 3) (.ref r :: rest)) : zG p l e R s m args below meth c Q D cl B nL N ad cw cells slots lv pc st := fun H locs ls hW hS hl => va_callr (hr H locs ls hW hS hl.1) hS (fun q _ h => h) (fun q h => h) (fun u ra t H1 locs1 ht hvm hp hI hz hk hS1 => kk ra u hI.1 H1 locs1 ls (by rw [← ht]; exact hI.2) hS1 hl)
theorem z_calln {N' : Nat} {post : (Nat → Nat) → (Nat → va_E) → Prop} {a : Array Value} (hr : ∀ (H : Heap) (locs : List Loc) (ls : Array Slot), zH D cl B N ad cw H → va_S (zA B) s.heap H locs → ls.size = nL → va_Run p l e R s m args below meth c H locs cells slots mc ms (F0 m pc ls st) rest (zQn D cl B N N' ad post a) (zA B)) (kk : ∀ (ad' : Nat → Nat) (cw' : Nat → va_E), (∀ k, k < N → ad' k = ad k) → post ad' cw' → zG p l e R s m args below meth c Q D cl B nL N' ad' cw' (cells + mc) (slots + ms) lv (pc + 3) rest) : zG p l e R s m args below meth c Q D cl B nL N ad cw cells slots lv pc st := fun H locs ls hW hS hl => va_callv (hr H locs ls hW hS hl.1) hS (fun q _ h => h) (fun q h => h) (fun u t H1 locs1 ht hvm hp hI hz hk hS1 => kk u.1 u.2 hp.1 hp.2 H1 locs1 ls (by rw [← ht]; exact hI) hS1 hl)
theorem z_xcalli {post : Int32 → (Nat → va_E) → Prop} {xp : String → Prop} {a : Array Value} (hr : ∀ (H : Heap) (locs : List Loc) (ls : Array Slot), zH D cl B N ad cw H → va_S (zA B) s.heap H locs → ls.size = nL → vx_Run p l e R s m args below meth c H locs cells slots mc ms (F0 m pc ls st) rest (zQi D cl B N ad post a) (zXC D cl B N ad cw xp) (zA B)) (kx : ∀ E : String, xp E → zX p l e R s m args below meth c Q D cl B nL N ad cw (cells + mc) (slots + ms) lv pc rest E) (kk : ∀ (r : Int32) (cw' : Nat → va_E), post r cw' → zG p l e R s m args below meth c Q D cl B nL N ad cw' (cells + mc) (slots + ms) lv (pc + 3) (.int r :: rest)) : zG p l e R s m args below meth c Q D cl B nL N ad cw cells slots lv pc st := fun H locs ls hW hS hl => vx_calli (hr H locs ls hW hS hl.1) hS (fun q _ h => h) (fun q h => h) (fun q _ h => h) (fun E ce q9 u t H1 locs1 ht hvm _ hI hz hk hS1 h1 h2 h3 => kx E hI.1 H1 locs1 ls q9 ce (by rw [← ht]; exact hI.2) hS1 hl h1 h2 h3) (fun r u t H1 locs1 ht hvm hp hI hz hk hS1 => kk r u hp H1 locs1 ls (by rw [← ht]; exact hI) hS1 hl)
theorem z_xcallv {post : (Nat → va_E) → Prop} {xp : String → Prop} {a : Array Value} (hr : ∀ (H : Heap) (locs : List Loc) (ls : Array Slot), zH D cl B N ad cw H → va_S (zA B) s.heap H locs → ls.size = nL → vx_Run p l e R s m args below meth c H locs cells slots mc ms (F0 m pc ls st) rest (zQv D cl B N ad post a) (zXC D cl B N ad cw xp) (zA B)) (kx : ∀ E : String, xp E → zX p l e R s m args below meth c Q D cl B nL N ad cw (cells + mc) (slots + ms) lv pc rest E) (kk : ∀  (cw' : Nat → va_E), post cw' → zG p l e R s m args below meth c Q D cl B nL N ad cw' (cells + mc) (slots + ms) lv (pc + 3) rest) : zG p l e R s m args below meth c Q D cl B nL N ad cw cells slots lv pc st := fun H locs ls hW hS hl => vx_callv (hr H locs ls hW hS hl.1) hS (fun q _ h => h) (fun q h => h) (fun q _ h => h) (fun E ce q9 u t H1 locs1 ht hvm _ hI hz hk hS1 h1 h2 h3 => kx E hI.1 H1 locs1 ls q9 ce (by rw [← ht]; exact hI.2) hS1 hl h1 h2 h3) (fun u t H1 locs1 ht hvm hp hI hz hk hS1 => kk u hp H1 locs1 ls (by rw [← ht]; exact hI) hS1 hl)
theorem z_xout {E : String} {xp : String → Prop} (C : zC p s m args meth c cc nL own Ts D cl tys B) (h0 : ∀ x ∈ c.exceptionTable.toList, False) (hx : xp E) (h1 : cells ≤ mc) (h2 : slots ≤ ms) : zX p l e R s m args below meth c (vx_MQ below Qc (zXC D cl B N ad cw xp) args s mc ms (zA B)) D cl B nL N ad cw cells slots lv pc st E := fun H locs ls q ce hW hS hl hc hv hcl => vx_out (fun x hx => (h0 x hx).elim) C.2.2.2.2.2.2.1 hc hv hcl (fun t ht hvm => ⟨(), trivial, ⟨hx, by rw [ht]; exact hW⟩, hS.F ht⟩) hS.2.2 h1 h2
theorem z_throw {cls text : String} {names : List String} {ik is ic : Nat} {xp : String → Prop} (C : zC p s m args meth c cc nL own Ts D cl tys B) (hl : l.stackTraces = false) (h0 : ∀ x ∈ c.exceptionTable.toList, False) (ho : own = RX3) (hcls : Bundle.fit cls = true) (hnames : ∀ n ∈ names, Bundle.fit n = true)
    (hk : (Cond.classLink own ik cls).before args s = true) (hini : (Cond.initialized cls).before args s = true) (hstr : (is, text) ∈ zStrs) (hat : ∀ w ∈ (vx_atS own ic cls names).filter goodWord, w ∈ Ts) (hng : ∀ w ∈ (vx_atS own ic cls names).filter (fun w => !goodWord w), w ∈ zNgs)
    (hgood : ∀ w ∈ Cond.classLink own ik cls :: Cond.initialized cls :: vx_atS own ic cls names, vx_ot w = true)
    (d0 : decode cc pc = .ok (.new ik, 3)) (d3 : decode cc (pc + 3) = .ok (.dup, 1)) (d4 : decode cc (pc + 4) = .ok (.ldc is, 2)) (d6 : decode cc (pc + 6) = .ok (.invokespecial ic, 3)) (d9 : decode cc (pc + 9) = .ok (.athrow, 1))
    (hRf : names.length + 3 < R.frames) (hRl : (st.map fun v => v.category).sum + (13 * (names.length + 1) + 43) ≤ R.locals) (hRc : cells + 1 ≤ R.cells) (hRs : slots + 6 ≤ R.slots) (hx : xp cls) (h1 : cells + 1 ≤ mc) (h2 : slots + 6 ≤ ms) :
    zG p l e R s m args below meth c (vx_MQ below Qc (zXC D cl B N ad cw xp) args s mc ms (zA B)) D cl B nL N ad cw cells slots lv pc st := by
  intro H locs ls hW hS hl2
  subst ho
  obtain ⟨sa, hsa⟩ := C.2.2.2.2.2.2.2.2.2.2.2.1 _ hstr
  exact vx_throwS C.1 C.2.1 hl C.2.2.2.1 hcls hnames hk hini hsa
    (vx_hat (fun w hw => C.2.2.2.2.1 w (hat w hw)) hng (fun w hw => va_Nw.use (zNgs_ok w hw).1 (C.2.2.2.2.2.2.2.2.2.2.2.2.2 w hw))) hgood C.2.2.2.2.2.2.2.2.1 C.2.2.2.2.2.2.2.2.2.1 hS (hl2.1.trans C.2.2.1.symm) d0 d3 d4 d6 d9
    (fun x hx => (h0 x hx).elim) hRf hRl hRc hRs C.2.2.2.2.2.2.1
    (fun t hvm hz hk9 => ⟨(), trivial, ⟨hx, hW.1.kept (fun k q hk => hk9 q.1 (vx_lt hW.1 hk)), hW.2⟩, ⟨Nat.le_trans hS.1 hz, fun q h3 h4 => by rw [hk9 q (Nat.lt_of_lt_of_le h3 hS.1)]; exact hS.2.1 q h3 h4⟩⟩) hS.2.2 h1 h2
theorem z_catch {E name : String} (C : zC p s m args meth c cc nL own Ts D cl tys B) (pre : List ExceptionTableEntry) (x : ExceptionTableEntry) (suf : List ExceptionTableEntry) (hsplit : c.exceptionTable.toList = pre ++ x :: suf) (hpass : ∀ z ∈ pre, z.catchType ≠ 0 ∧ ∃ nm : String, (Cond.classLink own z.catchType nm).before args s = true ∧ va_Nc E nm s) (hx : covers x pc = true) (h0 : x.catchType ≠ 0) (hlink : (Cond.classLink own x.catchType name).before args s = true) (hcast : (Cond.castable E name).before args s = true) (kk : ∀ q : Nat, zG p l e R s m args below meth c Q D cl B nL N ad cw cells slots lv x.handlerPc [.ref q]) : zX p l e R s m args below meth c Q D cl B nL N ad cw cells slots lv pc st E := fun H locs ls q ce hW hS hl hc hv hcl => vx_catch C.2.2.2.1 pre x suf hsplit (fun z hz => Or.inr (hpass z hz)) hx h0 hlink hcast hc hv hcl (kk q H locs ls hW hS hl)
theorem z_objInit {idx k : Nat} (C : zC p s m args meth c cc nL own Ts D cl tys B) (hlink : (Cond.methodLink own idx Lib.objectInit).before args s = true) (hinst : (Cond.instanceMethod Lib.objectInit).before args s = true) (hcode : (Cond.code Lib.objectInit ⟨#[0xb1]⟩ 1 none).before args s = true) (d : decode cc pc = .ok (.invokespecial idx, 3)) (hf : 1 ≤ R.frames) (hlo : (st.map fun v => v.category).sum + 12 ≤ R.locals) (kk : zG p l e R s m args below meth c Q D cl B nL N ad cw cells slots lv (pc + 3) st) : zG p l e R s m args below meth c Q D cl B nL N ad cw cells slots lv pc (.ref k :: st) := fun H locs ls hW hS hl => W.objInit (g := F0 m pc ls (.ref k :: st)) C.1 C.2.1 C.2.2.2.1 hlink hinst hcode rfl (hl.1.trans C.2.2.1.symm) rfl d hf (by show 2 * 0 + _ + 12 ≤ _; omega) (kk H locs ls hW hS hl)
theorem z_mmin {index : Nat} {x y : Int32} (C : zC p s m args meth c cc nL own Ts D cl tys B) (hlink : (Cond.methodLink own index Lib.Math.min.name).before args s = true) (hstat : (Cond.static Lib.Math.min.name).before args s = true) (hini : (Cond.initialized "java/lang/Math").before args s = true) (hcode : (Cond.code Lib.Math.min.name Lib.Math.min.code 2 (some .int)).before args s = true) (hf : 1 ≤ R.frames) (hlo : (st.map fun v => v.category).sum + 13 ≤ R.locals) (hc : cells ≤ R.cells) (hs : slots ≤ R.slots) (d : decode cc pc = .ok (.invokestatic index, 3)) (kk : zG p l e R s m args below meth c Q D cl B nL N ad cw cells slots lv (pc + 3) (.int (if y < x then y else x) :: st)) : zG p l e R s m args below meth c Q D cl B nL N ad cw cells slots lv pc (.int y :: .int x :: st) := fun H locs ls hW hS hl => va_mmin C.1 C.2.1 (C.2.2.1.trans hl.1.symm) C.2.2.2.1 hlink hstat hini hcode hf hlo hc hs d (kk H locs ls hW hS hl)
theorem z_copy {index : Nat} {cA : ClassId} {n0 n1 sp dp n : Nat} {f g : Nat → Int32} {a b d0 : Int32} (C : zC p s m args meth c cc nL own Ts D cl tys B) (hlink : (Cond.methodLink own index arraycopyName).before args s = true) (hnat : (Cond.native arraycopyName).before args s = true) (hstat : (Cond.static arraycopyName).before args s = true) (hini : (Cond.initialized "java/lang/System").before args s = true) (t0 : Nat) (ht : tys[t0]? = some (cA, .int)) (hf : 1 ≤ R.frames) (hlo : (st.map fun v => v.category).sum + (nativeFrameWords "java/lang/System" "arraycopy" 5 + 11) ≤ R.locals) (d : decode cc pc = .ok (.invokestatic index, 3)) (k0 k1 : Nat) (hk0 : k0 < N) (hk1 : k1 < N) (he0 : cw k0 = .inl (cA, n0, .inl f)) (he1 : cw k1 = .inl (cA, n1, .inl g)) (ha : a = nI sp) (hb : b = nI dp) (hd : d0 = nI n) (h4 : sp + n ≤ n0) (h5 : dp + n ≤ n1) (h6 : n0 < 2 ^ 31) (h7 : n1 < 2 ^ 31) (kk : zG p l e R s m args below meth c Q D cl B nL N ad (va_up cw k1 (.inl (cA, n1, .inl (va_cpy f g sp dp n)))) cells slots lv (pc + 3) st) : zG p l e R s m args below meth c Q D cl B nL N ad cw cells slots lv pc (.int d0 :: .int b :: .ref (ad k1) :: .int a :: .ref (ad k0) :: st) := by
  intro H locs ls hW hS hl
  subst ha; subst hb; subst hd
  have e1 : (nI sp).toNatClampNeg = sp := nI_clamp (by omega)
  have e2 : (nI dp).toNatClampNeg = dp := nI_clamp (by omega)
  have e3 : (nI n).toNatClampNeg = n := nI_clamp (by omega)
  refine va_copyi (ty := .int) C.1 C.2.1 (C.2.2.1.trans hl.1.symm) C.2.2.2.1 hlink hnat hstat hini C.2.2.2.2.2.1 hW.1 hW.2 hS k0 k1 t0 t0 (zW_at hk0 he0) (zW_at hk1 he1) ht ht rfl (nI_pos (by omega)) (nI_pos (by omega)) (nI_pos (by omega)) (by rw [e1, e3]; exact h4) (by rw [e2, e3]; exact h5) (fun _ _ => rfl) hf hlo d (fun H1 locs1 hP hD hS1 => ?_)
  rw [zW_set hk1, e1, e2, e3] at hP hD
  exact kk H1 locs1 ls ⟨hP, hD⟩ hS1 hl
theorem z_new {T : u_T} {NF index : Nat} {ty : Nat → FieldType} (C : zC p s m args meth c cc nL own Ts D cl tys B) (hin : ∀ w ∈ u_ws Cn T NF, w ∈ Ts) (hty : ∀ k, k < NF → parseFieldDescriptor (T k).2.2.1 = some (ty k)) (hcl : (Cond.classLink own index Cn).before args s = true) (hinst : (Cond.instantiable Cn NF).before args s = true) (hini : (Cond.initialized Cn).before args s = true) (hc : cl[ci]? = some (Cn, T, NF)) (hfs : ∀ j, j < NF → defaultValue (ty j) = vp_V fs j) (hcells : cells + 1 ≤ R.cells) (hslots : slots + NF ≤ R.slots) (d : decode cc pc = .ok (.new index, 3)) (kk : ∀ ad' : Nat → Nat, (∀ k, k < N → ad' k = ad k) → zG p l e R s m args below meth c Q D cl B nL (N + 1) ad' (va_up cw N (.inr (ci, fs))) (cells + 1) (slots + NF) lv (pc + 3) (.ref (ad' N) :: st)) : zG p l e R s m args below meth c Q D cl B nL N ad cw cells slots lv pc st := fun H locs ls hW hS hl => va_new C.1 C.2.1 C.2.2.2.2.1 hin ty hty C.2.2.2.1 hcl hinst hini C.2.2.2.2.2.1 hW.1 hW.2 hS (fun q h => Nat.le_trans C.2.2.2.2.2.2.2.1 h) hc hfs hcells hslots d (fun q H1 hP hD hS1 => by
  have h := kk (va_up ad N q) (fun k hk => va_up_ne _ _ (Nat.ne_of_lt hk)) H1 locs ls ⟨by rw [← zW_push]; exact hP, by rw [← zW_push]; exact hD⟩ hS1 hl
  rw [va_up_self] at h
  exact h)
theorem z_newa {cA : ClassId} {N' : Nat} {n : Int32} (C : zC p s m args meth c cc nL own Ts D cl tys B) (t0 : Nat) (ht : tys[t0]? = some (cA, .int)) (harr : (Cond.arrayClass .int).before args s = true) (hn : n = nI N') (hN : N' < 100000) (hcells : cells + 1 ≤ R.cells) (hslots : slots + N' ≤ R.slots) (d : decode cc pc = .ok (.newarray .int, 2)) (kk : ∀ ad' : Nat → Nat, (∀ k, k < N → ad' k = ad k) → zG p l e R s m args below meth c Q D cl B nL (N + 1) ad' (va_up cw N (.inl (cA, N', .inl (fun _ => 0)))) (cells + 1) (slots + N') lv (pc + 2) (.ref (ad' N) :: st)) : zG p l e R s m args below meth c Q D cl B nL N ad cw cells slots lv pc (.int n :: st) := by
  intro H locs ls hW hS hl
  subst hn
  refine va_newa (atype := .int) (ty := .int) (N' := N') (a0 := (N', .inl (fun _ => 0))) C.1 C.2.1 harr rfl C.2.2.2.2.2.1 hW.1 hW.2 hS (fun q h => Nat.le_trans C.2.2.2.2.2.2.2.1 h) (fun _ => rfl) (nI_pos (by omega)) (nI_clamp (by omega)) (by show N' * 4 ≤ _; omega) hcells hslots d (fun q cB H1 hK1 hP hD hS1 => ?_)
  have e1 : s.vm.findClass ("[" ++ FieldType.int.toString) = some cA := (C.2.2.2.2.2.1.2 _ _ ht).2
  have e2 : s.vm.findClass ("[" ++ FieldType.int.toString) = some cB := (hK1.2 tys.length (cB, .int) (by simp)).2
  obtain rfl : cA = cB := Option.some.inj (e1.symm.trans e2)
  have h := kk (va_up ad N q) (fun k hk => va_up_ne _ _ (Nat.ne_of_lt hk)) H1 locs ls ⟨by rw [← zW_push]; exact hP, by rw [← zW_push]; exact hD⟩ hS1 hl
  rw [va_up_self] at h
  exact h
theorem z_newl {cA : ClassId} {N' : Nat} {n : Int32} (C : zC p s m args meth c cc nL own Ts D cl tys B) (t0 : Nat) (ht : tys[t0]? = some (cA, .long)) (harr : (Cond.arrayClass .long).before args s = true) (hn : n = nI N') (hN : N' < 100000) (hcells : cells + 1 ≤ R.cells) (hslots : slots + N' ≤ R.slots) (d : decode cc pc = .ok (.newarray .long, 2)) (kk : ∀ ad' : Nat → Nat, (∀ k, k < N → ad' k = ad k) → zG p l e R s m args below meth c Q D cl B nL (N + 1) ad' (va_up cw N (.inl (cA, N', .inr (.inl (fun _ => 0))))) (cells + 1) (slots + N') lv (pc + 2) (.ref (ad' N) :: st)) : zG p l e R s m args below meth c Q D cl B nL N ad cw cells slots lv pc (.int n :: st) := by
  intro H locs ls hW hS hl
  subst hn
  refine va_newa (atype := .long) (ty := .long) (N' := N') (a0 := (N', .inr (.inl (fun _ => 0)))) C.1 C.2.1 harr rfl C.2.2.2.2.2.1 hW.1 hW.2 hS (fun q h => Nat.le_trans C.2.2.2.2.2.2.2.1 h) (fun _ => rfl) (nI_pos (by omega)) (nI_clamp (by omega)) (by show N' * 8 ≤ _; omega) hcells hslots d (fun q cB H1 hK1 hP hD hS1 => ?_)
  have e1 : s.vm.findClass ("[" ++ FieldType.long.toString) = some cA := (C.2.2.2.2.2.1.2 _ _ ht).2
  have e2 : s.vm.findClass ("[" ++ FieldType.long.toString) = some cB := (hK1.2 tys.length (cB, .long) (by simp)).2
  obtain rfl : cA = cB := Option.some.inj (e1.symm.trans e2)
  have h := kk (va_up ad N q) (fun k hk => va_up_ne _ _ (Nat.ne_of_lt hk)) H1 locs ls ⟨by rw [← zW_push]; exact hP, by rw [← zW_push]; exact hD⟩ hS1 hl
  rw [va_up_self] at h
  exact h
theorem z_newq {cA : ClassId} {N' : Nat} {n : Int32} (C : zC p s m args meth c cc nL own Ts D cl tys B) (t0 : Nat) (ht : tys[t0]? = some (cA, .object RX2)) (hcl : (Cond.classLink own index RX2).before args s = true) (hn : n = nI N') (hN : N' < 100000) (hcells : cells + 1 ≤ R.cells) (hslots : slots + N' ≤ R.slots) (d : decode cc pc = .ok (.anewarray index, 3)) (kk : ∀ ad' : Nat → Nat, (∀ k, k < N → ad' k = ad k) → zG p l e R s m args below meth c Q D cl B nL (N + 1) ad' (va_up cw N (.inl (cA, N', .inr (.inr (.inr (.inr (fun _ => none))))))) (cells + 1) (slots + N') lv (pc + 3) (.ref (ad' N) :: st)) : zG p l e R s m args below meth c Q D cl B nL N ad cw cells slots lv pc (.int n :: st) := by
  intro H locs ls hW hS hl
  subst hn
  refine va_newq (C := RX2) (N' := N') C.1 C.2.1 C.2.2.2.1 hcl C.2.2.2.2.2.2.2.2.2.2.1 C.2.2.2.2.2.1 hW.1 hW.2 hS (fun q h => Nat.le_trans C.2.2.2.2.2.2.2.1 h) (nI_pos (by omega)) (nI_clamp (by omega)) (by omega) hcells hslots d (fun q cB H1 hK1 hP hD hS1 => ?_)
  obtain ⟨_, _, _, _, _, e1⟩ := (C.2.2.2.2.2.1.2 _ _ ht).2
  obtain ⟨_, _, _, _, _, e2⟩ := (hK1.2 tys.length (cB, .object RX2) (by simp)).2
  obtain rfl : cA = cB := Option.some.inj (e1.symm.trans e2)
  have h := kk (va_up ad N q) (fun k hk => va_up_ne _ _ (Nat.ne_of_lt hk)) H1 locs ls ⟨by rw [← zW_push]; exact hP, by rw [← zW_push]; exact hD⟩ hS1 hl
  rw [va_up_self] at h
  exact h
end Z3
end
section
abbrev zTy (cI cR cL : ClassId) : List (ClassId × FieldType) := [(cI, .int), (cR, .object RX2), (cL, .long)]
theorem qX2_size_0 : ∀ w ∈ wsX20, w ∈ wsX2_size := by decide +kernel
theorem qX2_size_1 : Cond.fieldLink RX2 13 "PieceText$Row" "length" "I" ∈ wsX2_size := by decide +kernel
set_option maxHeartbeats 4000000 in
set_option maxRecDepth 100000 in
theorem c_Row_size (l : Launch) (D : va_G) (cI cR cL : ClassId) (B N : Nat) (ad : Nat → Nat) (cw : Nat → va_E) {r a : Nat} {len : Int32} (hr9 : r < N) (er : cw r = .inr (2, [.ref (ad (a)), .int (len)])) : Met l yX2_size wsX2_size ({ frames := 0, cells := 0, slots := 0, locals := 0 } : Room) (va_Pc [.ref (ad (r))] (zI D vwCl (zTy cI cR cL) B N ad cw)) (zQi D vwCl B N ad (fun (v : Int32) (cw' : Nat → va_E) => v = len ∧ cw' = cw)) 0 0 (zA B) := by
  refine z_ofW (cc := cX2_size) (maxL := 1) (ret := (some .int)) (by decide) rfl (Nat.le_of_ble_eq_true rfl) ?_
  intro p e s m args below meth c C hr hnm
  refine z_lv (lv' := [(0, .ref (ad (r)))]) [0] rfl ?_
  refine z_aload_n C dX2_size_0 0 rfl ?_
  refine z_get (Cn := RX2) (T := TX2) (NF := 2) (ci := 2) (v := .int (len)) C qX2_size_0 rfl 1 (by decide) (C.2.2.2.2.1 _ qX2_size_1) (fun _ h9 => h9) dX2_size_1 (r) hr9 er rfl ?_
  exact z_iret C hr dX2_size_4 (⟨rfl, rfl⟩) (Nat.le_of_ble_eq_true rfl) (Nat.le_of_ble_eq_true rfl)

theorem qX2_get_0 : ∀ w ∈ wsX20, w ∈ wsX2_get := by decide +kernel
theorem qX2_get_1 : Cond.fieldLink RX2 7 "PieceText$Row" "characters" "[I" ∈ wsX2_get := by decide +kernel
set_option maxHeartbeats 4000000 in
set_option maxRecDepth 100000 in
theorem c_Row_get (l : Launch) (D : va_G) (cI cR cL : ClassId) (B N : Nat) (ad : Nat → Nat) (cw : Nat → va_E) {r a : Nat} {len : Int32} (hr9 : r < N) (er : cw r = .inr (2, [.ref (ad (a)), .int (len)])) {lim : Nat} {f : Nat → Int32} (hl9 : lim < 2 ^ 31) (ha9 : a < N) (ea : cw a = .inl (cI, lim, .inl (f))) {j : Nat} (hj : j < lim) : Met l yX2_get wsX2_get ({ frames := 0, cells := 0, slots := 0, locals := 0 } : Room) (va_Pc [.ref (ad (r)), .int (nI j)] (zI D vwCl (zTy cI cR cL) B N ad cw)) (zQi D vwCl B N ad (fun (v : Int32) (cw' : Nat → va_E) => v = f j ∧ cw' = cw)) 0 0 (zA B) := by
  refine z_ofW (cc := cX2_get) (maxL := 2) (ret := (some .int)) (by decide) rfl (Nat.le_of_ble_eq_true rfl) ?_
  intro p e s m args below meth c C hr hnm
  refine z_lv (lv' := [(0, .ref (ad (r))), (1, .int (nI j))]) [0, 1] rfl ?_
  refine z_aload_n C dX2_get_0 0 rfl ?_
  refine z_get (Cn := RX2) (T := TX2) (NF := 2) (ci := 2) (v := .ref (ad (a))) C qX2_get_0 rfl 0 (by decide) (C.2.2.2.2.1 _ qX2_get_1) (fun _ h9 => h9) dX2_get_1 (r) hr9 er rfl ?_
  refine z_iload_n C dX2_get_4 1 rfl ?_
  refine z_iald C 0 rfl dX2_get_5 (a) ha9 ea (j) (rfl) (hj) hl9 ?_
  exact z_iret C hr dX2_get_6 (⟨rfl, rfl⟩) (Nat.le_of_ble_eq_true rfl) (Nat.le_of_ble_eq_true rfl)

theorem qX2_empty_0 : ∀ w ∈ wsX20, w ∈ wsX2_empty := by decide +kernel
theorem qX2_empty_1 : Cond.fieldLink RX2 13 "PieceText$Row" "length" "I" ∈ wsX2_empty := by decide +kernel
set_option maxHeartbeats 4000000 in
set_option maxRecDepth 100000 in
theorem c_Row_empty (l : Launch) (D : va_G) (cI cR cL : ClassId) (B N : Nat) (ad : Nat → Nat) (cw : Nat → va_E) {r a : Nat} {len : Int32} (hr9 : r < N) (er : cw r = .inr (2, [.ref (ad (a)), .int (len)])) : Met l yX2_empty wsX2_empty ({ frames := 0, cells := 0, slots := 0, locals := 0 } : Room) (va_Pc [.ref (ad (r))] (zI D vwCl (zTy cI cR cL) B N ad cw)) (zQv D vwCl B N ad (fun (cw' : Nat → va_E) => cw' = va_up cw r (.inr (2, [.ref (ad (a)), .int (nI 0)])))) 0 0 (zA B) := by
  refine z_ofW (cc := cX2_empty) (maxL := 1) (ret := none) (by decide) rfl (Nat.le_of_ble_eq_true rfl) ?_
  intro p e s m args below meth c C hr hnm
  refine z_lv (lv' := [(0, .ref (ad (r)))]) [0] rfl ?_
  refine z_aload_n C dX2_empty_0 0 rfl ?_
  refine z_iconst (v := nI 0) C dX2_empty_1 (by decide) ?_
  obtain ⟨cw1, ecw1⟩ : ∃ z : Nat → va_E, z = va_up (cw) (r) (.inr (2, [.ref (ad (a)), .int (nI 0)])) := ⟨_, rfl⟩
  refine z_put (Cn := RX2) (T := TX2) (NF := 2) (ci := 2) (ty := .int) (v := .int (nI 0)) C qX2_empty_0 tyX2_ok nmX2 rfl 1 (by decide) (C.2.2.2.2.1 _ qX2_empty_1) (fun _ h9 => h9) rfl (by decide +kernel) dX2_empty_2 (r) hr9 er rfl rfl (Nat.le_of_ble_eq_true rfl) ?_
  refine z_cw ecw1.symm ?_
  have hw_2 : cw1 (r) = .inr (2, [.ref (ad (a)), .int (nI 0)]) := by rw [ecw1, va_up_self]
  exact z_vret C hr dX2_empty_5 (ecw1) (Nat.le_of_ble_eq_true rfl) (Nat.le_of_ble_eq_true rfl)

theorem qX2_add_0 : ∀ w ∈ wsX20, w ∈ wsX2_add := by decide +kernel
theorem qX2_add_1 : Cond.fieldLink RX2 7 "PieceText$Row" "characters" "[I" ∈ wsX2_add := by decide +kernel
theorem qX2_add_2 : Cond.fieldLink RX2 13 "PieceText$Row" "length" "I" ∈ wsX2_add := by decide +kernel
set_option maxHeartbeats 4000000 in
set_option maxRecDepth 100000 in
theorem c_Row_add (l : Launch) (D : va_G) (cI cR cL : ClassId) (B N : Nat) (ad : Nat → Nat) (cw : Nat → va_E) {r a n : Nat} (hr9 : r < N) (er : cw r = .inr (2, [.ref (ad (a)), .int (nI n)])) {lim : Nat} {f : Nat → Int32} (hl9 : lim < 2 ^ 31) (ha9 : a < N) (ea : cw a = .inl (cI, lim, .inl (f))) (hra : r ≠ a) (hn : n < lim) (x : Int32) : Met l yX2_add wsX2_add ({ frames := 0, cells := 0, slots := 0, locals := 0 } : Room) (va_Pc [.ref (ad (r)), .int (x)] (zI D vwCl (zTy cI cR cL) B N ad cw)) (zQv D vwCl B N ad (fun (cw' : Nat → va_E) => cw' = va_up (va_up cw a (.inl (cI, lim, .inl (upd f n x)))) r (.inr (2, [.ref (ad (a)), .int (nI (n + 1))])))) 0 0 (zA B) := by
  refine z_ofW (cc := cX2_add) (maxL := 2) (ret := none) (by decide) rfl (Nat.le_of_ble_eq_true rfl) ?_
  intro p e s m args below meth c C hr hnm
  refine z_lv (lv' := [(0, .ref (ad (r))), (1, .int (x))]) [0, 1] rfl ?_
  refine z_aload_n C dX2_add_0 0 rfl ?_
  refine z_get (Cn := RX2) (T := TX2) (NF := 2) (ci := 2) (v := .ref (ad (a))) C qX2_add_0 rfl 0 (by decide) (C.2.2.2.2.1 _ qX2_add_1) (fun _ h9 => h9) dX2_add_1 (r) hr9 er rfl ?_
  refine z_aload_n C dX2_add_4 0 rfl ?_
  refine z_get (Cn := RX2) (T := TX2) (NF := 2) (ci := 2) (v := .int (nI n)) C qX2_add_0 rfl 1 (by decide) (C.2.2.2.2.1 _ qX2_add_2) (fun _ h9 => h9) dX2_add_5 (r) hr9 er rfl ?_
  refine z_iload_n C dX2_add_8 1 rfl ?_
  obtain ⟨cw1, ecw1⟩ : ∃ z : Nat → va_E, z = va_up (cw) (a) (.inl (cI, lim, .inl (upd (f) (n) ((x))))) := ⟨_, rfl⟩
  refine z_iast C 0 rfl dX2_add_9 (a) ha9 ea (n) (rfl) (hn) hl9 ?_
  refine z_cw ecw1.symm ?_
  have hw_2 : cw1 (r) = .inr (2, [.ref (ad (a)), .int (nI n)]) := by rw [ecw1, va_up_ne _ _ hra]; exact er
  have hw_3 : cw1 (a) = .inl (cI, lim, .inl (upd (f) (n) ((x)))) := by rw [ecw1, va_up_self]
  refine z_aload_n C dX2_add_10 0 rfl ?_
  refine z_dup C dX2_add_11 rfl ?_
  refine z_get (Cn := RX2) (T := TX2) (NF := 2) (ci := 2) (v := .int (nI n)) C qX2_add_0 rfl 1 (by decide) (C.2.2.2.2.1 _ qX2_add_2) (fun _ h9 => h9) dX2_add_12 (r) hr9 hw_2 rfl ?_
  refine z_iconst (v := nI 1) C dX2_add_15 (by decide) ?_
  refine z_iadd C dX2_add_16 ?_
  refine z_top (y := nI (n + 1)) (nI_1 n) ?_
  obtain ⟨cw4, ecw4⟩ : ∃ z : Nat → va_E, z = va_up (cw1) (r) (.inr (2, [.ref (ad (a)), .int (nI (n + 1))])) := ⟨_, rfl⟩
  refine z_put (Cn := RX2) (T := TX2) (NF := 2) (ci := 2) (ty := .int) (v := .int (nI (n + 1))) C qX2_add_0 tyX2_ok nmX2 rfl 1 (by decide) (C.2.2.2.2.1 _ qX2_add_2) (fun _ h9 => h9) rfl (by decide +kernel) dX2_add_17 (r) hr9 hw_2 rfl rfl (Nat.le_of_ble_eq_true rfl) ?_
  refine z_cw ecw4.symm ?_
  have hw_5 : cw4 (r) = .inr (2, [.ref (ad (a)), .int (nI (n + 1))]) := by rw [ecw4, va_up_self]
  have hw_6 : cw4 (a) = .inl (cI, lim, .inl (upd (f) (n) ((x)))) := by rw [ecw4, va_up_ne _ _ (Ne.symm hra)]; exact hw_3
  exact z_vret C hr dX2_add_20 (by rw [ecw4, ecw1]) (Nat.le_of_ble_eq_true rfl) (Nat.le_of_ble_eq_true rfl)

theorem qX2_addPart_0 : ∀ w ∈ wsX20, w ∈ wsX2_addPart := by decide +kernel
theorem qX2_addPart_1 : Cond.fieldLink RX2 7 "PieceText$Row" "characters" "[I" ∈ wsX2_addPart := by decide +kernel
theorem qX2_addPart_2 : Cond.fieldLink RX2 13 "PieceText$Row" "length" "I" ∈ wsX2_addPart := by decide +kernel
theorem qX2_addPart_3 : Cond.methodLink RX2 17 arraycopyName ∈ wsX2_addPart := by decide +kernel
theorem qX2_addPart_4 : Cond.native arraycopyName ∈ wsX2_addPart := by decide +kernel
theorem qX2_addPart_5 : Cond.static arraycopyName ∈ wsX2_addPart := by decide +kernel
theorem qX2_addPart_6 : Cond.initialized "java/lang/System" ∈ wsX2_addPart := by decide +kernel
set_option maxHeartbeats 4000000 in
set_option maxRecDepth 100000 in
theorem c_Row_addPart (l : Launch) (D : va_G) (cI cR cL : ClassId) (B N : Nat) (ad : Nat → Nat) (cw : Nat → va_E) {r a n : Nat} (hr9 : r < N) (er : cw r = .inr (2, [.ref (ad (a)), .int (nI n)])) {lim : Nat} {f : Nat → Int32} (hl9 : lim < 2 ^ 31) (ha9 : a < N) (ea : cw a = .inl (cI, lim, .inl (f))) {r2 a2 lim2 : Nat} {len2 : Int32} {g : Nat → Int32} (hl2 : lim2 < 2 ^ 31) (hr2 : r2 < N) (er2 : cw r2 = .inr (2, [.ref (ad (a2)), .int (len2)])) (ha2 : a2 < N) (ea2 : cw a2 = .inl (cI, lim2, .inl (g))) (hra : r ≠ a) (h2 : r2 ≠ r ∧ r2 ≠ a ∧ a2 ≠ r ∧ a2 ≠ a) {b k : Nat} (hbk : b ≤ k) (hk : k ≤ lim2) (hn : n + (k - b) ≤ lim) : Met l yX2_addPart wsX2_addPart ({ frames := 1, cells := 0, slots := 0, locals := 60 } : Room) (va_Pc [.ref (ad (r)), .ref (ad (r2)), .int (nI b), .int (nI k)] (zI D vwCl (zTy cI cR cL) B N ad cw)) (zQv D vwCl B N ad (fun (cw' : Nat → va_E) => cw' = va_up (va_up cw a (.inl (cI, lim, .inl (va_cpy g f b n (k - b))))) r (.inr (2, [.ref (ad (a)), .int (nI (n + (k - b)))])))) 0 0 (zA B) := by
  refine z_ofW (cc := cX2_addPart) (maxL := 4) (ret := none) (by decide) rfl (Nat.le_of_ble_eq_true rfl) ?_
  intro p e s m args below meth c C hr hnm
  refine z_lv (lv' := [(0, .ref (ad (r))), (1, .ref (ad (r2))), (2, .int (nI b)), (3, .int (nI k))]) [0, 1, 2, 3] rfl ?_
  refine z_aload_n C dX2_addPart_0 1 rfl ?_
  refine z_get (Cn := RX2) (T := TX2) (NF := 2) (ci := 2) (v := .ref (ad (a2))) C qX2_addPart_0 rfl 0 (by decide) (C.2.2.2.2.1 _ qX2_addPart_1) (fun _ h9 => h9) dX2_addPart_1 (r2) hr2 er2 rfl ?_
  refine z_iload_n C dX2_addPart_4 2 rfl ?_
  refine z_aload_n C dX2_addPart_5 0 rfl ?_
  refine z_get (Cn := RX2) (T := TX2) (NF := 2) (ci := 2) (v := .ref (ad (a))) C qX2_addPart_0 rfl 0 (by decide) (C.2.2.2.2.1 _ qX2_addPart_1) (fun _ h9 => h9) dX2_addPart_6 (r) hr9 er rfl ?_
  refine z_aload_n C dX2_addPart_9 0 rfl ?_
  refine z_get (Cn := RX2) (T := TX2) (NF := 2) (ci := 2) (v := .int (nI n)) C qX2_addPart_0 rfl 1 (by decide) (C.2.2.2.2.1 _ qX2_addPart_2) (fun _ h9 => h9) dX2_addPart_10 (r) hr9 er rfl ?_
  refine z_iload_n C dX2_addPart_13 3 rfl ?_
  refine z_iload_n C dX2_addPart_14 2 rfl ?_
  refine z_isub C dX2_addPart_15 ?_
  obtain ⟨cw1, ecw1⟩ : ∃ z : Nat → va_E, z = va_up (cw) (a) (.inl (cI, lim, .inl (va_cpy (g) (f) (b) (n) (k - b)))) := ⟨_, rfl⟩
  refine z_copy (sp := b) (dp := n) (n := k - b) C (C.2.2.2.2.1 _ qX2_addPart_3) (C.2.2.2.2.1 _ qX2_addPart_4) (C.2.2.2.2.1 _ qX2_addPart_5) (C.2.2.2.2.1 _ qX2_addPart_6) 0 rfl (Nat.le_of_ble_eq_true rfl) (Nat.le_of_ble_eq_true rfl) dX2_addPart_16 (a2) (a) ha2 ha9 ea2 ea (rfl) (rfl) (pk_sub hbk) (by omega) (hn) hl2 hl9 ?_
  refine z_cw ecw1.symm ?_
  have hw_2 : cw1 (r) = .inr (2, [.ref (ad (a)), .int (nI n)]) := by rw [ecw1, va_up_ne _ _ hra]; exact er
  have hw_3 : cw1 (a) = .inl (cI, lim, .inl (va_cpy (g) (f) (b) (n) (k - b))) := by rw [ecw1, va_up_self]
  have hw_4 : cw1 (r2) = .inr (2, [.ref (ad (a2)), .int (len2)]) := by rw [ecw1, va_up_ne _ _ h2.2.1]; exact er2
  have hw_5 : cw1 (a2) = .inl (cI, lim2, .inl (g)) := by rw [ecw1, va_up_ne _ _ h2.2.2.2]; exact ea2
  refine z_aload_n C dX2_addPart_19 0 rfl ?_
  refine z_dup C dX2_addPart_20 rfl ?_
  refine z_get (Cn := RX2) (T := TX2) (NF := 2) (ci := 2) (v := .int (nI n)) C qX2_addPart_0 rfl 1 (by decide) (C.2.2.2.2.1 _ qX2_addPart_2) (fun _ h9 => h9) dX2_addPart_21 (r) hr9 hw_2 rfl ?_
  refine z_iload_n C dX2_addPart_24 3 rfl ?_
  refine z_iload_n C dX2_addPart_25 2 rfl ?_
  refine z_isub C dX2_addPart_26 ?_
  refine z_top (y := nI (k - b)) (pk_sub hbk) ?_
  refine z_iadd C dX2_addPart_27 ?_
  refine z_top (y := nI (n + (k - b))) (nI_add _ _) ?_
  obtain ⟨cw6, ecw6⟩ : ∃ z : Nat → va_E, z = va_up (cw1) (r) (.inr (2, [.ref (ad (a)), .int (nI (n + (k - b)))])) := ⟨_, rfl⟩
  refine z_put (Cn := RX2) (T := TX2) (NF := 2) (ci := 2) (ty := .int) (v := .int (nI (n + (k - b)))) C qX2_addPart_0 tyX2_ok nmX2 rfl 1 (by decide) (C.2.2.2.2.1 _ qX2_addPart_2) (fun _ h9 => h9) rfl (by decide +kernel) dX2_addPart_28 (r) hr9 hw_2 rfl rfl (Nat.le_of_ble_eq_true rfl) ?_
  refine z_cw ecw6.symm ?_
  have hw_7 : cw6 (r) = .inr (2, [.ref (ad (a)), .int (nI (n + (k - b)))]) := by rw [ecw6, va_up_self]
  have hw_8 : cw6 (a) = .inl (cI, lim, .inl (va_cpy (g) (f) (b) (n) (k - b))) := by rw [ecw6, va_up_ne _ _ (Ne.symm hra)]; exact hw_3
  have hw_9 : cw6 (r2) = .inr (2, [.ref (ad (a2)), .int (len2)]) := by rw [ecw6, va_up_ne _ _ h2.1]; exact hw_4
  have hw_10 : cw6 (a2) = .inl (cI, lim2, .inl (g)) := by rw [ecw6, va_up_ne _ _ h2.2.2.1]; exact hw_5
  exact z_vret C hr dX2_addPart_31 (by rw [ecw6, ecw1]) (Nat.le_of_ble_eq_true rfl) (Nat.le_of_ble_eq_true rfl)

set_option maxHeartbeats 4000000 in
set_option maxRecDepth 100000 in
theorem c_Row_addSelf (l : Launch) (D : va_G) (cI cR cL : ClassId) (B N : Nat) (ad : Nat → Nat) (cw : Nat → va_E) {r a n : Nat} (hr9 : r < N) (er : cw r = .inr (2, [.ref (ad (a)), .int (nI n)])) {lim : Nat} {f : Nat → Int32} (hl9 : lim < 2 ^ 31) (ha9 : a < N) (ea : cw a = .inl (cI, lim, .inl (f))) (hra : r ≠ a) {b k : Nat} (hbk : b ≤ k) (hk : k ≤ lim) (hn : n + (k - b) ≤ lim) : Met l yX2_addPart wsX2_addPart ({ frames := 1, cells := 0, slots := 0, locals := 60 } : Room) (va_Pc [.ref (ad (r)), .ref (ad (r)), .int (nI b), .int (nI k)] (zI D vwCl (zTy cI cR cL) B N ad cw)) (zQv D vwCl B N ad (fun (cw' : Nat → va_E) => cw' = va_up (va_up cw a (.inl (cI, lim, .inl (va_cpy f f b n (k - b))))) r (.inr (2, [.ref (ad (a)), .int (nI (n + (k - b)))])))) 0 0 (zA B) := by
  refine z_ofW (cc := cX2_addPart) (maxL := 4) (ret := none) (by decide) rfl (Nat.le_of_ble_eq_true rfl) ?_
  intro p e s m args below meth c C hr hnm
  refine z_lv (lv' := [(0, .ref (ad (r))), (1, .ref (ad (r))), (2, .int (nI b)), (3, .int (nI k))]) [0, 1, 2, 3] rfl ?_
  refine z_aload_n C dX2_addPart_0 1 rfl ?_
  refine z_get (Cn := RX2) (T := TX2) (NF := 2) (ci := 2) (v := .ref (ad (a))) C qX2_addPart_0 rfl 0 (by decide) (C.2.2.2.2.1 _ qX2_addPart_1) (fun _ h9 => h9) dX2_addPart_1 (r) hr9 er rfl ?_
  refine z_iload_n C dX2_addPart_4 2 rfl ?_
  refine z_aload_n C dX2_addPart_5 0 rfl ?_
  refine z_get (Cn := RX2) (T := TX2) (NF := 2) (ci := 2) (v := .ref (ad (a))) C qX2_addPart_0 rfl 0 (by decide) (C.2.2.2.2.1 _ qX2_addPart_1) (fun _ h9 => h9) dX2_addPart_6 (r) hr9 er rfl ?_
  refine z_aload_n C dX2_addPart_9 0 rfl ?_
  refine z_get (Cn := RX2) (T := TX2) (NF := 2) (ci := 2) (v := .int (nI n)) C qX2_addPart_0 rfl 1 (by decide) (C.2.2.2.2.1 _ qX2_addPart_2) (fun _ h9 => h9) dX2_addPart_10 (r) hr9 er rfl ?_
  refine z_iload_n C dX2_addPart_13 3 rfl ?_
  refine z_iload_n C dX2_addPart_14 2 rfl ?_
  refine z_isub C dX2_addPart_15 ?_
  obtain ⟨cw1, ecw1⟩ : ∃ z : Nat → va_E, z = va_up (cw) (a) (.inl (cI, lim, .inl (va_cpy (f) (f) (b) (n) (k - b)))) := ⟨_, rfl⟩
  refine z_copy (sp := b) (dp := n) (n := k - b) C (C.2.2.2.2.1 _ qX2_addPart_3) (C.2.2.2.2.1 _ qX2_addPart_4) (C.2.2.2.2.1 _ qX2_addPart_5) (C.2.2.2.2.1 _ qX2_addPart_6) 0 rfl (Nat.le_of_ble_eq_true rfl) (Nat.le_of_ble_eq_true rfl) dX2_addPart_16 (a) (a) ha9 ha9 ea ea (rfl) (rfl) (pk_sub hbk) (by omega) (hn) hl9 hl9 ?_
  refine z_cw ecw1.symm ?_
  have hw_2 : cw1 (r) = .inr (2, [.ref (ad (a)), .int (nI n)]) := by rw [ecw1, va_up_ne _ _ hra]; exact er
  have hw_3 : cw1 (a) = .inl (cI, lim, .inl (va_cpy (f) (f) (b) (n) (k - b))) := by rw [ecw1, va_up_self]
  refine z_aload_n C dX2_addPart_19 0 rfl ?_
  refine z_dup C dX2_addPart_20 rfl ?_
  refine z_get (Cn := RX2) (T := TX2) (NF := 2) (ci := 2) (v := .int (nI n)) C qX2_addPart_0 rfl 1 (by decide) (C.2.2.2.2.1 _ qX2_addPart_2) (fun _ h9 => h9) dX2_addPart_21 (r) hr9 hw_2 rfl ?_
  refine z_iload_n C dX2_addPart_24 3 rfl ?_
  refine z_iload_n C dX2_addPart_25 2 rfl ?_
  refine z_isub C dX2_addPart_26 ?_
  refine z_top (y := nI (k - b)) (pk_sub hbk) ?_
  refine z_iadd C dX2_addPart_27 ?_
  refine z_top (y := nI (n + (k - b))) (nI_add _ _) ?_
  obtain ⟨cw4, ecw4⟩ : ∃ z : Nat → va_E, z = va_up (cw1) (r) (.inr (2, [.ref (ad (a)), .int (nI (n + (k - b)))])) := ⟨_, rfl⟩
  refine z_put (Cn := RX2) (T := TX2) (NF := 2) (ci := 2) (ty := .int) (v := .int (nI (n + (k - b)))) C qX2_addPart_0 tyX2_ok nmX2 rfl 1 (by decide) (C.2.2.2.2.1 _ qX2_addPart_2) (fun _ h9 => h9) rfl (by decide +kernel) dX2_addPart_28 (r) hr9 hw_2 rfl rfl (Nat.le_of_ble_eq_true rfl) ?_
  refine z_cw ecw4.symm ?_
  have hw_5 : cw4 (r) = .inr (2, [.ref (ad (a)), .int (nI (n + (k - b)))]) := by rw [ecw4, va_up_self]
  have hw_6 : cw4 (a) = .inl (cI, lim, .inl (va_cpy (f) (f) (b) (n) (k - b))) := by rw [ecw4, va_up_ne _ _ (Ne.symm hra)]; exact hw_3
  exact z_vret C hr dX2_addPart_31 (by rw [ecw4, ecw1]) (Nat.le_of_ble_eq_true rfl) (Nat.le_of_ble_eq_true rfl)

def zOcc (f g : Nat → Int32) (n m q : Nat) : Prop := q + m ≤ n ∧ ∀ i, i < m → f (q + i) = g i
theorem qX2_hasAt_0 : ∀ w ∈ wsX20, w ∈ wsX2_hasAt := by decide +kernel
theorem qX2_hasAt_1 : Cond.fieldLink RX2 13 "PieceText$Row" "length" "I" ∈ wsX2_hasAt := by decide +kernel
theorem qX2_hasAt_2 : Cond.fieldLink RX2 7 "PieceText$Row" "characters" "[I" ∈ wsX2_hasAt := by decide +kernel
set_option maxHeartbeats 4000000 in
set_option maxRecDepth 100000 in
theorem c_Row_hasAt (l : Launch) (D : va_G) (cI cR cL : ClassId) (B N : Nat) (ad : Nat → Nat) (cw : Nat → va_E) {r a n : Nat} (hr9 : r < N) (er : cw r = .inr (2, [.ref (ad (a)), .int (nI n)])) {lim : Nat} {f : Nat → Int32} (hl9 : lim < 2 ^ 31) (ha9 : a < N) (ea : cw a = .inl (cI, lim, .inl (f))) {r2 a2 lim2 : Nat} {k : Nat} {g : Nat → Int32} (hl2 : lim2 < 2 ^ 31) (hr2 : r2 < N) (er2 : cw r2 = .inr (2, [.ref (ad (a2)), .int (nI k)])) (ha2 : a2 < N) (ea2 : cw a2 = .inl (cI, lim2, .inl (g))) {q : Nat} (hq : q ≤ n) (hn : n ≤ lim) (hk : k ≤ lim2) (hlim : lim < 2 ^ 30 ∧ lim2 < 2 ^ 30) : Met l yX2_hasAt wsX2_hasAt ({ frames := 0, cells := 0, slots := 0, locals := 0 } : Room) (va_Pc [.ref (ad (r)), .int (nI q), .ref (ad (r2))] (zI D vwCl (zTy cI cR cL) B N ad cw)) (zQi D vwCl B N ad (fun (v : Int32) (cw' : Nat → va_E) => ((v = 1 ∧ zOcc f g n k q) ∨ (v = 0 ∧ ¬ zOcc f g n k q)) ∧ cw' = cw)) 0 0 (zA B) := by
  refine z_ofW (cc := cX2_hasAt) (maxL := 4) (ret := (some .boolean)) (by decide) rfl (Nat.le_of_ble_eq_true rfl) ?_
  intro p e s m args below meth c C hr hnm
  refine z_lv (lv' := [(0, .ref (ad (r))), (1, .int (nI q)), (2, .ref (ad (r2)))]) [0, 1, 2] rfl ?_
  refine z_aload_n C dX2_hasAt_0 2 rfl ?_
  refine z_get (Cn := RX2) (T := TX2) (NF := 2) (ci := 2) (v := .int (nI k)) C qX2_hasAt_0 rfl 1 (by decide) (C.2.2.2.2.1 _ qX2_hasAt_1) (fun _ h9 => h9) dX2_hasAt_1 (r2) hr2 er2 rfl ?_
  refine z_aload_n C dX2_hasAt_4 0 rfl ?_
  refine z_get (Cn := RX2) (T := TX2) (NF := 2) (ci := 2) (v := .int (nI n)) C qX2_hasAt_0 rfl 1 (by decide) (C.2.2.2.2.1 _ qX2_hasAt_1) (fun _ h9 => h9) dX2_hasAt_5 (r) hr9 er rfl ?_
  refine z_iload_n C dX2_hasAt_8 1 rfl ?_
  refine z_isub C dX2_hasAt_9 ?_
  refine z_top (y := nI (n - q)) (pk_sub hq) ?_
  refine z_icmp_le (tgt := 15) C dX2_hasAt_10 (by decide) (fun c1 => ?_) (fun c1 => ?_)
  · have hle : k ≤ n - q := (nI_leI (by omega) (by omega)).mp c1
    refine z_iconst (v := nI 0) C dX2_hasAt_15 (by decide) ?_
    refine z_istore_n (lv' := [(3, .int (nI 0)), (0, .ref (ad (r))), (1, .int (nI q)), (2, .ref (ad (r2)))]) C dX2_hasAt_16 rfl (by decide) rfl ?_
    suffices loop : ∀ (t i : Nat), k = i + t → (∀ j, j < i → f (q + j) = g j) → zG p l e (headSpec wsX2_hasAt ({ frames := 0, cells := 0, slots := 0, locals := 0 } : Room)).room s m args below meth c (MQ below (zQi D vwCl B N ad (fun (v : Int32) (cw' : Nat → va_E) => ((v = 1 ∧ zOcc f g n k q) ∨ (v = 0 ∧ ¬ zOcc f g n k q)) ∧ cw' = cw)) args s 0 0 (zA B)) D vwCl B 4 N ad cw 0 0 [(3, .int (nI i)), (0, .ref (ad (r))), (1, .int (nI q)), (2, .ref (ad (r2)))] 17 [] from loop k 0 (by omega) (fun j hj => absurd hj (by omega))
    intro t
    induction t with
    | zero =>
      intro i hi hpre
      refine z_iload_n C dX2_hasAt_17 0 rfl ?_
      refine z_aload_n C dX2_hasAt_18 3 rfl ?_
      refine z_get (Cn := RX2) (T := TX2) (NF := 2) (ci := 2) (v := .int (nI k)) C qX2_hasAt_0 rfl 1 (by decide) (C.2.2.2.2.1 _ qX2_hasAt_1) (fun _ h9 => h9) dX2_hasAt_19 (r2) hr2 er2 rfl ?_
      refine z_icmp_ge (tgt := 50) C dX2_hasAt_22 (by decide) (fun c2 => ?_) (fun c2 => ?_)
      · skip
        refine z_iconst (v := nI 1) C dX2_hasAt_50 (by decide) ?_
        exact z_zret C hr (by decide) dX2_hasAt_51 (⟨Or.inl ⟨rfl, by omega, fun j hj => hpre j (by omega)⟩, rfl⟩) (Nat.le_of_ble_eq_true rfl) (Nat.le_of_ble_eq_true rfl)
      · skip
        exact absurd (by rw [show i = k by omega]; exact nI_le (Nat.le_refl _) (by omega)) c2
    | succ t ih =>
      intro i hi hpre
      refine z_iload_n C dX2_hasAt_17 0 rfl ?_
      refine z_aload_n C dX2_hasAt_18 3 rfl ?_
      refine z_get (Cn := RX2) (T := TX2) (NF := 2) (ci := 2) (v := .int (nI k)) C qX2_hasAt_0 rfl 1 (by decide) (C.2.2.2.2.1 _ qX2_hasAt_1) (fun _ h9 => h9) dX2_hasAt_19 (r2) hr2 er2 rfl ?_
      refine z_icmp_ge (tgt := 50) C dX2_hasAt_22 (by decide) (fun c3 => ?_) (fun c3 => ?_)
      · skip
        exact absurd ((nI_leI (by omega) (by omega)).mp c3) (by omega)
      · skip
        refine z_aload_n C dX2_hasAt_25 1 rfl ?_
        refine z_get (Cn := RX2) (T := TX2) (NF := 2) (ci := 2) (v := .ref (ad (a))) C qX2_hasAt_0 rfl 0 (by decide) (C.2.2.2.2.1 _ qX2_hasAt_2) (fun _ h9 => h9) dX2_hasAt_26 (r) hr9 er rfl ?_
        refine z_iload_n C dX2_hasAt_29 2 rfl ?_
        refine z_iload_n C dX2_hasAt_30 0 rfl ?_
        refine z_iadd C dX2_hasAt_31 ?_
        refine z_top (y := nI (q + i)) (nI_add _ _) ?_
        refine z_iald C 0 rfl dX2_hasAt_32 (a) ha9 ea (q + i) (rfl) (by omega) hl9 ?_
        refine z_aload_n C dX2_hasAt_33 3 rfl ?_
        refine z_get (Cn := RX2) (T := TX2) (NF := 2) (ci := 2) (v := .ref (ad (a2))) C qX2_hasAt_0 rfl 0 (by decide) (C.2.2.2.2.1 _ qX2_hasAt_2) (fun _ h9 => h9) dX2_hasAt_34 (r2) hr2 er2 rfl ?_
        refine z_iload_n C dX2_hasAt_37 0 rfl ?_
        refine z_iald C 0 rfl dX2_hasAt_38 (a2) ha2 ea2 (i) (rfl) (by omega) hl2 ?_
        refine z_icmp_eq (tgt := 44) C dX2_hasAt_39 (by decide) (fun c4 => ?_) (fun c4 => ?_)
        · skip
          refine z_iinc (x := nI (i + 1)) (lv' := [(3, .int (nI (i + 1))), (0, .ref (ad (r))), (1, .int (nI q)), (2, .ref (ad (r2)))]) C dX2_hasAt_44 0 rfl (nI_1 i) (by decide) rfl ?_
          refine z_goto (tgt := 17) C dX2_hasAt_47 (by decide) ?_
          refine z_lv (lv' := [(3, .int (nI (i + 1))), (0, .ref (ad (r))), (1, .int (nI q)), (2, .ref (ad (r2)))]) [0, 1, 2, 3] rfl ?_
          exact ih (i + 1) (by omega) (fun j hj => by rcases Nat.lt_succ_iff_lt_or_eq.mp hj with h | h; exact hpre j h; rw [h]; exact c4)
        · skip
          refine z_iconst (v := nI 0) C dX2_hasAt_42 (by decide) ?_
          exact z_zret C hr (by decide) dX2_hasAt_43 (⟨Or.inr ⟨rfl, fun h => c4 (h.2 i (by omega))⟩, rfl⟩) (Nat.le_of_ble_eq_true rfl) (Nat.le_of_ble_eq_true rfl)
  · skip
    refine z_iconst (v := nI 0) C dX2_hasAt_13 (by decide) ?_
    exact z_zret C hr (by decide) dX2_hasAt_14 (⟨Or.inr ⟨rfl, fun h => c1 (nI_le (by have := h.1; omega) (by omega))⟩, rfl⟩) (Nat.le_of_ble_eq_true rfl) (Nat.le_of_ble_eq_true rfl)
end
section
def aPast (past : Nat) : Nat := if past = 12 then 12 else past + 1
theorem z_min12 {past : Nat} (h : past ≤ 12) : (if nI 12 < nI (past + 1) then nI 12 else nI (past + 1)) = nI (aPast past) := by
  unfold aPast
  rcases Nat.lt_or_eq_of_le h with h | h
  · rw [if_neg (nI_nlt (by omega) (by omega)), if_neg (by omega)]
  · subst h; decide
theorem qX0_present_0 : ∀ w ∈ wsX00, w ∈ wsX0_present := by decide +kernel
theorem qX0_present_1 : Cond.fieldLink RX0 13 "PieceText$History" "texts" "[LPieceText$Row;" ∈ wsX0_present := by decide +kernel
theorem qX0_present_2 : Cond.fieldLink RX0 20 "PieceText$History" "now" "I" ∈ wsX0_present := by decide +kernel
set_option maxHeartbeats 4000000 in
set_option maxRecDepth 100000 in
theorem c_Hist_present (l : Launch) (D : va_G) (cI cR cL : ClassId) (B N : Nat) (ad : Nat → Nat) (cw : Nat → va_E) {now past fut : Nat} (h1N : 1 < N) (eh : cw 1 = .inr (0, [.ref (ad (2)), .int (nI now), .int (nI past), .int (nI fut)])) {fr : Nat → Option Nat} (h2N : 2 < N) (et : cw 2 = .inl (cR, 13, .inr (.inr (.inr (.inr (fr)))))) (hfr : ∀ i, i < 13 → fr i = some (ad (3 + 2 * i))) (hnow : now < 13) : Met l yX0_present wsX0_present ({ frames := 0, cells := 0, slots := 0, locals := 0 } : Room) (va_Pc [.ref (ad (1))] (zI D vwCl (zTy cI cR cL) B N ad cw)) (zQr D vwCl B N ad (fun (v : Nat) (cw' : Nat → va_E) => v = ad (3 + 2 * now) ∧ cw' = cw)) 0 0 (zA B) := by
  refine z_ofW (cc := cX0_present) (maxL := 1) (ret := (some (.object "PieceText$Row"))) (by decide) rfl (Nat.le_of_ble_eq_true rfl) ?_
  intro p e s m args below meth c C hr hnm
  refine z_lv (lv' := [(0, .ref (ad (1)))]) [0] rfl ?_
  refine z_aload_n C dX0_present_0 0 rfl ?_
  refine z_get (Cn := RX0) (T := TX0) (NF := 4) (ci := 0) (v := .ref (ad (2))) C qX0_present_0 rfl 0 (by decide) (C.2.2.2.2.1 _ qX0_present_1) (fun _ h9 => h9) dX0_present_1 (1) h1N eh rfl ?_
  refine z_aload_n C dX0_present_4 0 rfl ?_
  refine z_get (Cn := RX0) (T := TX0) (NF := 4) (ci := 0) (v := .int (nI now)) C qX0_present_0 rfl 1 (by decide) (C.2.2.2.2.1 _ qX0_present_2) (fun _ h9 => h9) dX0_present_5 (1) h1N eh rfl ?_
  refine z_aald (a := ad (3 + 2 * now)) C 1 rfl dX0_present_8 (2) h2N et (now) (rfl) (hnow) (by decide) (hfr now hnow) ?_
  exact z_aret C hr (Or.inl ⟨_, rfl⟩) dX0_present_9 (⟨rfl, rfl⟩) (Nat.le_of_ble_eq_true rfl) (Nat.le_of_ble_eq_true rfl)

theorem qX0_pastSize_0 : ∀ w ∈ wsX00, w ∈ wsX0_pastSize := by decide +kernel
theorem qX0_pastSize_1 : Cond.fieldLink RX0 24 "PieceText$History" "past" "I" ∈ wsX0_pastSize := by decide +kernel
set_option maxHeartbeats 4000000 in
set_option maxRecDepth 100000 in
theorem c_Hist_pastSize (l : Launch) (D : va_G) (cI cR cL : ClassId) (B N : Nat) (ad : Nat → Nat) (cw : Nat → va_E) {now past fut : Nat} (h1N : 1 < N) (eh : cw 1 = .inr (0, [.ref (ad (2)), .int (nI now), .int (nI past), .int (nI fut)])) : Met l yX0_pastSize wsX0_pastSize ({ frames := 0, cells := 0, slots := 0, locals := 0 } : Room) (va_Pc [.ref (ad (1))] (zI D vwCl (zTy cI cR cL) B N ad cw)) (zQi D vwCl B N ad (fun (v : Int32) (cw' : Nat → va_E) => v = nI past ∧ cw' = cw)) 0 0 (zA B) := by
  refine z_ofW (cc := cX0_pastSize) (maxL := 1) (ret := (some .int)) (by decide) rfl (Nat.le_of_ble_eq_true rfl) ?_
  intro p e s m args below meth c C hr hnm
  refine z_lv (lv' := [(0, .ref (ad (1)))]) [0] rfl ?_
  refine z_aload_n C dX0_pastSize_0 0 rfl ?_
  refine z_get (Cn := RX0) (T := TX0) (NF := 4) (ci := 0) (v := .int (nI past)) C qX0_pastSize_0 rfl 2 (by decide) (C.2.2.2.2.1 _ qX0_pastSize_1) (fun _ h9 => h9) dX0_pastSize_1 (1) h1N eh rfl ?_
  exact z_iret C hr dX0_pastSize_4 (⟨rfl, rfl⟩) (Nat.le_of_ble_eq_true rfl) (Nat.le_of_ble_eq_true rfl)

theorem qX0_futureSize_0 : ∀ w ∈ wsX00, w ∈ wsX0_futureSize := by decide +kernel
theorem qX0_futureSize_1 : Cond.fieldLink RX0 27 "PieceText$History" "future" "I" ∈ wsX0_futureSize := by decide +kernel
set_option maxHeartbeats 4000000 in
set_option maxRecDepth 100000 in
theorem c_Hist_futureSize (l : Launch) (D : va_G) (cI cR cL : ClassId) (B N : Nat) (ad : Nat → Nat) (cw : Nat → va_E) {now past fut : Nat} (h1N : 1 < N) (eh : cw 1 = .inr (0, [.ref (ad (2)), .int (nI now), .int (nI past), .int (nI fut)])) : Met l yX0_futureSize wsX0_futureSize ({ frames := 0, cells := 0, slots := 0, locals := 0 } : Room) (va_Pc [.ref (ad (1))] (zI D vwCl (zTy cI cR cL) B N ad cw)) (zQi D vwCl B N ad (fun (v : Int32) (cw' : Nat → va_E) => v = nI fut ∧ cw' = cw)) 0 0 (zA B) := by
  refine z_ofW (cc := cX0_futureSize) (maxL := 1) (ret := (some .int)) (by decide) rfl (Nat.le_of_ble_eq_true rfl) ?_
  intro p e s m args below meth c C hr hnm
  refine z_lv (lv' := [(0, .ref (ad (1)))]) [0] rfl ?_
  refine z_aload_n C dX0_futureSize_0 0 rfl ?_
  refine z_get (Cn := RX0) (T := TX0) (NF := 4) (ci := 0) (v := .int (nI fut)) C qX0_futureSize_0 rfl 3 (by decide) (C.2.2.2.2.1 _ qX0_futureSize_1) (fun _ h9 => h9) dX0_futureSize_1 (1) h1N eh rfl ?_
  exact z_iret C hr dX0_futureSize_4 (⟨rfl, rfl⟩) (Nat.le_of_ble_eq_true rfl) (Nat.le_of_ble_eq_true rfl)

theorem qX0_keep_0 : ∀ w ∈ wsX00, w ∈ wsX0_keep := by decide +kernel
theorem qX0_keep_1 : Cond.fieldLink RX0 20 "PieceText$History" "now" "I" ∈ wsX0_keep := by decide +kernel
theorem qX0_keep_2 : Cond.fieldLink RX0 13 "PieceText$History" "texts" "[LPieceText$Row;" ∈ wsX0_keep := by decide +kernel
theorem qX0_keep_3 : Cond.fieldLink RX0 24 "PieceText$History" "past" "I" ∈ wsX0_keep := by decide +kernel
theorem qX0_keep_4 : Cond.methodLink RX0 41 Lib.Math.min.name ∈ wsX0_keep := by decide +kernel
theorem qX0_keep_5 : Cond.static Lib.Math.min.name ∈ wsX0_keep := by decide +kernel
theorem qX0_keep_6 : Cond.initialized "java/lang/Math" ∈ wsX0_keep := by decide +kernel
theorem qX0_keep_7 : Cond.code Lib.Math.min.name Lib.Math.min.code 2 (some .int) ∈ wsX0_keep := by decide +kernel
theorem qX0_keep_8 : Cond.fieldLink RX0 27 "PieceText$History" "future" "I" ∈ wsX0_keep := by decide +kernel
set_option maxHeartbeats 4000000 in
set_option maxRecDepth 100000 in
theorem c_Hist_keep (l : Launch) (D : va_G) (cI cR cL : ClassId) (B N : Nat) (ad : Nat → Nat) (cw : Nat → va_E) {now past fut : Nat} (h1N : 1 < N) (eh : cw 1 = .inr (0, [.ref (ad (2)), .int (nI now), .int (nI past), .int (nI fut)])) {fr : Nat → Option Nat} (h2N : 2 < N) (et : cw 2 = .inl (cR, 13, .inr (.inr (.inr (.inr (fr)))))) (hfr : ∀ i, i < 13 → fr i = some (ad (3 + 2 * i))) (hnow : now < 13) {k len : Nat} {f : Nat → Int32} (hk13 : k < 13) (hNk : 31 < N) (ek : cw (3 + 2 * k) = .inr (2, [.ref (ad (4 + 2 * k)), .int (nI len)])) (eka : cw (4 + 2 * k) = .inl (cI, 240, .inl (f))) {n : Nat} {g : Nat → Int32} (h35 : 35 < N) (ed : cw 34 = .inr (2, [.ref (ad (35)), .int (nI n)])) (eda : cw 35 = .inl (cI, 240, .inl (g))) (hn : n ≤ 240) (hk : k = (now + 1) % 13) (hp12 : past ≤ 12) : Met l yX0_keep wsX0_keep ({ frames := 2, cells := 0, slots := 0, locals := 83 } : Room) (va_Pc [.ref (ad (1)), .ref (ad (34))] (zI D vwCl (zTy cI cR cL) B N ad cw)) (zQv D vwCl B N ad (fun (cw' : Nat → va_E) => cw' 1 = .inr (0, [.ref (ad (2)), .int (nI k), .int (nI (aPast past)), .int (nI 0)]) ∧ cw' (3 + 2 * k) = .inr (2, [.ref (ad (4 + 2 * k)), .int (nI (0 + (n - 0)))]) ∧ cw' (4 + 2 * k) = .inl (cI, 240, .inl (va_cpy (g) (f) (0) (0) (n - 0))) ∧ ∀ j, (j ≠ 1 ∧ j ≠ 3 + 2 * k ∧ j ≠ 4 + 2 * k) → cw' j = cw j)) 0 0 (zA B) := by
  refine z_ofW (cc := cX0_keep) (maxL := 2) (ret := none) (by decide) rfl (Nat.le_of_ble_eq_true rfl) ?_
  intro p e s m args below meth c C hr hnm
  refine z_lv (lv' := [(0, .ref (ad (1))), (1, .ref (ad (34)))]) [0, 1] rfl ?_
  refine z_aload_n C dX0_keep_0 0 rfl ?_
  refine z_aload_n C dX0_keep_1 0 rfl ?_
  refine z_get (Cn := RX0) (T := TX0) (NF := 4) (ci := 0) (v := .int (nI now)) C qX0_keep_0 rfl 1 (by decide) (C.2.2.2.2.1 _ qX0_keep_1) (fun _ h9 => h9) dX0_keep_2 (1) h1N eh rfl ?_
  refine z_iconst (v := nI 1) C dX0_keep_5 (by decide) ?_
  refine z_iadd C dX0_keep_6 ?_
  refine z_top (y := nI (now + 1)) (nI_1 now) ?_
  refine z_bipush (v := nI 13) C dX0_keep_7 (by decide) ?_
  refine z_irem C dX0_keep_9 (by decide) ?_
  refine z_top (y := nI k) ((pk_rem (by omega) (by omega) (by omega)).trans (by rw [hk])) ?_
  obtain ⟨cw1, ecw1⟩ : ∃ z : Nat → va_E, z = va_up (cw) (1) (.inr (0, [.ref (ad (2)), .int (nI k), .int (nI past), .int (nI fut)])) := ⟨_, rfl⟩
  refine z_put (Cn := RX0) (T := TX0) (NF := 4) (ci := 0) (ty := .int) (v := .int (nI k)) C qX0_keep_0 tyX0_ok nmX0 rfl 1 (by decide) (C.2.2.2.2.1 _ qX0_keep_1) (fun _ h9 => h9) rfl (by decide +kernel) dX0_keep_10 (1) h1N eh rfl rfl (Nat.le_of_ble_eq_true rfl) ?_
  refine z_cw ecw1.symm ?_
  have hw_2 : cw1 (1) = .inr (0, [.ref (ad (2)), .int (nI k), .int (nI past), .int (nI fut)]) := by rw [ecw1, va_up_self]
  have hw_3 : cw1 (2) = .inl (cR, 13, .inr (.inr (.inr (.inr (fr))))) := by rw [ecw1, va_up_ne _ _ (by decide)]; exact et
  have hw_4 : cw1 (3 + 2 * k) = .inr (2, [.ref (ad (4 + 2 * k)), .int (nI len)]) := by rw [ecw1, va_up_ne _ _ (by omega)]; exact ek
  have hw_5 : cw1 (4 + 2 * k) = .inl (cI, 240, .inl (f)) := by rw [ecw1, va_up_ne _ _ (by omega)]; exact eka
  have hw_6 : cw1 (34) = .inr (2, [.ref (ad (35)), .int (nI n)]) := by rw [ecw1, va_up_ne _ _ (by decide)]; exact ed
  have hw_7 : cw1 (35) = .inl (cI, 240, .inl (g)) := by rw [ecw1, va_up_ne _ _ (by decide)]; exact eda
  refine z_aload_n C dX0_keep_13 0 rfl ?_
  refine z_get (Cn := RX0) (T := TX0) (NF := 4) (ci := 0) (v := .ref (ad (2))) C qX0_keep_0 rfl 0 (by decide) (C.2.2.2.2.1 _ qX0_keep_2) (fun _ h9 => h9) dX0_keep_14 (1) h1N hw_2 rfl ?_
  refine z_aload_n C dX0_keep_17 0 rfl ?_
  refine z_get (Cn := RX0) (T := TX0) (NF := 4) (ci := 0) (v := .int (nI k)) C qX0_keep_0 rfl 1 (by decide) (C.2.2.2.2.1 _ qX0_keep_1) (fun _ h9 => h9) dX0_keep_18 (1) h1N hw_2 rfl ?_
  refine z_aald (a := ad (3 + 2 * k)) C 1 rfl dX0_keep_21 (2) h2N hw_3 (k) (rfl) (hk13) (by decide) (hfr k hk13) ?_
  refine z_callv (z_runV (As := []) (rest := []) C (c_Row_empty l D cI cR cL B N ad cw1 (by omega) hw_4) (cwV 0 C.2.2.2.2.1 gX0_keep_X2_empty rfl rfl rfl (by decide +kernel) ⟨Nat.le_of_ble_eq_true rfl, Nat.le_of_ble_eq_true rfl⟩) (by omega) hw_4 rfl rfl rfl rfl (Nat.le_of_ble_eq_true rfl) dX0_keep_22 ⟨Nat.le_of_ble_eq_true rfl, Nat.le_of_ble_eq_true rfl⟩) (fun cw8 hp9 => ?_)
  have hw_10 : cw8 (1) = .inr (0, [.ref (ad (2)), .int (nI k), .int (nI past), .int (nI fut)]) := by rw [hp9, va_up_ne _ _ (by omega)]; exact hw_2
  have hw_11 : cw8 (2) = .inl (cR, 13, .inr (.inr (.inr (.inr (fr))))) := by rw [hp9, va_up_ne _ _ (by omega)]; exact hw_3
  have hw_12 : cw8 (3 + 2 * k) = .inr (2, [.ref (ad (4 + 2 * k)), .int (nI 0)]) := by rw [hp9, va_up_self]
  have hw_13 : cw8 (4 + 2 * k) = .inl (cI, 240, .inl (f)) := by rw [hp9, va_up_ne _ _ (by omega)]; exact hw_5
  have hw_14 : cw8 (34) = .inr (2, [.ref (ad (35)), .int (nI n)]) := by rw [hp9, va_up_ne _ _ (by omega)]; exact hw_6
  have hw_15 : cw8 (35) = .inl (cI, 240, .inl (g)) := by rw [hp9, va_up_ne _ _ (by omega)]; exact hw_7
  refine z_aload_n C dX0_keep_25 0 rfl ?_
  refine z_get (Cn := RX0) (T := TX0) (NF := 4) (ci := 0) (v := .ref (ad (2))) C qX0_keep_0 rfl 0 (by decide) (C.2.2.2.2.1 _ qX0_keep_2) (fun _ h9 => h9) dX0_keep_26 (1) h1N hw_10 rfl ?_
  refine z_aload_n C dX0_keep_29 0 rfl ?_
  refine z_get (Cn := RX0) (T := TX0) (NF := 4) (ci := 0) (v := .int (nI k)) C qX0_keep_0 rfl 1 (by decide) (C.2.2.2.2.1 _ qX0_keep_1) (fun _ h9 => h9) dX0_keep_30 (1) h1N hw_10 rfl ?_
  refine z_aald (a := ad (3 + 2 * k)) C 1 rfl dX0_keep_33 (2) h2N hw_11 (k) (rfl) (hk13) (by decide) (hfr k hk13) ?_
  refine z_aload_n C dX0_keep_34 1 rfl ?_
  refine z_iconst (v := nI 0) C dX0_keep_35 (by decide) ?_
  refine z_aload_n C dX0_keep_36 1 rfl ?_
  refine z_calli (z_runV (As := []) (rest := [.int (nI 0), .ref (ad (34)), .ref (ad (3 + 2 * k))]) C (c_Row_size l D cI cR cL B N ad cw8 (by omega) hw_14) (cwV 0 C.2.2.2.2.1 gX0_keep_X2_size rfl rfl rfl (by decide +kernel) ⟨Nat.le_of_ble_eq_true rfl, Nat.le_of_ble_eq_true rfl⟩) (by omega) hw_14 rfl rfl rfl rfl (Nat.le_of_ble_eq_true rfl) dX0_keep_37 ⟨Nat.le_of_ble_eq_true rfl, Nat.le_of_ble_eq_true rfl⟩) (fun r16 cw17 hp18 => ?_)
  refine z_cw hp18.2 ?_
  refine z_top hp18.1 ?_
  refine z_callv (z_runV (As := [.ref (ad (34)), .int (nI (0)), .int (nI (n))]) (rest := []) C (c_Row_addPart l D cI cR cL B N ad cw8 (by omega) hw_12 (by decide) (by omega) hw_13 (by decide) (by omega) hw_14 h35 hw_15 (by omega) ⟨(by omega), (by omega), (by omega), (by omega)⟩ (b := 0) (k := n) (Nat.zero_le _) (hn) (by omega)) (cwV 3 C.2.2.2.2.1 gX0_keep_X2_addPart rfl rfl rfl (by decide +kernel) ⟨Nat.le_of_ble_eq_true rfl, Nat.le_of_ble_eq_true rfl⟩) (by omega) hw_12 rfl rfl rfl rfl (Nat.le_of_ble_eq_true rfl) dX0_keep_40 ⟨Nat.le_of_ble_eq_true rfl, Nat.le_of_ble_eq_true rfl⟩) (fun cw19 hp20 => ?_)
  have hw_21 : cw19 (1) = .inr (0, [.ref (ad (2)), .int (nI k), .int (nI past), .int (nI fut)]) := by rw [hp20, va_up_ne _ _ (by omega), va_up_ne _ _ (by omega)]; exact hw_10
  have hw_22 : cw19 (2) = .inl (cR, 13, .inr (.inr (.inr (.inr (fr))))) := by rw [hp20, va_up_ne _ _ (by omega), va_up_ne _ _ (by omega)]; exact hw_11
  have hw_23 : cw19 (3 + 2 * k) = .inr (2, [.ref (ad (4 + 2 * k)), .int (nI (0 + (n - 0)))]) := by rw [hp20, va_up_self]
  have hw_24 : cw19 (4 + 2 * k) = .inl (cI, 240, .inl (va_cpy (g) (f) (0) (0) (n - 0))) := by rw [hp20, va_up_ne _ _ (by omega), va_up_self]
  have hw_25 : cw19 (34) = .inr (2, [.ref (ad (35)), .int (nI n)]) := by rw [hp20, va_up_ne _ _ (by omega), va_up_ne _ _ (by omega)]; exact hw_14
  have hw_26 : cw19 (35) = .inl (cI, 240, .inl (g)) := by rw [hp20, va_up_ne _ _ (by omega), va_up_ne _ _ (by omega)]; exact hw_15
  refine z_aload_n C dX0_keep_43 0 rfl ?_
  refine z_aload_n C dX0_keep_44 0 rfl ?_
  refine z_get (Cn := RX0) (T := TX0) (NF := 4) (ci := 0) (v := .int (nI past)) C qX0_keep_0 rfl 2 (by decide) (C.2.2.2.2.1 _ qX0_keep_3) (fun _ h9 => h9) dX0_keep_45 (1) h1N hw_21 rfl ?_
  refine z_iconst (v := nI 1) C dX0_keep_48 (by decide) ?_
  refine z_iadd C dX0_keep_49 ?_
  refine z_top (y := nI (past + 1)) (nI_1 past) ?_
  refine z_bipush (v := nI 12) C dX0_keep_50 (by decide) ?_
  refine z_mmin C (C.2.2.2.2.1 _ qX0_keep_4) (C.2.2.2.2.1 _ qX0_keep_5) (C.2.2.2.2.1 _ qX0_keep_6) (C.2.2.2.2.1 _ qX0_keep_7) (Nat.le_of_ble_eq_true rfl) (Nat.le_of_ble_eq_true rfl) (Nat.le_of_ble_eq_true rfl) (Nat.le_of_ble_eq_true rfl) dX0_keep_52 ?_
  refine z_top (y := nI (aPast past)) (z_min12 hp12) ?_
  obtain ⟨cw27, ecw27⟩ : ∃ z : Nat → va_E, z = va_up (cw19) (1) (.inr (0, [.ref (ad (2)), .int (nI k), .int (nI (aPast past)), .int (nI fut)])) := ⟨_, rfl⟩
  refine z_put (Cn := RX0) (T := TX0) (NF := 4) (ci := 0) (ty := .int) (v := .int (nI (aPast past))) C qX0_keep_0 tyX0_ok nmX0 rfl 2 (by decide) (C.2.2.2.2.1 _ qX0_keep_3) (fun _ h9 => h9) rfl (by decide +kernel) dX0_keep_55 (1) h1N hw_21 rfl rfl (Nat.le_of_ble_eq_true rfl) ?_
  refine z_cw ecw27.symm ?_
  have hw_28 : cw27 (1) = .inr (0, [.ref (ad (2)), .int (nI k), .int (nI (aPast past)), .int (nI fut)]) := by rw [ecw27, va_up_self]
  have hw_29 : cw27 (2) = .inl (cR, 13, .inr (.inr (.inr (.inr (fr))))) := by rw [ecw27, va_up_ne _ _ (by decide)]; exact hw_22
  have hw_30 : cw27 (3 + 2 * k) = .inr (2, [.ref (ad (4 + 2 * k)), .int (nI (0 + (n - 0)))]) := by rw [ecw27, va_up_ne _ _ (by omega)]; exact hw_23
  have hw_31 : cw27 (4 + 2 * k) = .inl (cI, 240, .inl (va_cpy (g) (f) (0) (0) (n - 0))) := by rw [ecw27, va_up_ne _ _ (by omega)]; exact hw_24
  have hw_32 : cw27 (34) = .inr (2, [.ref (ad (35)), .int (nI n)]) := by rw [ecw27, va_up_ne _ _ (by decide)]; exact hw_25
  have hw_33 : cw27 (35) = .inl (cI, 240, .inl (g)) := by rw [ecw27, va_up_ne _ _ (by decide)]; exact hw_26
  refine z_aload_n C dX0_keep_58 0 rfl ?_
  refine z_iconst (v := nI 0) C dX0_keep_59 (by decide) ?_
  obtain ⟨cw34, ecw34⟩ : ∃ z : Nat → va_E, z = va_up (cw27) (1) (.inr (0, [.ref (ad (2)), .int (nI k), .int (nI (aPast past)), .int (nI 0)])) := ⟨_, rfl⟩
  refine z_put (Cn := RX0) (T := TX0) (NF := 4) (ci := 0) (ty := .int) (v := .int (nI 0)) C qX0_keep_0 tyX0_ok nmX0 rfl 3 (by decide) (C.2.2.2.2.1 _ qX0_keep_8) (fun _ h9 => h9) rfl (by decide +kernel) dX0_keep_60 (1) h1N hw_28 rfl rfl (Nat.le_of_ble_eq_true rfl) ?_
  refine z_cw ecw34.symm ?_
  have hw_35 : cw34 (1) = .inr (0, [.ref (ad (2)), .int (nI k), .int (nI (aPast past)), .int (nI 0)]) := by rw [ecw34, va_up_self]
  have hw_36 : cw34 (2) = .inl (cR, 13, .inr (.inr (.inr (.inr (fr))))) := by rw [ecw34, va_up_ne _ _ (by decide)]; exact hw_29
  have hw_37 : cw34 (3 + 2 * k) = .inr (2, [.ref (ad (4 + 2 * k)), .int (nI (0 + (n - 0)))]) := by rw [ecw34, va_up_ne _ _ (by omega)]; exact hw_30
  have hw_38 : cw34 (4 + 2 * k) = .inl (cI, 240, .inl (va_cpy (g) (f) (0) (0) (n - 0))) := by rw [ecw34, va_up_ne _ _ (by omega)]; exact hw_31
  have hw_39 : cw34 (34) = .inr (2, [.ref (ad (35)), .int (nI n)]) := by rw [ecw34, va_up_ne _ _ (by decide)]; exact hw_32
  have hw_40 : cw34 (35) = .inl (cI, 240, .inl (g)) := by rw [ecw34, va_up_ne _ _ (by decide)]; exact hw_33
  exact z_vret C hr dX0_keep_63 (⟨hw_35, hw_37, hw_38, fun j hj => by rw [ecw34, va_up_ne _ _ (by omega)]; rw [ecw27, va_up_ne _ _ (by omega)]; rw [hp20, va_up_ne _ _ (by omega), va_up_ne _ _ (by omega)]; rw [hp9, va_up_ne _ _ (by omega)]; rw [ecw1, va_up_ne _ _ (by omega)]⟩) (Nat.le_of_ble_eq_true rfl) (Nat.le_of_ble_eq_true rfl)

theorem qX0_stepBack_0 : ∀ w ∈ wsX00, w ∈ wsX0_stepBack := by decide +kernel
theorem qX0_stepBack_1 : Cond.fieldLink RX0 20 "PieceText$History" "now" "I" ∈ wsX0_stepBack := by decide +kernel
theorem qX0_stepBack_2 : Cond.fieldLink RX0 24 "PieceText$History" "past" "I" ∈ wsX0_stepBack := by decide +kernel
theorem qX0_stepBack_3 : Cond.fieldLink RX0 27 "PieceText$History" "future" "I" ∈ wsX0_stepBack := by decide +kernel
set_option maxHeartbeats 4000000 in
set_option maxRecDepth 100000 in
theorem c_Hist_stepBack (l : Launch) (D : va_G) (cI cR cL : ClassId) (B N : Nat) (ad : Nat → Nat) (cw : Nat → va_E) {now pv fut : Nat} (h1N : 1 < N) (eh : cw 1 = .inr (0, [.ref (ad (2)), .int (nI now), .int (nI (pv + 1)), .int (nI fut)])) (hnow : now < 13) : Met l yX0_stepBack wsX0_stepBack ({ frames := 0, cells := 0, slots := 0, locals := 0 } : Room) (va_Pc [.ref (ad (1))] (zI D vwCl (zTy cI cR cL) B N ad cw)) (zQv D vwCl B N ad (fun (cw' : Nat → va_E) => cw' 1 = .inr (0, [.ref (ad (2)), .int (nI ((now + 12) % 13)), .int (nI (pv)), .int (nI (fut + 1))]) ∧ ∀ j, (j ≠ 1) → cw' j = cw j)) 0 0 (zA B) := by
  refine z_ofW (cc := cX0_stepBack) (maxL := 1) (ret := none) (by decide) rfl (Nat.le_of_ble_eq_true rfl) ?_
  intro p e s m args below meth c C hr hnm
  refine z_lv (lv' := [(0, .ref (ad (1)))]) [0] rfl ?_
  refine z_aload_n C dX0_stepBack_0 0 rfl ?_
  refine z_aload_n C dX0_stepBack_1 0 rfl ?_
  refine z_get (Cn := RX0) (T := TX0) (NF := 4) (ci := 0) (v := .int (nI now)) C qX0_stepBack_0 rfl 1 (by decide) (C.2.2.2.2.1 _ qX0_stepBack_1) (fun _ h9 => h9) dX0_stepBack_2 (1) h1N eh rfl ?_
  refine z_bipush (v := nI 13) C dX0_stepBack_5 (by decide) ?_
  refine z_iadd C dX0_stepBack_7 ?_
  refine z_top (y := nI (now + 13)) (nI_add _ _) ?_
  refine z_iconst (v := nI 1) C dX0_stepBack_8 (by decide) ?_
  refine z_isub C dX0_stepBack_9 ?_
  refine z_top (y := nI (now + 12)) (pk_sub (b := 1) (a := now + 13) (by omega)) ?_
  refine z_bipush (v := nI 13) C dX0_stepBack_10 (by decide) ?_
  refine z_irem C dX0_stepBack_12 (by decide) ?_
  refine z_top (y := nI ((now + 12) % 13)) (pk_rem (by omega) (by omega) (by omega)) ?_
  obtain ⟨cw1, ecw1⟩ : ∃ z : Nat → va_E, z = va_up (cw) (1) (.inr (0, [.ref (ad (2)), .int (nI ((now + 12) % 13)), .int (nI (pv + 1)), .int (nI fut)])) := ⟨_, rfl⟩
  refine z_put (Cn := RX0) (T := TX0) (NF := 4) (ci := 0) (ty := .int) (v := .int (nI ((now + 12) % 13))) C qX0_stepBack_0 tyX0_ok nmX0 rfl 1 (by decide) (C.2.2.2.2.1 _ qX0_stepBack_1) (fun _ h9 => h9) rfl (by decide +kernel) dX0_stepBack_13 (1) h1N eh rfl rfl (Nat.le_of_ble_eq_true rfl) ?_
  refine z_cw ecw1.symm ?_
  have hw_2 : cw1 (1) = .inr (0, [.ref (ad (2)), .int (nI ((now + 12) % 13)), .int (nI (pv + 1)), .int (nI fut)]) := by rw [ecw1, va_up_self]
  refine z_aload_n C dX0_stepBack_16 0 rfl ?_
  refine z_dup C dX0_stepBack_17 rfl ?_
  refine z_get (Cn := RX0) (T := TX0) (NF := 4) (ci := 0) (v := .int (nI (pv + 1))) C qX0_stepBack_0 rfl 2 (by decide) (C.2.2.2.2.1 _ qX0_stepBack_2) (fun _ h9 => h9) dX0_stepBack_18 (1) h1N hw_2 rfl ?_
  refine z_iconst (v := nI 1) C dX0_stepBack_21 (by decide) ?_
  refine z_isub C dX0_stepBack_22 ?_
  refine z_top (y := nI pv) (pk_sub (b := 1) (a := pv + 1) (by omega)) ?_
  obtain ⟨cw3, ecw3⟩ : ∃ z : Nat → va_E, z = va_up (cw1) (1) (.inr (0, [.ref (ad (2)), .int (nI ((now + 12) % 13)), .int (nI pv), .int (nI fut)])) := ⟨_, rfl⟩
  refine z_put (Cn := RX0) (T := TX0) (NF := 4) (ci := 0) (ty := .int) (v := .int (nI pv)) C qX0_stepBack_0 tyX0_ok nmX0 rfl 2 (by decide) (C.2.2.2.2.1 _ qX0_stepBack_2) (fun _ h9 => h9) rfl (by decide +kernel) dX0_stepBack_23 (1) h1N hw_2 rfl rfl (Nat.le_of_ble_eq_true rfl) ?_
  refine z_cw ecw3.symm ?_
  have hw_4 : cw3 (1) = .inr (0, [.ref (ad (2)), .int (nI ((now + 12) % 13)), .int (nI pv), .int (nI fut)]) := by rw [ecw3, va_up_self]
  refine z_aload_n C dX0_stepBack_26 0 rfl ?_
  refine z_dup C dX0_stepBack_27 rfl ?_
  refine z_get (Cn := RX0) (T := TX0) (NF := 4) (ci := 0) (v := .int (nI fut)) C qX0_stepBack_0 rfl 3 (by decide) (C.2.2.2.2.1 _ qX0_stepBack_3) (fun _ h9 => h9) dX0_stepBack_28 (1) h1N hw_4 rfl ?_
  refine z_iconst (v := nI 1) C dX0_stepBack_31 (by decide) ?_
  refine z_iadd C dX0_stepBack_32 ?_
  refine z_top (y := nI (fut + 1)) (nI_1 fut) ?_
  obtain ⟨cw5, ecw5⟩ : ∃ z : Nat → va_E, z = va_up (cw3) (1) (.inr (0, [.ref (ad (2)), .int (nI ((now + 12) % 13)), .int (nI pv), .int (nI (fut + 1))])) := ⟨_, rfl⟩
  refine z_put (Cn := RX0) (T := TX0) (NF := 4) (ci := 0) (ty := .int) (v := .int (nI (fut + 1))) C qX0_stepBack_0 tyX0_ok nmX0 rfl 3 (by decide) (C.2.2.2.2.1 _ qX0_stepBack_3) (fun _ h9 => h9) rfl (by decide +kernel) dX0_stepBack_33 (1) h1N hw_4 rfl rfl (Nat.le_of_ble_eq_true rfl) ?_
  refine z_cw ecw5.symm ?_
  have hw_6 : cw5 (1) = .inr (0, [.ref (ad (2)), .int (nI ((now + 12) % 13)), .int (nI pv), .int (nI (fut + 1))]) := by rw [ecw5, va_up_self]
  exact z_vret C hr dX0_stepBack_36 (⟨hw_6, fun j hj => by rw [ecw5, va_up_ne _ _ (by omega)]; rw [ecw3, va_up_ne _ _ (by omega)]; rw [ecw1, va_up_ne _ _ (by omega)]⟩) (Nat.le_of_ble_eq_true rfl) (Nat.le_of_ble_eq_true rfl)

theorem qX0_stepOn_0 : ∀ w ∈ wsX00, w ∈ wsX0_stepOn := by decide +kernel
theorem qX0_stepOn_1 : Cond.fieldLink RX0 20 "PieceText$History" "now" "I" ∈ wsX0_stepOn := by decide +kernel
theorem qX0_stepOn_2 : Cond.fieldLink RX0 24 "PieceText$History" "past" "I" ∈ wsX0_stepOn := by decide +kernel
theorem qX0_stepOn_3 : Cond.fieldLink RX0 27 "PieceText$History" "future" "I" ∈ wsX0_stepOn := by decide +kernel
set_option maxHeartbeats 4000000 in
set_option maxRecDepth 100000 in
theorem c_Hist_stepOn (l : Launch) (D : va_G) (cI cR cL : ClassId) (B N : Nat) (ad : Nat → Nat) (cw : Nat → va_E) {now past q : Nat} (h1N : 1 < N) (eh : cw 1 = .inr (0, [.ref (ad (2)), .int (nI now), .int (nI past), .int (nI (q + 1))])) (hnow : now < 13) : Met l yX0_stepOn wsX0_stepOn ({ frames := 0, cells := 0, slots := 0, locals := 0 } : Room) (va_Pc [.ref (ad (1))] (zI D vwCl (zTy cI cR cL) B N ad cw)) (zQv D vwCl B N ad (fun (cw' : Nat → va_E) => cw' 1 = .inr (0, [.ref (ad (2)), .int (nI ((now + 1) % 13)), .int (nI (past + 1)), .int (nI (q))]) ∧ ∀ j, (j ≠ 1) → cw' j = cw j)) 0 0 (zA B) := by
  refine z_ofW (cc := cX0_stepOn) (maxL := 1) (ret := none) (by decide) rfl (Nat.le_of_ble_eq_true rfl) ?_
  intro p e s m args below meth c C hr hnm
  refine z_lv (lv' := [(0, .ref (ad (1)))]) [0] rfl ?_
  refine z_aload_n C dX0_stepOn_0 0 rfl ?_
  refine z_aload_n C dX0_stepOn_1 0 rfl ?_
  refine z_get (Cn := RX0) (T := TX0) (NF := 4) (ci := 0) (v := .int (nI now)) C qX0_stepOn_0 rfl 1 (by decide) (C.2.2.2.2.1 _ qX0_stepOn_1) (fun _ h9 => h9) dX0_stepOn_2 (1) h1N eh rfl ?_
  refine z_iconst (v := nI 1) C dX0_stepOn_5 (by decide) ?_
  refine z_iadd C dX0_stepOn_6 ?_
  refine z_top (y := nI (now + 1)) (nI_1 now) ?_
  refine z_bipush (v := nI 13) C dX0_stepOn_7 (by decide) ?_
  refine z_irem C dX0_stepOn_9 (by decide) ?_
  refine z_top (y := nI ((now + 1) % 13)) (pk_rem (by omega) (by omega) (by omega)) ?_
  obtain ⟨cw1, ecw1⟩ : ∃ z : Nat → va_E, z = va_up (cw) (1) (.inr (0, [.ref (ad (2)), .int (nI ((now + 1) % 13)), .int (nI past), .int (nI (q + 1))])) := ⟨_, rfl⟩
  refine z_put (Cn := RX0) (T := TX0) (NF := 4) (ci := 0) (ty := .int) (v := .int (nI ((now + 1) % 13))) C qX0_stepOn_0 tyX0_ok nmX0 rfl 1 (by decide) (C.2.2.2.2.1 _ qX0_stepOn_1) (fun _ h9 => h9) rfl (by decide +kernel) dX0_stepOn_10 (1) h1N eh rfl rfl (Nat.le_of_ble_eq_true rfl) ?_
  refine z_cw ecw1.symm ?_
  have hw_2 : cw1 (1) = .inr (0, [.ref (ad (2)), .int (nI ((now + 1) % 13)), .int (nI past), .int (nI (q + 1))]) := by rw [ecw1, va_up_self]
  refine z_aload_n C dX0_stepOn_13 0 rfl ?_
  refine z_dup C dX0_stepOn_14 rfl ?_
  refine z_get (Cn := RX0) (T := TX0) (NF := 4) (ci := 0) (v := .int (nI past)) C qX0_stepOn_0 rfl 2 (by decide) (C.2.2.2.2.1 _ qX0_stepOn_2) (fun _ h9 => h9) dX0_stepOn_15 (1) h1N hw_2 rfl ?_
  refine z_iconst (v := nI 1) C dX0_stepOn_18 (by decide) ?_
  refine z_iadd C dX0_stepOn_19 ?_
  refine z_top (y := nI (past + 1)) (nI_1 past) ?_
  obtain ⟨cw3, ecw3⟩ : ∃ z : Nat → va_E, z = va_up (cw1) (1) (.inr (0, [.ref (ad (2)), .int (nI ((now + 1) % 13)), .int (nI (past + 1)), .int (nI (q + 1))])) := ⟨_, rfl⟩
  refine z_put (Cn := RX0) (T := TX0) (NF := 4) (ci := 0) (ty := .int) (v := .int (nI (past + 1))) C qX0_stepOn_0 tyX0_ok nmX0 rfl 2 (by decide) (C.2.2.2.2.1 _ qX0_stepOn_2) (fun _ h9 => h9) rfl (by decide +kernel) dX0_stepOn_20 (1) h1N hw_2 rfl rfl (Nat.le_of_ble_eq_true rfl) ?_
  refine z_cw ecw3.symm ?_
  have hw_4 : cw3 (1) = .inr (0, [.ref (ad (2)), .int (nI ((now + 1) % 13)), .int (nI (past + 1)), .int (nI (q + 1))]) := by rw [ecw3, va_up_self]
  refine z_aload_n C dX0_stepOn_23 0 rfl ?_
  refine z_dup C dX0_stepOn_24 rfl ?_
  refine z_get (Cn := RX0) (T := TX0) (NF := 4) (ci := 0) (v := .int (nI (q + 1))) C qX0_stepOn_0 rfl 3 (by decide) (C.2.2.2.2.1 _ qX0_stepOn_3) (fun _ h9 => h9) dX0_stepOn_25 (1) h1N hw_4 rfl ?_
  refine z_iconst (v := nI 1) C dX0_stepOn_28 (by decide) ?_
  refine z_isub C dX0_stepOn_29 ?_
  refine z_top (y := nI q) (pk_sub (b := 1) (a := q + 1) (by omega)) ?_
  obtain ⟨cw5, ecw5⟩ : ∃ z : Nat → va_E, z = va_up (cw3) (1) (.inr (0, [.ref (ad (2)), .int (nI ((now + 1) % 13)), .int (nI (past + 1)), .int (nI q)])) := ⟨_, rfl⟩
  refine z_put (Cn := RX0) (T := TX0) (NF := 4) (ci := 0) (ty := .int) (v := .int (nI q)) C qX0_stepOn_0 tyX0_ok nmX0 rfl 3 (by decide) (C.2.2.2.2.1 _ qX0_stepOn_3) (fun _ h9 => h9) rfl (by decide +kernel) dX0_stepOn_30 (1) h1N hw_4 rfl rfl (Nat.le_of_ble_eq_true rfl) ?_
  refine z_cw ecw5.symm ?_
  have hw_6 : cw5 (1) = .inr (0, [.ref (ad (2)), .int (nI ((now + 1) % 13)), .int (nI (past + 1)), .int (nI q)]) := by rw [ecw5, va_up_self]
  exact z_vret C hr dX0_stepOn_33 (⟨hw_6, fun j hj => by rw [ecw5, va_up_ne _ _ (by omega)]; rw [ecw3, va_up_ne _ _ (by omega)]; rw [ecw1, va_up_ne _ _ (by omega)]⟩) (Nat.le_of_ble_eq_true rfl) (Nat.le_of_ble_eq_true rfl)

theorem qX0_forget_0 : ∀ w ∈ wsX00, w ∈ wsX0_forget := by decide +kernel
theorem qX0_forget_1 : Cond.fieldLink RX0 13 "PieceText$History" "texts" "[LPieceText$Row;" ∈ wsX0_forget := by decide +kernel
theorem qX0_forget_2 : Cond.fieldLink RX0 20 "PieceText$History" "now" "I" ∈ wsX0_forget := by decide +kernel
theorem qX0_forget_3 : Cond.fieldLink RX0 24 "PieceText$History" "past" "I" ∈ wsX0_forget := by decide +kernel
theorem qX0_forget_4 : Cond.fieldLink RX0 27 "PieceText$History" "future" "I" ∈ wsX0_forget := by decide +kernel
set_option maxHeartbeats 4000000 in
set_option maxRecDepth 100000 in
theorem c_Hist_forget (l : Launch) (D : va_G) (cI cR cL : ClassId) (B N : Nat) (ad : Nat → Nat) (cw : Nat → va_E) {now past fut : Nat} (h1N : 1 < N) (eh : cw 1 = .inr (0, [.ref (ad (2)), .int (nI now), .int (nI past), .int (nI fut)])) {fr : Nat → Option Nat} (h2N : 2 < N) (et : cw 2 = .inl (cR, 13, .inr (.inr (.inr (.inr (fr)))))) (hfr : ∀ i, i < 13 → fr i = some (ad (3 + 2 * i))) (hnow : now < 13) {len : Nat} {f : Nat → Int32} (hNk : 31 < N) (ek : cw (3 + 2 * now) = .inr (2, [.ref (ad (4 + 2 * now)), .int (nI len)])) (eka : cw (4 + 2 * now) = .inl (cI, 240, .inl (f))) : Met l yX0_forget wsX0_forget ({ frames := 1, cells := 0, slots := 0, locals := 20 } : Room) (va_Pc [.ref (ad (1))] (zI D vwCl (zTy cI cR cL) B N ad cw)) (zQv D vwCl B N ad (fun (cw' : Nat → va_E) => cw' 1 = .inr (0, [.ref (ad (2)), .int (nI now), .int (nI 0), .int (nI 0)]) ∧ cw' (3 + 2 * now) = .inr (2, [.ref (ad (4 + 2 * now)), .int (nI 0)]) ∧ ∀ j, (j ≠ 1 ∧ j ≠ 3 + 2 * now) → cw' j = cw j)) 0 0 (zA B) := by
  refine z_ofW (cc := cX0_forget) (maxL := 1) (ret := none) (by decide) rfl (Nat.le_of_ble_eq_true rfl) ?_
  intro p e s m args below meth c C hr hnm
  refine z_lv (lv' := [(0, .ref (ad (1)))]) [0] rfl ?_
  refine z_aload_n C dX0_forget_0 0 rfl ?_
  refine z_get (Cn := RX0) (T := TX0) (NF := 4) (ci := 0) (v := .ref (ad (2))) C qX0_forget_0 rfl 0 (by decide) (C.2.2.2.2.1 _ qX0_forget_1) (fun _ h9 => h9) dX0_forget_1 (1) h1N eh rfl ?_
  refine z_aload_n C dX0_forget_4 0 rfl ?_
  refine z_get (Cn := RX0) (T := TX0) (NF := 4) (ci := 0) (v := .int (nI now)) C qX0_forget_0 rfl 1 (by decide) (C.2.2.2.2.1 _ qX0_forget_2) (fun _ h9 => h9) dX0_forget_5 (1) h1N eh rfl ?_
  refine z_aald (a := ad (3 + 2 * now)) C 1 rfl dX0_forget_8 (2) h2N et (now) (rfl) (hnow) (by decide) (hfr now hnow) ?_
  refine z_callv (z_runV (As := []) (rest := []) C (c_Row_empty l D cI cR cL B N ad cw (by omega) ek) (cwV 0 C.2.2.2.2.1 gX0_forget_X2_empty rfl rfl rfl (by decide +kernel) ⟨Nat.le_of_ble_eq_true rfl, Nat.le_of_ble_eq_true rfl⟩) (by omega) ek rfl rfl rfl rfl (Nat.le_of_ble_eq_true rfl) dX0_forget_9 ⟨Nat.le_of_ble_eq_true rfl, Nat.le_of_ble_eq_true rfl⟩) (fun cw1 hp2 => ?_)
  have hw_3 : cw1 (1) = .inr (0, [.ref (ad (2)), .int (nI now), .int (nI past), .int (nI fut)]) := by rw [hp2, va_up_ne _ _ (by omega)]; exact eh
  have hw_4 : cw1 (2) = .inl (cR, 13, .inr (.inr (.inr (.inr (fr))))) := by rw [hp2, va_up_ne _ _ (by omega)]; exact et
  have hw_5 : cw1 (3 + 2 * now) = .inr (2, [.ref (ad (4 + 2 * now)), .int (nI 0)]) := by rw [hp2, va_up_self]
  refine z_aload_n C dX0_forget_12 0 rfl ?_
  refine z_iconst (v := nI 0) C dX0_forget_13 (by decide) ?_
  obtain ⟨cw6, ecw6⟩ : ∃ z : Nat → va_E, z = va_up (cw1) (1) (.inr (0, [.ref (ad (2)), .int (nI now), .int (nI 0), .int (nI fut)])) := ⟨_, rfl⟩
  refine z_put (Cn := RX0) (T := TX0) (NF := 4) (ci := 0) (ty := .int) (v := .int (nI 0)) C qX0_forget_0 tyX0_ok nmX0 rfl 2 (by decide) (C.2.2.2.2.1 _ qX0_forget_3) (fun _ h9 => h9) rfl (by decide +kernel) dX0_forget_14 (1) h1N hw_3 rfl rfl (Nat.le_of_ble_eq_true rfl) ?_
  refine z_cw ecw6.symm ?_
  have hw_7 : cw6 (1) = .inr (0, [.ref (ad (2)), .int (nI now), .int (nI 0), .int (nI fut)]) := by rw [ecw6, va_up_self]
  have hw_8 : cw6 (2) = .inl (cR, 13, .inr (.inr (.inr (.inr (fr))))) := by rw [ecw6, va_up_ne _ _ (by decide)]; exact hw_4
  have hw_9 : cw6 (3 + 2 * now) = .inr (2, [.ref (ad (4 + 2 * now)), .int (nI 0)]) := by rw [ecw6, va_up_ne _ _ (by omega)]; exact hw_5
  refine z_aload_n C dX0_forget_17 0 rfl ?_
  refine z_iconst (v := nI 0) C dX0_forget_18 (by decide) ?_
  obtain ⟨cw10, ecw10⟩ : ∃ z : Nat → va_E, z = va_up (cw6) (1) (.inr (0, [.ref (ad (2)), .int (nI now), .int (nI 0), .int (nI 0)])) := ⟨_, rfl⟩
  refine z_put (Cn := RX0) (T := TX0) (NF := 4) (ci := 0) (ty := .int) (v := .int (nI 0)) C qX0_forget_0 tyX0_ok nmX0 rfl 3 (by decide) (C.2.2.2.2.1 _ qX0_forget_4) (fun _ h9 => h9) rfl (by decide +kernel) dX0_forget_19 (1) h1N hw_7 rfl rfl (Nat.le_of_ble_eq_true rfl) ?_
  refine z_cw ecw10.symm ?_
  have hw_11 : cw10 (1) = .inr (0, [.ref (ad (2)), .int (nI now), .int (nI 0), .int (nI 0)]) := by rw [ecw10, va_up_self]
  have hw_12 : cw10 (2) = .inl (cR, 13, .inr (.inr (.inr (.inr (fr))))) := by rw [ecw10, va_up_ne _ _ (by decide)]; exact hw_8
  have hw_13 : cw10 (3 + 2 * now) = .inr (2, [.ref (ad (4 + 2 * now)), .int (nI 0)]) := by rw [ecw10, va_up_ne _ _ (by omega)]; exact hw_9
  exact z_vret C hr dX0_forget_22 (⟨hw_11, hw_13, fun j hj => by rw [ecw10, va_up_ne _ _ (by omega)]; rw [ecw6, va_up_ne _ _ (by omega)]; rw [hp2, va_up_ne _ _ (by omega)]⟩) (Nat.le_of_ble_eq_true rfl) (Nat.le_of_ble_eq_true rfl)
end
section
theorem qX1_size_0 : ∀ w ∈ wsX10, w ∈ wsX1_size := by decide +kernel
theorem qX1_size_1 : Cond.fieldLink RX1 18 "PieceText$Phrases" "count" "I" ∈ wsX1_size := by decide +kernel
set_option maxHeartbeats 4000000 in
set_option maxRecDepth 100000 in
theorem c_Phr_size (l : Launch) (D : va_G) (cI cR cL : ClassId) (B N : Nat) (ad : Nat → Nat) (cw : Nat → va_E) {n : Nat} (h33 : 33 < N) (eo : cw 31 = .inr (1, [.ref (ad (32)), .ref (ad (33)), .int (nI n)])) : Met l yX1_size wsX1_size ({ frames := 0, cells := 0, slots := 0, locals := 0 } : Room) (va_Pc [.ref (ad (31))] (zI D vwCl (zTy cI cR cL) B N ad cw)) (zQi D vwCl B N ad (fun (v : Int32) (cw' : Nat → va_E) => v = nI n ∧ cw' = cw)) 0 0 (zA B) := by
  refine z_ofW (cc := cX1_size) (maxL := 1) (ret := (some .int)) (by decide) rfl (Nat.le_of_ble_eq_true rfl) ?_
  intro p e s m args below meth c C hr hnm
  refine z_lv (lv' := [(0, .ref (ad (31)))]) [0] rfl ?_
  refine z_aload_n C dX1_size_0 0 rfl ?_
  refine z_get (Cn := RX1) (T := TX1) (NF := 3) (ci := 1) (v := .int (nI n)) C qX1_size_0 rfl 2 (by decide) (C.2.2.2.2.1 _ qX1_size_1) (fun _ h9 => h9) dX1_size_1 (31) (by omega) eo rfl ?_
  exact z_iret C hr dX1_size_4 (⟨rfl, rfl⟩) (Nat.le_of_ble_eq_true rfl) (Nat.le_of_ble_eq_true rfl)

theorem qX1_get_0 : ∀ w ∈ wsX10, w ∈ wsX1_get := by decide +kernel
theorem qX1_get_1 : Cond.fieldLink RX1 9 "PieceText$Phrases" "words" "[I" ∈ wsX1_get := by decide +kernel
set_option maxHeartbeats 4000000 in
set_option maxRecDepth 100000 in
theorem c_Phr_get (l : Launch) (D : va_G) (cI cR cL : ClassId) (B N : Nat) (ad : Nat → Nat) (cw : Nat → va_E) {n : Nat} (h33 : 33 < N) (eo : cw 31 = .inr (1, [.ref (ad (32)), .ref (ad (33)), .int (nI n)])) {wf : Nat → Int32} (ew : cw 32 = .inl (cI, 240, .inl (wf))) {j : Nat} (hj : j < 240) : Met l yX1_get wsX1_get ({ frames := 0, cells := 0, slots := 0, locals := 0 } : Room) (va_Pc [.ref (ad (31)), .int (nI j)] (zI D vwCl (zTy cI cR cL) B N ad cw)) (zQi D vwCl B N ad (fun (v : Int32) (cw' : Nat → va_E) => v = wf j ∧ cw' = cw)) 0 0 (zA B) := by
  refine z_ofW (cc := cX1_get) (maxL := 2) (ret := (some .int)) (by decide) rfl (Nat.le_of_ble_eq_true rfl) ?_
  intro p e s m args below meth c C hr hnm
  refine z_lv (lv' := [(0, .ref (ad (31))), (1, .int (nI j))]) [0, 1] rfl ?_
  refine z_aload_n C dX1_get_0 0 rfl ?_
  refine z_get (Cn := RX1) (T := TX1) (NF := 3) (ci := 1) (v := .ref (ad (32))) C qX1_get_0 rfl 0 (by decide) (C.2.2.2.2.1 _ qX1_get_1) (fun _ h9 => h9) dX1_get_1 (31) (by omega) eo rfl ?_
  refine z_iload_n C dX1_get_4 1 rfl ?_
  refine z_iald C 0 rfl dX1_get_5 (32) (by omega) ew (j) (rfl) (hj) (by decide) ?_
  exact z_iret C hr dX1_get_6 (⟨rfl, rfl⟩) (Nat.le_of_ble_eq_true rfl) (Nat.le_of_ble_eq_true rfl)

theorem qX1_set_0 : ∀ w ∈ wsX10, w ∈ wsX1_set := by decide +kernel
theorem qX1_set_1 : Cond.fieldLink RX1 9 "PieceText$Phrases" "words" "[I" ∈ wsX1_set := by decide +kernel
set_option maxHeartbeats 4000000 in
set_option maxRecDepth 100000 in
theorem c_Phr_set (l : Launch) (D : va_G) (cI cR cL : ClassId) (B N : Nat) (ad : Nat → Nat) (cw : Nat → va_E) {n : Nat} (h33 : 33 < N) (eo : cw 31 = .inr (1, [.ref (ad (32)), .ref (ad (33)), .int (nI n)])) {wf : Nat → Int32} (ew : cw 32 = .inl (cI, 240, .inl (wf))) {j : Nat} (hj : j < 240) (x : Int32) : Met l yX1_set wsX1_set ({ frames := 0, cells := 0, slots := 0, locals := 0 } : Room) (va_Pc [.ref (ad (31)), .int (nI j), .int (x)] (zI D vwCl (zTy cI cR cL) B N ad cw)) (zQv D vwCl B N ad (fun (cw' : Nat → va_E) => cw' = va_up cw 32 (.inl (cI, 240, .inl (upd wf j x))))) 0 0 (zA B) := by
  refine z_ofW (cc := cX1_set) (maxL := 3) (ret := none) (by decide) rfl (Nat.le_of_ble_eq_true rfl) ?_
  intro p e s m args below meth c C hr hnm
  refine z_lv (lv' := [(0, .ref (ad (31))), (1, .int (nI j)), (2, .int (x))]) [0, 1, 2] rfl ?_
  refine z_aload_n C dX1_set_0 0 rfl ?_
  refine z_get (Cn := RX1) (T := TX1) (NF := 3) (ci := 1) (v := .ref (ad (32))) C qX1_set_0 rfl 0 (by decide) (C.2.2.2.2.1 _ qX1_set_1) (fun _ h9 => h9) dX1_set_1 (31) (by omega) eo rfl ?_
  refine z_iload_n C dX1_set_4 1 rfl ?_
  refine z_iload_n C dX1_set_5 2 rfl ?_
  obtain ⟨cw1, ecw1⟩ : ∃ z : Nat → va_E, z = va_up (cw) (32) (.inl (cI, 240, .inl (upd (wf) (j) ((x))))) := ⟨_, rfl⟩
  refine z_iast C 0 rfl dX1_set_6 (32) (by omega) ew (j) (rfl) (hj) (by decide) ?_
  refine z_cw ecw1.symm ?_
  have hw_2 : cw1 (31) = .inr (1, [.ref (ad (32)), .ref (ad (33)), .int (nI n)]) := by rw [ecw1, va_up_ne _ _ (by decide)]; exact eo
  have hw_3 : cw1 (32) = .inl (cI, 240, .inl (upd (wf) (j) ((x)))) := by rw [ecw1, va_up_self]
  exact z_vret C hr dX1_set_7 (ecw1) (Nat.le_of_ble_eq_true rfl) (Nat.le_of_ble_eq_true rfl)

theorem qX1_forget_0 : ∀ w ∈ wsX10, w ∈ wsX1_forget := by decide +kernel
theorem qX1_forget_1 : Cond.fieldLink RX1 18 "PieceText$Phrases" "count" "I" ∈ wsX1_forget := by decide +kernel
set_option maxHeartbeats 4000000 in
set_option maxRecDepth 100000 in
theorem c_Phr_forget (l : Launch) (D : va_G) (cI cR cL : ClassId) (B N : Nat) (ad : Nat → Nat) (cw : Nat → va_E) {n : Nat} (h33 : 33 < N) (eo : cw 31 = .inr (1, [.ref (ad (32)), .ref (ad (33)), .int (nI n)])) : Met l yX1_forget wsX1_forget ({ frames := 0, cells := 0, slots := 0, locals := 0 } : Room) (va_Pc [.ref (ad (31))] (zI D vwCl (zTy cI cR cL) B N ad cw)) (zQv D vwCl B N ad (fun (cw' : Nat → va_E) => cw' = va_up cw 31 (.inr (1, [.ref (ad (32)), .ref (ad (33)), .int (nI 0)])))) 0 0 (zA B) := by
  refine z_ofW (cc := cX1_forget) (maxL := 1) (ret := none) (by decide) rfl (Nat.le_of_ble_eq_true rfl) ?_
  intro p e s m args below meth c C hr hnm
  refine z_lv (lv' := [(0, .ref (ad (31)))]) [0] rfl ?_
  refine z_aload_n C dX1_forget_0 0 rfl ?_
  refine z_iconst (v := nI 0) C dX1_forget_1 (by decide) ?_
  obtain ⟨cw1, ecw1⟩ : ∃ z : Nat → va_E, z = va_up (cw) (31) (.inr (1, [.ref (ad (32)), .ref (ad (33)), .int (nI 0)])) := ⟨_, rfl⟩
  refine z_put (Cn := RX1) (T := TX1) (NF := 3) (ci := 1) (ty := .int) (v := .int (nI 0)) C qX1_forget_0 tyX1_ok nmX1 rfl 2 (by decide) (C.2.2.2.2.1 _ qX1_forget_1) (fun _ h9 => h9) rfl (by decide +kernel) dX1_forget_2 (31) (by omega) eo rfl rfl (Nat.le_of_ble_eq_true rfl) ?_
  refine z_cw ecw1.symm ?_
  have hw_2 : cw1 (31) = .inr (1, [.ref (ad (32)), .ref (ad (33)), .int (nI 0)]) := by rw [ecw1, va_up_self]
  exact z_vret C hr dX1_forget_5 (ecw1) (Nat.le_of_ble_eq_true rfl) (Nat.le_of_ble_eq_true rfl)

theorem qX1_addWord_0 : ∀ w ∈ wsX10, w ∈ wsX1_addWord := by decide +kernel
theorem qX1_addWord_1 : Cond.fieldLink RX1 9 "PieceText$Phrases" "words" "[I" ∈ wsX1_addWord := by decide +kernel
theorem qX1_addWord_2 : Cond.fieldLink RX1 18 "PieceText$Phrases" "count" "I" ∈ wsX1_addWord := by decide +kernel
set_option maxHeartbeats 4000000 in
set_option maxRecDepth 100000 in
theorem c_Phr_addWord (l : Launch) (D : va_G) (cI cR cL : ClassId) (B N : Nat) (ad : Nat → Nat) (cw : Nat → va_E) {n : Nat} (h33 : 33 < N) (eo : cw 31 = .inr (1, [.ref (ad (32)), .ref (ad (33)), .int (nI n)])) {wf : Nat → Int32} (ew : cw 32 = .inl (cI, 240, .inl (wf))) (hn : n < 240) (x : Int32) : Met l yX1_addWord wsX1_addWord ({ frames := 0, cells := 0, slots := 0, locals := 0 } : Room) (va_Pc [.ref (ad (31)), .int (x)] (zI D vwCl (zTy cI cR cL) B N ad cw)) (zQv D vwCl B N ad (fun (cw' : Nat → va_E) => cw' = va_up (va_up cw 32 (.inl (cI, 240, .inl (upd wf n x)))) 31 (.inr (1, [.ref (ad (32)), .ref (ad (33)), .int (nI (n + 1))])))) 0 0 (zA B) := by
  refine z_ofW (cc := cX1_addWord) (maxL := 2) (ret := none) (by decide) rfl (Nat.le_of_ble_eq_true rfl) ?_
  intro p e s m args below meth c C hr hnm
  refine z_lv (lv' := [(0, .ref (ad (31))), (1, .int (x))]) [0, 1] rfl ?_
  refine z_aload_n C dX1_addWord_0 0 rfl ?_
  refine z_get (Cn := RX1) (T := TX1) (NF := 3) (ci := 1) (v := .ref (ad (32))) C qX1_addWord_0 rfl 0 (by decide) (C.2.2.2.2.1 _ qX1_addWord_1) (fun _ h9 => h9) dX1_addWord_1 (31) (by omega) eo rfl ?_
  refine z_aload_n C dX1_addWord_4 0 rfl ?_
  refine z_get (Cn := RX1) (T := TX1) (NF := 3) (ci := 1) (v := .int (nI n)) C qX1_addWord_0 rfl 2 (by decide) (C.2.2.2.2.1 _ qX1_addWord_2) (fun _ h9 => h9) dX1_addWord_5 (31) (by omega) eo rfl ?_
  refine z_iload_n C dX1_addWord_8 1 rfl ?_
  obtain ⟨cw1, ecw1⟩ : ∃ z : Nat → va_E, z = va_up (cw) (32) (.inl (cI, 240, .inl (upd (wf) (n) ((x))))) := ⟨_, rfl⟩
  refine z_iast C 0 rfl dX1_addWord_9 (32) (by omega) ew (n) (rfl) (hn) (by decide) ?_
  refine z_cw ecw1.symm ?_
  have hw_2 : cw1 (31) = .inr (1, [.ref (ad (32)), .ref (ad (33)), .int (nI n)]) := by rw [ecw1, va_up_ne _ _ (by decide)]; exact eo
  have hw_3 : cw1 (32) = .inl (cI, 240, .inl (upd (wf) (n) ((x)))) := by rw [ecw1, va_up_self]
  refine z_aload_n C dX1_addWord_10 0 rfl ?_
  refine z_dup C dX1_addWord_11 rfl ?_
  refine z_get (Cn := RX1) (T := TX1) (NF := 3) (ci := 1) (v := .int (nI n)) C qX1_addWord_0 rfl 2 (by decide) (C.2.2.2.2.1 _ qX1_addWord_2) (fun _ h9 => h9) dX1_addWord_12 (31) (by omega) hw_2 rfl ?_
  refine z_iconst (v := nI 1) C dX1_addWord_15 (by decide) ?_
  refine z_iadd C dX1_addWord_16 ?_
  refine z_top (y := nI (n + 1)) (nI_1 n) ?_
  obtain ⟨cw4, ecw4⟩ : ∃ z : Nat → va_E, z = va_up (cw1) (31) (.inr (1, [.ref (ad (32)), .ref (ad (33)), .int (nI (n + 1))])) := ⟨_, rfl⟩
  refine z_put (Cn := RX1) (T := TX1) (NF := 3) (ci := 1) (ty := .int) (v := .int (nI (n + 1))) C qX1_addWord_0 tyX1_ok nmX1 rfl 2 (by decide) (C.2.2.2.2.1 _ qX1_addWord_2) (fun _ h9 => h9) rfl (by decide +kernel) dX1_addWord_17 (31) (by omega) hw_2 rfl rfl (Nat.le_of_ble_eq_true rfl) ?_
  refine z_cw ecw4.symm ?_
  have hw_5 : cw4 (31) = .inr (1, [.ref (ad (32)), .ref (ad (33)), .int (nI (n + 1))]) := by rw [ecw4, va_up_self]
  have hw_6 : cw4 (32) = .inl (cI, 240, .inl (upd (wf) (n) ((x)))) := by rw [ecw4, va_up_ne _ _ (by decide)]; exact hw_3
  exact z_vret C hr dX1_addWord_20 (by rw [ecw4, ecw1]) (Nat.le_of_ble_eq_true rfl) (Nat.le_of_ble_eq_true rfl)

theorem qX1_numberOf_0 : ∀ w ∈ wsX10, w ∈ wsX1_numberOf := by decide +kernel
theorem qX1_numberOf_1 : Cond.fieldLink RX1 18 "PieceText$Phrases" "count" "I" ∈ wsX1_numberOf := by decide +kernel
theorem qX1_numberOf_2 : Cond.fieldLink RX1 9 "PieceText$Phrases" "words" "[I" ∈ wsX1_numberOf := by decide +kernel
set_option maxHeartbeats 4000000 in
set_option maxRecDepth 100000 in
theorem c_Phr_numberOf (l : Launch) (D : va_G) (cI cR cL : ClassId) (B N : Nat) (ad : Nat → Nat) (cw : Nat → va_E) {n : Nat} (h33 : 33 < N) (eo : cw 31 = .inr (1, [.ref (ad (32)), .ref (ad (33)), .int (nI n)])) {wf : Nat → Int32} (ew : cw 32 = .inl (cI, 240, .inl (wf))) {s0 : Nat} (hs : s0 ≤ n) (hn : n ≤ 240) (x : Int32) : Met l yX1_numberOf wsX1_numberOf ({ frames := 0, cells := 0, slots := 0, locals := 0 } : Room) (va_Pc [.ref (ad (31)), .int (x), .int (nI s0)] (zI D vwCl (zTy cI cR cL) B N ad cw)) (zQi D vwCl B N ad (fun (v : Int32) (cw' : Nat → va_E) => ((∃ i, s0 ≤ i ∧ i < n ∧ wf i = x ∧ (∀ j, s0 ≤ j → j < i → wf j ≠ x) ∧ v = nI (i + 1)) ∨ ((∀ j, s0 ≤ j → j < n → wf j ≠ x) ∧ v = nI 0)) ∧ cw' = cw)) 0 0 (zA B) := by
  refine z_ofW (cc := cX1_numberOf) (maxL := 4) (ret := (some .int)) (by decide) rfl (Nat.le_of_ble_eq_true rfl) ?_
  intro p e s m args below meth c C hr hnm
  refine z_lv (lv' := [(0, .ref (ad (31))), (1, .int (x)), (2, .int (nI s0))]) [0, 1, 2] rfl ?_
  refine z_iload_n C dX1_numberOf_0 2 rfl ?_
  refine z_istore_n (lv' := [(3, .int (nI s0)), (0, .ref (ad (31))), (1, .int (x)), (2, .int (nI s0))]) C dX1_numberOf_1 rfl (by decide) rfl ?_
  suffices loop : ∀ (t i : Nat), n = i + t → s0 ≤ i → (∀ j, s0 ≤ j → j < i → wf j ≠ x) → zG p l e (headSpec wsX1_numberOf ({ frames := 0, cells := 0, slots := 0, locals := 0 } : Room)).room s m args below meth c (MQ below (zQi D vwCl B N ad (fun (v : Int32) (cw' : Nat → va_E) => ((∃ i, s0 ≤ i ∧ i < n ∧ wf i = x ∧ (∀ j, s0 ≤ j → j < i → wf j ≠ x) ∧ v = nI (i + 1)) ∨ ((∀ j, s0 ≤ j → j < n → wf j ≠ x) ∧ v = nI 0)) ∧ cw' = cw)) args s 0 0 (zA B)) D vwCl B 4 N ad cw 0 0 [(3, .int (nI i)), (0, .ref (ad (31))), (1, .int (x)), (2, .int (nI s0))] 2 [] from loop (n - s0) s0 (by omega) (Nat.le_refl _) (fun j h1 h2 => absurd h1 (by omega))
  intro t
  induction t with
  | zero =>
    intro i hi hsi hpre
    refine z_iload_n C dX1_numberOf_2 0 rfl ?_
    refine z_aload_n C dX1_numberOf_3 1 rfl ?_
    refine z_get (Cn := RX1) (T := TX1) (NF := 3) (ci := 1) (v := .int (nI n)) C qX1_numberOf_0 rfl 2 (by decide) (C.2.2.2.2.1 _ qX1_numberOf_1) (fun _ h9 => h9) dX1_numberOf_4 (31) (by omega) eo rfl ?_
    refine z_icmp_ge (tgt := 30) C dX1_numberOf_7 (by decide) (fun c1 => ?_) (fun c1 => ?_)
    · skip
      refine z_iconst (v := nI 0) C dX1_numberOf_30 (by decide) ?_
      exact z_iret C hr dX1_numberOf_31 (⟨Or.inr ⟨fun j h1 h2 => hpre j h1 (by omega), rfl⟩, rfl⟩) (Nat.le_of_ble_eq_true rfl) (Nat.le_of_ble_eq_true rfl)
    · skip
      exact absurd (nI_le (by omega) (by omega)) c1
  | succ t ih =>
    intro i hi hsi hpre
    refine z_iload_n C dX1_numberOf_2 0 rfl ?_
    refine z_aload_n C dX1_numberOf_3 1 rfl ?_
    refine z_get (Cn := RX1) (T := TX1) (NF := 3) (ci := 1) (v := .int (nI n)) C qX1_numberOf_0 rfl 2 (by decide) (C.2.2.2.2.1 _ qX1_numberOf_1) (fun _ h9 => h9) dX1_numberOf_4 (31) (by omega) eo rfl ?_
    refine z_icmp_ge (tgt := 30) C dX1_numberOf_7 (by decide) (fun c2 => ?_) (fun c2 => ?_)
    · skip
      exact absurd ((nI_leI (by omega) (by omega)).mp c2) (by omega)
    · skip
      refine z_aload_n C dX1_numberOf_10 1 rfl ?_
      refine z_get (Cn := RX1) (T := TX1) (NF := 3) (ci := 1) (v := .ref (ad (32))) C qX1_numberOf_0 rfl 0 (by decide) (C.2.2.2.2.1 _ qX1_numberOf_2) (fun _ h9 => h9) dX1_numberOf_11 (31) (by omega) eo rfl ?_
      refine z_iload_n C dX1_numberOf_14 0 rfl ?_
      refine z_iald C 0 rfl dX1_numberOf_15 (32) (by omega) ew (i) (rfl) (by omega) (by decide) ?_
      refine z_iload_n C dX1_numberOf_16 2 rfl ?_
      refine z_icmp_ne (tgt := 24) C dX1_numberOf_17 (by decide) (fun c3 => ?_) (fun c3 => ?_)
      · skip
        refine z_iinc (x := nI (i + 1)) (lv' := [(3, .int (nI (i + 1))), (0, .ref (ad (31))), (1, .int (x)), (2, .int (nI s0))]) C dX1_numberOf_24 0 rfl (nI_1 i) (by decide) rfl ?_
        refine z_goto (tgt := 2) C dX1_numberOf_27 (by decide) ?_
        refine z_lv (lv' := [(3, .int (nI (i + 1))), (0, .ref (ad (31))), (1, .int (x)), (2, .int (nI s0))]) [0, 1, 2, 3] rfl ?_
        exact ih (i + 1) (by omega) (by omega) (fun j h1 h2 => by rcases Nat.lt_succ_iff_lt_or_eq.mp h2 with h | h; exact hpre j h1 h; rw [h]; exact c3)
      · skip
        refine z_iload_n C dX1_numberOf_20 0 rfl ?_
        refine z_iconst (v := nI 1) C dX1_numberOf_21 (by decide) ?_
        refine z_iadd C dX1_numberOf_22 ?_
        refine z_top (y := nI (i + 1)) (nI_1 i) ?_
        exact z_iret C hr dX1_numberOf_23 (⟨Or.inl ⟨i, hsi, by omega, c3, hpre, rfl⟩, rfl⟩) (Nat.le_of_ble_eq_true rfl) (Nat.le_of_ble_eq_true rfl)

def zFine (w : Int32) (j n : Nat) : Prop := 0 ≤ w ∧ w.toNatClampNeg / 257 ≤ j ∧ (w.toNatClampNeg % 257 ≠ 256 ∨ (j + 1 = n ∧ 0 < w.toNatClampNeg / 257))
theorem zFine_of {u j n : Nat} (hu : u < 2 ^ 31) : zFine (nI u) j n ↔ (u / 257 ≤ j ∧ (u % 257 ≠ 256 ∨ (j + 1 = n ∧ 0 < u / 257))) := by
  unfold zFine
  rw [nI_clamp hu]
  exact ⟨fun h => h.2, fun h => ⟨nI_pos' hu, h⟩⟩
theorem zNeg {w : Int32} (h : w < 0) : ¬ 0 ≤ w := by
  intro h2
  rw [Int32.lt_iff_toInt_lt] at h
  rw [Int32.le_iff_toInt_le] at h2
  omega
theorem qX1_isPhrase_0 : ∀ w ∈ wsX10, w ∈ wsX1_isPhrase := by decide +kernel
theorem qX1_isPhrase_1 : Cond.fieldLink RX1 9 "PieceText$Phrases" "words" "[I" ∈ wsX1_isPhrase := by decide +kernel
theorem qX1_isPhrase_2 : Cond.fieldLink RX1 18 "PieceText$Phrases" "count" "I" ∈ wsX1_isPhrase := by decide +kernel
set_option maxHeartbeats 4000000 in
set_option maxRecDepth 100000 in
theorem c_Phr_isPhrase (l : Launch) (D : va_G) (cI cR cL : ClassId) (B N : Nat) (ad : Nat → Nat) (cw : Nat → va_E) {n : Nat} (h33 : 33 < N) (eo : cw 31 = .inr (1, [.ref (ad (32)), .ref (ad (33)), .int (nI n)])) {wf : Nat → Int32} (ew : cw 32 = .inl (cI, 240, .inl (wf))) {j : Nat} (hj : j < n) (hn : n ≤ 240) : Met l yX1_isPhrase wsX1_isPhrase ({ frames := 0, cells := 0, slots := 0, locals := 0 } : Room) (va_Pc [.ref (ad (31)), .int (nI j)] (zI D vwCl (zTy cI cR cL) B N ad cw)) (zQi D vwCl B N ad (fun (v : Int32) (cw' : Nat → va_E) => ((v = nI 1 ∧ zFine (wf j) j n) ∨ (v = nI 0 ∧ ¬ zFine (wf j) j n)) ∧ cw' = cw)) 0 0 (zA B) := by
  refine z_ofW (cc := cX1_isPhrase) (maxL := 3) (ret := (some .boolean)) (by decide) rfl (Nat.le_of_ble_eq_true rfl) ?_
  intro p e s m args below meth c C hr hnm
  refine z_lv (lv' := [(0, .ref (ad (31))), (1, .int (nI j))]) [0, 1] rfl ?_
  refine z_aload_n C dX1_isPhrase_0 0 rfl ?_
  refine z_get (Cn := RX1) (T := TX1) (NF := 3) (ci := 1) (v := .ref (ad (32))) C qX1_isPhrase_0 rfl 0 (by decide) (C.2.2.2.2.1 _ qX1_isPhrase_1) (fun _ h9 => h9) dX1_isPhrase_1 (31) (by omega) eo rfl ?_
  refine z_iload_n C dX1_isPhrase_4 1 rfl ?_
  refine z_iald C 0 rfl dX1_isPhrase_5 (32) (by omega) ew (j) (rfl) (by omega) (by decide) ?_
  refine z_istore_n (lv' := [(2, .int (wf (j))), (0, .ref (ad (31))), (1, .int (nI j))]) C dX1_isPhrase_6 rfl (by decide) rfl ?_
  refine z_iload_n C dX1_isPhrase_7 0 rfl ?_
  refine z_if_lt (tgt := 20) C dX1_isPhrase_8 (by decide) (fun c1 => ?_) (fun c1 => ?_)
  · skip
    refine z_iconst (v := nI 0) C dX1_isPhrase_20 (by decide) ?_
    exact z_zret C hr (by decide) dX1_isPhrase_21 (⟨Or.inr ⟨rfl, fun h => zNeg c1 h.1⟩, rfl⟩) (Nat.le_of_ble_eq_true rfl) (Nat.le_of_ble_eq_true rfl)
  · skip
    obtain ⟨u, hu, hwu⟩ := nI_of c1
    have hq : u / 257 < 2 ^ 31 := by omega
    refine z_iload_n C dX1_isPhrase_11 0 rfl ?_
    refine z_sipush (v := nI 257) C dX1_isPhrase_12 (by decide) ?_
    refine z_idiv C dX1_isPhrase_15 (by decide) ?_
    refine z_top (y := nI (u / 257)) (by rw [hwu]; exact pk_div hu (by omega) (by omega)) ?_
    refine z_iload_n C dX1_isPhrase_16 2 rfl ?_
    refine z_icmp_le (tgt := 22) C dX1_isPhrase_17 (by decide) (fun c2 => ?_) (fun c2 => ?_)
    · skip
      have h1 : u / 257 ≤ j := (nI_leI hq (by omega)).mp c2
      refine z_iload_n C dX1_isPhrase_22 0 rfl ?_
      refine z_sipush (v := nI 257) C dX1_isPhrase_23 (by decide) ?_
      refine z_irem C dX1_isPhrase_26 (by decide) ?_
      refine z_top (y := nI (u % 257)) (by rw [hwu]; exact pk_rem hu (by omega) (by omega)) ?_
      refine z_sipush (v := nI 256) C dX1_isPhrase_27 (by decide) ?_
      refine z_icmp_eq (tgt := 35) C dX1_isPhrase_30 (by decide) (fun c3 => ?_) (fun c3 => ?_)
      · skip
        have h2 : u % 257 = 256 := (nI_eq (by omega) (by omega)).mp c3
        refine z_iload_n C dX1_isPhrase_35 2 rfl ?_
        refine z_aload_n C dX1_isPhrase_36 1 rfl ?_
        refine z_get (Cn := RX1) (T := TX1) (NF := 3) (ci := 1) (v := .int (nI n)) C qX1_isPhrase_0 rfl 2 (by decide) (C.2.2.2.2.1 _ qX1_isPhrase_2) (fun _ h9 => h9) dX1_isPhrase_37 (31) (by omega) eo rfl ?_
        refine z_iconst (v := nI 1) C dX1_isPhrase_40 (by decide) ?_
        refine z_isub C dX1_isPhrase_41 ?_
        refine z_top (y := nI (n - 1)) (pk_sub (b := 1) (by omega)) ?_
        refine z_icmp_ne (tgt := 57) C dX1_isPhrase_42 (by decide) (fun c4 => ?_) (fun c4 => ?_)
        · skip
          refine z_iconst (v := nI 0) C dX1_isPhrase_57 (by decide) ?_
          exact z_zret C hr (by decide) dX1_isPhrase_58 (⟨Or.inr ⟨rfl, fun h => by rw [hwu] at h; have h3 := ((zFine_of hu).mp h).2; have h4 : ¬ j = n - 1 := fun h5 => c4 (by rw [h5]); omega⟩, rfl⟩) (Nat.le_of_ble_eq_true rfl) (Nat.le_of_ble_eq_true rfl)
        · skip
          have h3 : j = n - 1 := (nI_eq (by omega) (by omega)).mp c4
          refine z_iload_n C dX1_isPhrase_45 0 rfl ?_
          refine z_sipush (v := nI 257) C dX1_isPhrase_46 (by decide) ?_
          refine z_idiv C dX1_isPhrase_49 (by decide) ?_
          refine z_top (y := nI (u / 257)) (by rw [hwu]; exact pk_div hu (by omega) (by omega)) ?_
          refine z_if_le (tgt := 57) C dX1_isPhrase_50 (by decide) (fun c5 => ?_) (fun c5 => ?_)
          · skip
            refine z_iconst (v := nI 0) C dX1_isPhrase_57 (by decide) ?_
            exact z_zret C hr (by decide) dX1_isPhrase_58 (⟨Or.inr ⟨rfl, fun h => by rw [hwu] at h; have h4 := ((zFine_of hu).mp h).2; have h5 : ¬ 0 < u / 257 := fun h6 => nI_nle h6 hq c5; omega⟩, rfl⟩) (Nat.le_of_ble_eq_true rfl) (Nat.le_of_ble_eq_true rfl)
          · skip
            refine z_iconst (v := nI 1) C dX1_isPhrase_53 (by decide) ?_
            refine z_goto (tgt := 58) C dX1_isPhrase_54 (by decide) ?_
            exact z_zret C hr (by decide) dX1_isPhrase_58 (⟨Or.inl ⟨rfl, by rw [hwu]; exact (zFine_of hu).mpr ⟨h1, Or.inr ⟨by omega, Nat.pos_of_ne_zero (fun h6 => c5 (by rw [h6]; decide))⟩⟩⟩, rfl⟩) (Nat.le_of_ble_eq_true rfl) (Nat.le_of_ble_eq_true rfl)
      · skip
        refine z_iconst (v := nI 1) C dX1_isPhrase_33 (by decide) ?_
        exact z_zret C hr (by decide) dX1_isPhrase_34 (⟨Or.inl ⟨rfl, by rw [hwu]; exact (zFine_of hu).mpr ⟨h1, Or.inl (fun h => c3 (by rw [h]))⟩⟩, rfl⟩) (Nat.le_of_ble_eq_true rfl) (Nat.le_of_ble_eq_true rfl)
    · skip
      refine z_iconst (v := nI 0) C dX1_isPhrase_20 (by decide) ?_
      exact z_zret C hr (by decide) dX1_isPhrase_21 (⟨Or.inr ⟨rfl, fun h => by rw [hwu] at h; exact c2 (nI_le ((zFine_of hu).mp h).1 (by omega))⟩, rfl⟩) (Nat.le_of_ble_eq_true rfl) (Nat.le_of_ble_eq_true rfl)

def zLen (sv : Nat → Nat) (u : Nat) : Nat := (if u / 257 = 0 then 0 else sv (u / 257) - sv (u / 257 - 1)) + (if u % 257 = 256 then 0 else 1)
theorem qX1_lengthOf_0 : ∀ w ∈ wsX10, w ∈ wsX1_lengthOf := by decide +kernel
theorem qX1_lengthOf_1 : Cond.fieldLink RX1 15 "PieceText$Phrases" "starts" "[I" ∈ wsX1_lengthOf := by decide +kernel
set_option maxHeartbeats 4000000 in
set_option maxRecDepth 100000 in
theorem c_Phr_lengthOf (l : Launch) (D : va_G) (cI cR cL : ClassId) (B N : Nat) (ad : Nat → Nat) (cw : Nat → va_E) {n : Nat} (h33 : 33 < N) (eo : cw 31 = .inr (1, [.ref (ad (32)), .ref (ad (33)), .int (nI n)])) {sf : Nat → Int32} (es : cw 33 = .inl (cI, 241, .inl (sf))) {sv : Nat → Nat} {u : Nat} (hu : u < 2 ^ 31) (hk : u / 257 ≤ 240) (hsv : ∀ i, i ≤ u / 257 → sf i = nI (sv i) ∧ sv i ≤ 240) (hmo : sv (u / 257 - 1) ≤ sv (u / 257)) : Met l yX1_lengthOf wsX1_lengthOf ({ frames := 0, cells := 0, slots := 0, locals := 0 } : Room) (va_Pc [.ref (ad (31)), .int (nI u)] (zI D vwCl (zTy cI cR cL) B N ad cw)) (zQi D vwCl B N ad (fun (v : Int32) (cw' : Nat → va_E) => v = nI (zLen sv u) ∧ cw' = cw)) 0 0 (zA B) := by
  refine z_ofW (cc := cX1_lengthOf) (maxL := 4) (ret := (some .int)) (by decide) rfl (Nat.le_of_ble_eq_true rfl) ?_
  intro p e s m args below meth c C hr hnm
  refine z_lv (lv' := [(0, .ref (ad (31))), (1, .int (nI u))]) [0, 1] rfl ?_
  refine z_iload_n C dX1_lengthOf_0 1 rfl ?_
  refine z_sipush (v := nI 257) C dX1_lengthOf_1 (by decide) ?_
  refine z_idiv C dX1_lengthOf_4 (by decide) ?_
  refine z_top (y := nI (u / 257)) (pk_div hu (by omega) (by omega)) ?_
  refine z_istore_n (lv' := [(2, .int (nI (u / 257))), (0, .ref (ad (31))), (1, .int (nI u))]) C dX1_lengthOf_5 rfl (by decide) rfl ?_
  refine z_iload_n C dX1_lengthOf_6 0 rfl ?_
  refine z_if_ne (tgt := 14) C dX1_lengthOf_7 (by decide) (fun c1 => ?_) (fun c1 => ?_)
  · skip
    have h0 : ¬ u / 257 = 0 := fun h => c1 (by rw [h]; decide)
    have e1 := hsv (u / 257) (Nat.le_refl _)
    have e2 := hsv (u / 257 - 1) (Nat.sub_le _ _)
    refine z_aload_n C dX1_lengthOf_14 1 rfl ?_
    refine z_get (Cn := RX1) (T := TX1) (NF := 3) (ci := 1) (v := .ref (ad (33))) C qX1_lengthOf_0 rfl 1 (by decide) (C.2.2.2.2.1 _ qX1_lengthOf_1) (fun _ h9 => h9) dX1_lengthOf_15 (31) (by omega) eo rfl ?_
    refine z_iload_n C dX1_lengthOf_18 0 rfl ?_
    refine z_iald C 0 rfl dX1_lengthOf_19 (33) h33 es (u / 257) (rfl) (by omega) (by decide) ?_
    refine z_top (y := nI (sv (u / 257))) (e1.1) ?_
    refine z_aload_n C dX1_lengthOf_20 1 rfl ?_
    refine z_get (Cn := RX1) (T := TX1) (NF := 3) (ci := 1) (v := .ref (ad (33))) C qX1_lengthOf_0 rfl 1 (by decide) (C.2.2.2.2.1 _ qX1_lengthOf_1) (fun _ h9 => h9) dX1_lengthOf_21 (31) (by omega) eo rfl ?_
    refine z_iload_n C dX1_lengthOf_24 0 rfl ?_
    refine z_iconst (v := nI 1) C dX1_lengthOf_25 (by decide) ?_
    refine z_isub C dX1_lengthOf_26 ?_
    refine z_top (y := nI (u / 257 - 1)) (pk_sub (b := 1) (by omega)) ?_
    refine z_iald C 0 rfl dX1_lengthOf_27 (33) h33 es (u / 257 - 1) (rfl) (by omega) (by decide) ?_
    refine z_top (y := nI (sv (u / 257 - 1))) (e2.1) ?_
    refine z_isub C dX1_lengthOf_28 ?_
    refine z_top (y := nI (sv (u / 257) - sv (u / 257 - 1))) (pk_sub hmo) ?_
    refine z_istore_n (lv' := [(3, .int (nI (sv (u / 257) - sv (u / 257 - 1)))), (2, .int (nI (u / 257))), (0, .ref (ad (31))), (1, .int (nI u))]) C dX1_lengthOf_29 rfl (by decide) rfl ?_
    refine z_iload_n C dX1_lengthOf_30 3 rfl ?_
    refine z_sipush (v := nI 257) C dX1_lengthOf_31 (by decide) ?_
    refine z_irem C dX1_lengthOf_34 (by decide) ?_
    refine z_top (y := nI (u % 257)) (pk_rem hu (by omega) (by omega)) ?_
    refine z_sipush (v := nI 256) C dX1_lengthOf_35 (by decide) ?_
    refine z_icmp_ne (tgt := 45) C dX1_lengthOf_38 (by decide) (fun c2 => ?_) (fun c2 => ?_)
    · skip
      refine z_iload_n C dX1_lengthOf_45 0 rfl ?_
      refine z_iconst (v := nI 1) C dX1_lengthOf_46 (by decide) ?_
      refine z_iadd C dX1_lengthOf_47 ?_
      refine z_top (y := nI (zLen sv u)) (by rw [nI_add]; unfold zLen; rw [if_neg h0, if_neg (fun h => c2 (by rw [h]))]) ?_
      exact z_iret C hr dX1_lengthOf_48 (⟨rfl, rfl⟩) (Nat.le_of_ble_eq_true rfl) (Nat.le_of_ble_eq_true rfl)
    · skip
      have h2 : u % 257 = 256 := (nI_eq (by omega) (by omega)).mp c2
      refine z_iload_n C dX1_lengthOf_41 0 rfl ?_
      refine z_goto (tgt := 48) C dX1_lengthOf_42 (by decide) ?_
      refine z_top (y := nI (zLen sv u)) (by unfold zLen; rw [if_neg h0, if_pos h2, Nat.add_zero]) ?_
      exact z_iret C hr dX1_lengthOf_48 (⟨rfl, rfl⟩) (Nat.le_of_ble_eq_true rfl) (Nat.le_of_ble_eq_true rfl)
  · skip
    have h0 : u / 257 = 0 := (nI_eq (by omega) (by omega)).mp c1
    refine z_iconst (v := nI 0) C dX1_lengthOf_10 (by decide) ?_
    refine z_goto (tgt := 29) C dX1_lengthOf_11 (by decide) ?_
    refine z_istore_n (lv' := [(3, .int (nI 0)), (2, .int (nI (u / 257))), (0, .ref (ad (31))), (1, .int (nI u))]) C dX1_lengthOf_29 rfl (by decide) rfl ?_
    refine z_iload_n C dX1_lengthOf_30 3 rfl ?_
    refine z_sipush (v := nI 257) C dX1_lengthOf_31 (by decide) ?_
    refine z_irem C dX1_lengthOf_34 (by decide) ?_
    refine z_top (y := nI (u % 257)) (pk_rem hu (by omega) (by omega)) ?_
    refine z_sipush (v := nI 256) C dX1_lengthOf_35 (by decide) ?_
    refine z_icmp_ne (tgt := 45) C dX1_lengthOf_38 (by decide) (fun c3 => ?_) (fun c3 => ?_)
    · skip
      refine z_iload_n C dX1_lengthOf_45 0 rfl ?_
      refine z_iconst (v := nI 1) C dX1_lengthOf_46 (by decide) ?_
      refine z_iadd C dX1_lengthOf_47 ?_
      refine z_top (y := nI (zLen sv u)) (by rw [nI_add]; unfold zLen; rw [if_pos h0, if_neg (fun h => c3 (by rw [h]))]) ?_
      exact z_iret C hr dX1_lengthOf_48 (⟨rfl, rfl⟩) (Nat.le_of_ble_eq_true rfl) (Nat.le_of_ble_eq_true rfl)
    · skip
      have h2 : u % 257 = 256 := (nI_eq (by omega) (by omega)).mp c3
      refine z_iload_n C dX1_lengthOf_41 0 rfl ?_
      refine z_goto (tgt := 48) C dX1_lengthOf_42 (by decide) ?_
      refine z_top (y := nI (zLen sv u)) (by unfold zLen; rw [if_pos h0, if_pos h2, Nat.add_zero]) ?_
      exact z_iret C hr dX1_lengthOf_48 (⟨rfl, rfl⟩) (Nat.le_of_ble_eq_true rfl) (Nat.le_of_ble_eq_true rfl)

def zPut (f : Nat → Int32) (q : Nat) (sv : Nat → Nat) (u : Nat) (f' : Nat → Int32) : Prop :=
  (∀ i, i < q → f' i = f i) ∧ (0 < u / 257 → ∀ i, i < sv (u / 257) - sv (u / 257 - 1) → f' (q + i) = f (sv (u / 257 - 1) + i)) ∧
  (u % 257 ≠ 256 → f' (q + (zLen sv u - 1)) = nI (u % 257))
theorem qX1_addPhrase_0 : ∀ w ∈ wsX10, w ∈ wsX1_addPhrase := by decide +kernel
theorem qX1_addPhrase_1 : Cond.fieldLink RX1 15 "PieceText$Phrases" "starts" "[I" ∈ wsX1_addPhrase := by decide +kernel
set_option maxHeartbeats 4000000 in
set_option maxRecDepth 100000 in
theorem c_Phr_addPhrase (l : Launch) (D : va_G) (cI cR cL : ClassId) (B N : Nat) (ad : Nat → Nat) (cw : Nat → va_E) {n : Nat} (h33 : 33 < N) (eo : cw 31 = .inr (1, [.ref (ad (32)), .ref (ad (33)), .int (nI n)])) {sf : Nat → Int32} (es : cw 33 = .inl (cI, 241, .inl (sf))) {sv : Nat → Nat} {u : Nat} (hu : u < 2 ^ 31) (hk : u / 257 ≤ 240) (hsv : ∀ i, i ≤ u / 257 → sf i = nI (sv i) ∧ sv i ≤ 240) (hmo : sv (u / 257 - 1) ≤ sv (u / 257)) {q : Nat} {f : Nat → Int32} (h35 : 35 < N) (ed : cw 34 = .inr (2, [.ref (ad (35)), .int (nI q)])) (eda : cw 35 = .inl (cI, 240, .inl (f))) (hq : q + zLen sv u ≤ 240) (hst : sv (u / 257) ≤ q) : Met l yX1_addPhrase wsX1_addPhrase ({ frames := 2, cells := 0, slots := 0, locals := 83 } : Room) (va_Pc [.ref (ad (31)), .int (nI u), .ref (ad (34))] (zI D vwCl (zTy cI cR cL) B N ad cw)) (zQv D vwCl B N ad (fun (cw' : Nat → va_E) => cw' 34 = .inr (2, [.ref (ad (35)), .int (nI (q + zLen sv u))]) ∧ (∃ f', cw' 35 = .inl (cI, 240, .inl (f')) ∧ zPut f q sv u f') ∧ ∀ j, (j ≠ 34 ∧ j ≠ 35) → cw' j = cw j)) 0 0 (zA B) := by
  refine z_ofW (cc := cX1_addPhrase) (maxL := 4) (ret := none) (by decide) rfl (Nat.le_of_ble_eq_true rfl) ?_
  intro p e s m args below meth c C hr hnm
  refine z_lv (lv' := [(0, .ref (ad (31))), (1, .int (nI u)), (2, .ref (ad (34)))]) [0, 1, 2] rfl ?_
  have hz : zLen sv u = (if u / 257 = 0 then 0 else sv (u / 257) - sv (u / 257 - 1)) + (if u % 257 = 256 then 0 else 1) := rfl
  refine z_iload_n C dX1_addPhrase_0 1 rfl ?_
  refine z_sipush (v := nI 257) C dX1_addPhrase_1 (by decide) ?_
  refine z_idiv C dX1_addPhrase_4 (by decide) ?_
  refine z_top (y := nI (u / 257)) (pk_div hu (by omega) (by omega)) ?_
  refine z_istore_n (lv' := [(3, .int (nI (u / 257))), (0, .ref (ad (31))), (1, .int (nI u)), (2, .ref (ad (34)))]) C dX1_addPhrase_5 rfl (by decide) rfl ?_
  refine z_iload_n C dX1_addPhrase_6 0 rfl ?_
  refine z_if_le (tgt := 29) C dX1_addPhrase_7 (by decide) (fun c1 => ?_) (fun c1 => ?_)
  · skip
    have h0 : u / 257 = 0 := by rcases Nat.eq_zero_or_pos (u / 257) with h | h; exact h; exact absurd c1 (nI_nle h (by omega))
    rw [if_pos h0] at hz
    refine z_iload_n C dX1_addPhrase_29 2 rfl ?_
    refine z_sipush (v := nI 257) C dX1_addPhrase_30 (by decide) ?_
    refine z_irem C dX1_addPhrase_33 (by decide) ?_
    refine z_top (y := nI (u % 257)) (pk_rem hu (by omega) (by omega)) ?_
    refine z_sipush (v := nI 256) C dX1_addPhrase_34 (by decide) ?_
    refine z_icmp_eq (tgt := 49) C dX1_addPhrase_37 (by decide) (fun c2 => ?_) (fun c2 => ?_)
    · skip
      have h2 : u % 257 = 256 := (nI_eq (by omega) (by omega)).mp c2
      rw [if_pos h2] at hz
      exact z_vret C hr dX1_addPhrase_49 (⟨by rw [ed, hz]; rfl, ⟨_, eda, ⟨fun i _ => rfl, fun h => absurd h0 (by omega), fun h => absurd h2 h⟩⟩, fun j _ => rfl⟩) (Nat.le_of_ble_eq_true rfl) (Nat.le_of_ble_eq_true rfl)
    · skip
      have h2 : ¬ u % 257 = 256 := fun h => c2 (by rw [h])
      rw [if_neg h2] at hz
      refine z_aload_n C dX1_addPhrase_40 3 rfl ?_
      refine z_iload_n C dX1_addPhrase_41 2 rfl ?_
      refine z_sipush (v := nI 257) C dX1_addPhrase_42 (by decide) ?_
      refine z_irem C dX1_addPhrase_45 (by decide) ?_
      refine z_top (y := nI (u % 257)) (pk_rem hu (by omega) (by omega)) ?_
      refine z_callv (z_runV (As := [.int (nI (u % 257))]) (rest := []) C (c_Row_add l D cI cR cL B N ad cw (by omega) ed (by decide) h35 eda (by decide) (by omega) (nI (u % 257))) (cwV 1 C.2.2.2.2.1 gX1_addPhrase_X2_add rfl rfl rfl (by decide +kernel) ⟨Nat.le_of_ble_eq_true rfl, Nat.le_of_ble_eq_true rfl⟩) (by omega) ed rfl rfl rfl rfl (Nat.le_of_ble_eq_true rfl) dX1_addPhrase_46 ⟨Nat.le_of_ble_eq_true rfl, Nat.le_of_ble_eq_true rfl⟩) (fun cw3 hp4 => ?_)
      have hw_5 : cw3 (31) = .inr (1, [.ref (ad (32)), .ref (ad (33)), .int (nI n)]) := by rw [hp4, va_up_ne _ _ (by decide), va_up_ne _ _ (by decide)]; exact eo
      have hw_6 : cw3 (33) = .inl (cI, 241, .inl (sf)) := by rw [hp4, va_up_ne _ _ (by decide), va_up_ne _ _ (by decide)]; exact es
      have hw_7 : cw3 (34) = .inr (2, [.ref (ad (35)), .int (nI (q + 1))]) := by rw [hp4, va_up_self]
      have hw_8 : cw3 (35) = .inl (cI, 240, .inl (upd (f) (q) (nI (u % 257)))) := by rw [hp4, va_up_ne _ _ (by decide), va_up_self]
      exact z_vret C hr dX1_addPhrase_49 (⟨by rw [hw_7, hz], ⟨_, hw_8, ⟨fun i hi => pk_un (by omega), fun h => absurd h0 (by omega), fun _ => by rw [show zLen sv u - 1 = 0 by omega]; exact pk_us⟩⟩, fun j hj => by rw [hp4, va_up_ne _ _ (by omega), va_up_ne _ _ (by omega)]⟩) (Nat.le_of_ble_eq_true rfl) (Nat.le_of_ble_eq_true rfl)
  · skip
    have h0 : 0 < u / 257 := Nat.pos_of_ne_zero (fun h => c1 (by rw [h]; decide))
    rw [if_neg (by omega)] at hz
    have e1 := hsv (u / 257) (Nat.le_refl _)
    have e2 := hsv (u / 257 - 1) (Nat.sub_le _ _)
    refine z_aload_n C dX1_addPhrase_10 3 rfl ?_
    refine z_aload_n C dX1_addPhrase_11 3 rfl ?_
    refine z_aload_n C dX1_addPhrase_12 1 rfl ?_
    refine z_get (Cn := RX1) (T := TX1) (NF := 3) (ci := 1) (v := .ref (ad (33))) C qX1_addPhrase_0 rfl 1 (by decide) (C.2.2.2.2.1 _ qX1_addPhrase_1) (fun _ h9 => h9) dX1_addPhrase_13 (31) (by omega) eo rfl ?_
    refine z_iload_n C dX1_addPhrase_16 0 rfl ?_
    refine z_iconst (v := nI 1) C dX1_addPhrase_17 (by decide) ?_
    refine z_isub C dX1_addPhrase_18 ?_
    refine z_top (y := nI (u / 257 - 1)) (pk_sub (b := 1) (by omega)) ?_
    refine z_iald C 0 rfl dX1_addPhrase_19 (33) h33 es (u / 257 - 1) (rfl) (by omega) (by decide) ?_
    refine z_top (y := nI (sv (u / 257 - 1))) (e2.1) ?_
    refine z_aload_n C dX1_addPhrase_20 1 rfl ?_
    refine z_get (Cn := RX1) (T := TX1) (NF := 3) (ci := 1) (v := .ref (ad (33))) C qX1_addPhrase_0 rfl 1 (by decide) (C.2.2.2.2.1 _ qX1_addPhrase_1) (fun _ h9 => h9) dX1_addPhrase_21 (31) (by omega) eo rfl ?_
    refine z_iload_n C dX1_addPhrase_24 0 rfl ?_
    refine z_iald C 0 rfl dX1_addPhrase_25 (33) h33 es (u / 257) (rfl) (by omega) (by decide) ?_
    refine z_top (y := nI (sv (u / 257))) (e1.1) ?_
    refine z_callv (z_runV (As := [.ref (ad (34)), .int (nI (sv (u / 257 - 1))), .int (nI (sv (u / 257)))]) (rest := []) C (c_Row_addSelf l D cI cR cL B N ad cw (by omega) ed (by decide) h35 eda (by decide) (b := sv (u / 257 - 1)) (k := sv (u / 257)) (hmo) (by omega) (by split at hz <;> omega)) (cwV 3 C.2.2.2.2.1 gX1_addPhrase_X2_addPart rfl rfl rfl (by decide +kernel) ⟨Nat.le_of_ble_eq_true rfl, Nat.le_of_ble_eq_true rfl⟩) (by omega) ed rfl rfl rfl rfl (Nat.le_of_ble_eq_true rfl) dX1_addPhrase_26 ⟨Nat.le_of_ble_eq_true rfl, Nat.le_of_ble_eq_true rfl⟩) (fun cw9 hp10 => ?_)
    have hw_11 : cw9 (31) = .inr (1, [.ref (ad (32)), .ref (ad (33)), .int (nI n)]) := by rw [hp10, va_up_ne _ _ (by decide), va_up_ne _ _ (by decide)]; exact eo
    have hw_12 : cw9 (33) = .inl (cI, 241, .inl (sf)) := by rw [hp10, va_up_ne _ _ (by decide), va_up_ne _ _ (by decide)]; exact es
    have hw_13 : cw9 (34) = .inr (2, [.ref (ad (35)), .int (nI (q + ((sv (u / 257)) - (sv (u / 257 - 1)))))]) := by rw [hp10, va_up_self]
    have hw_14 : cw9 (35) = .inl (cI, 240, .inl (va_cpy (f) (f) (sv (u / 257 - 1)) (q) ((sv (u / 257)) - (sv (u / 257 - 1))))) := by rw [hp10, va_up_ne _ _ (by decide), va_up_self]
    refine z_iload_n C dX1_addPhrase_29 2 rfl ?_
    refine z_sipush (v := nI 257) C dX1_addPhrase_30 (by decide) ?_
    refine z_irem C dX1_addPhrase_33 (by decide) ?_
    refine z_top (y := nI (u % 257)) (pk_rem hu (by omega) (by omega)) ?_
    refine z_sipush (v := nI 256) C dX1_addPhrase_34 (by decide) ?_
    refine z_icmp_eq (tgt := 49) C dX1_addPhrase_37 (by decide) (fun c15 => ?_) (fun c15 => ?_)
    · skip
      have h2 : u % 257 = 256 := (nI_eq (by omega) (by omega)).mp c15
      rw [if_pos h2] at hz
      exact z_vret C hr dX1_addPhrase_49 (⟨by rw [hw_13, hz]; rfl, ⟨_, hw_14, ⟨fun i hi => pk_cpy_out (Or.inl hi), fun _ i hi => by rw [pk_cpy_in (by omega) (by omega)]; congr 1; omega, fun h => absurd h2 h⟩⟩, fun j hj => by rw [hp10, va_up_ne _ _ (by omega), va_up_ne _ _ (by omega)]⟩) (Nat.le_of_ble_eq_true rfl) (Nat.le_of_ble_eq_true rfl)
    · skip
      have h2 : ¬ u % 257 = 256 := fun h => c15 (by rw [h])
      rw [if_neg h2] at hz
      refine z_aload_n C dX1_addPhrase_40 3 rfl ?_
      refine z_iload_n C dX1_addPhrase_41 2 rfl ?_
      refine z_sipush (v := nI 257) C dX1_addPhrase_42 (by decide) ?_
      refine z_irem C dX1_addPhrase_45 (by decide) ?_
      refine z_top (y := nI (u % 257)) (pk_rem hu (by omega) (by omega)) ?_
      refine z_callv (z_runV (As := [.int (nI (u % 257))]) (rest := []) C (c_Row_add l D cI cR cL B N ad cw9 (by omega) hw_13 (by decide) h35 hw_14 (by decide) (by omega) (nI (u % 257))) (cwV 1 C.2.2.2.2.1 gX1_addPhrase_X2_add rfl rfl rfl (by decide +kernel) ⟨Nat.le_of_ble_eq_true rfl, Nat.le_of_ble_eq_true rfl⟩) (by omega) hw_13 rfl rfl rfl rfl (Nat.le_of_ble_eq_true rfl) dX1_addPhrase_46 ⟨Nat.le_of_ble_eq_true rfl, Nat.le_of_ble_eq_true rfl⟩) (fun cw16 hp17 => ?_)
      have hw_18 : cw16 (31) = .inr (1, [.ref (ad (32)), .ref (ad (33)), .int (nI n)]) := by rw [hp17, va_up_ne _ _ (by decide), va_up_ne _ _ (by decide)]; exact hw_11
      have hw_19 : cw16 (33) = .inl (cI, 241, .inl (sf)) := by rw [hp17, va_up_ne _ _ (by decide), va_up_ne _ _ (by decide)]; exact hw_12
      have hw_20 : cw16 (34) = .inr (2, [.ref (ad (35)), .int (nI (q + ((sv (u / 257)) - (sv (u / 257 - 1))) + 1))]) := by rw [hp17, va_up_self]
      have hw_21 : cw16 (35) = .inl (cI, 240, .inl (upd (va_cpy (f) (f) (sv (u / 257 - 1)) (q) ((sv (u / 257)) - (sv (u / 257 - 1)))) (q + ((sv (u / 257)) - (sv (u / 257 - 1)))) (nI (u % 257)))) := by rw [hp17, va_up_ne _ _ (by decide), va_up_self]
      exact z_vret C hr dX1_addPhrase_49 (⟨by rw [hw_20, hz]; rfl, ⟨_, hw_21, ⟨fun i hi => (pk_un (by omega)).trans (pk_cpy_out (Or.inl hi)), fun _ i hi => by rw [pk_un (by omega), pk_cpy_in (by omega) (by omega)]; congr 1; omega, fun _ => by rw [show q + (zLen sv u - 1) = q + (sv (u / 257) - sv (u / 257 - 1)) by omega]; exact pk_us⟩⟩, fun j hj => by rw [hp17, va_up_ne _ _ (by omega), va_up_ne _ _ (by omega)]; rw [hp10, va_up_ne _ _ (by omega), va_up_ne _ _ (by omega)]⟩) (Nat.le_of_ble_eq_true rfl) (Nat.le_of_ble_eq_true rfl)
end
section
theorem zng_IO : ∀ w ∈ (vx_atS RX3 78 xIO xNames).filter (fun w => !goodWord w), w ∈ zNgs := by decide +kernel
theorem zgd_IO : ∀ w ∈ Cond.classLink RX3 74 xIO :: Cond.initialized xIO :: vx_atS RX3 78 xIO xNames, vx_ot w = true := by decide +kernel
theorem zng_IA : ∀ w ∈ (vx_atS RX3 157 xIA xNames).filter (fun w => !goodWord w), w ∈ zNgs := by decide +kernel
theorem zgd_IA : ∀ w ∈ Cond.classLink RX3 153 xIA :: Cond.initialized xIA :: vx_atS RX3 157 xIA xNames, vx_ot w = true := by decide +kernel
theorem zng_UO : ∀ w ∈ (vx_atS RX3 108 xUO xNames).filter (fun w => !goodWord w), w ∈ zNgs := by decide +kernel
theorem zgd_UO : ∀ w ∈ Cond.classLink RX3 104 xUO :: Cond.initialized xUO :: vx_atS RX3 108 xUO xNames, vx_ot w = true := by decide +kernel
theorem zng_IS : ∀ w ∈ (vx_atS RX3 92 xIS xNames).filter (fun w => !goodWord w), w ∈ zNgs := by decide +kernel
theorem zgd_IS : ∀ w ∈ Cond.classLink RX3 88 xIS :: Cond.initialized xIS :: vx_atS RX3 92 xIS xNames, vx_ot w = true := by decide +kernel
theorem qX3_refuseNoPlace_0 : Cond.classLink RX3 74 "java/lang/IndexOutOfBoundsException" ∈ wsX3_refuseNoPlace := by decide +kernel
theorem qX3_refuseNoPlace_1 : Cond.initialized "java/lang/IndexOutOfBoundsException" ∈ wsX3_refuseNoPlace := by decide +kernel
set_option maxHeartbeats 4000000 in
set_option maxRecDepth 100000 in
theorem c_PT_noPlace (l : Launch) (D : va_G) (cI cR cL : ClassId) (B N : Nat) (ad : Nat → Nat) (cw : Nat → va_E) (hl8 : l.stackTraces = false) {r a n : Nat} (hr9 : r < N) (er : cw r = .inr (2, [.ref (ad (a)), .int (nI n)])) (hn9 : n ≤ 240) (x : Int32) : vx_Met l yX3_refuseNoPlace wsX3_refuseNoPlace ({ frames := 6, cells := 1, slots := 6, locals := 95 } : Room) (va_Pc [.int (x), .ref (ad (r))] (zI D vwCl (zTy cI cR cL) B N ad cw)) (zQv D vwCl B N ad (fun (cw' : Nat → va_E) => (∃ q, q ≤ n ∧ x = nI q) ∧ cw' = cw)) (zXC D vwCl B N ad cw (fun E : String => E = xIO ∧ ¬ (∃ q, q ≤ n ∧ x = nI q))) 1 6 (zA B) := by
  refine z_ofX (cc := cX3_refuseNoPlace) (maxL := 2) (ret := none) (by decide) rfl (Nat.le_of_ble_eq_true rfl) ?_
  intro p e s m args below meth c C hr h0
  refine z_lv (lv' := [(0, .int (x)), (1, .ref (ad (r)))]) [0, 1] rfl ?_
  refine z_iload_n C dX3_refuseNoPlace_0 0 rfl ?_
  refine z_if_lt (tgt := 12) C dX3_refuseNoPlace_1 (by decide) (fun c1 => ?_) (fun c1 => ?_)
  · skip
    exact z_throw (cls := xIO) (names := xNames) C hl8 h0 rfl (by decide) (by decide) (C.2.2.2.2.1 _ qX3_refuseNoPlace_0) (C.2.2.2.2.1 _ qX3_refuseNoPlace_1) (show (151, "no such place") ∈ zStrs by decide +kernel) (fun w h => List.mem_cons_of_mem _ (List.mem_append_right _ h)) zng_IO zgd_IO dX3_refuseNoPlace_12 dX3_refuseNoPlace_15 dX3_refuseNoPlace_16 dX3_refuseNoPlace_18 dX3_refuseNoPlace_21 (Nat.le_of_ble_eq_true rfl) (Nat.le_of_ble_eq_true rfl) (Nat.le_of_ble_eq_true rfl) (Nat.le_of_ble_eq_true rfl) (⟨rfl, fun ⟨q, h1, h2⟩ => by rw [h2] at c1; exact nI_pos (by omega) c1⟩) (Nat.le_of_ble_eq_true rfl) (Nat.le_of_ble_eq_true rfl)
  · skip
    obtain ⟨u, hu, hxu⟩ := nI_of c1
    refine z_iload_n C dX3_refuseNoPlace_4 0 rfl ?_
    refine z_aload_n C dX3_refuseNoPlace_5 1 rfl ?_
    refine z_calli (z_runV (As := []) (rest := [.int (x)]) C (c_Row_size l D cI cR cL B N ad cw hr9 er) (cwV 0 C.2.2.2.2.1 gX3_refuseNoPlace_X2_size rfl rfl rfl (by decide +kernel) ⟨Nat.le_of_ble_eq_true rfl, Nat.le_of_ble_eq_true rfl⟩) hr9 er rfl rfl rfl rfl (Nat.le_of_ble_eq_true rfl) dX3_refuseNoPlace_6 ⟨Nat.le_of_ble_eq_true rfl, Nat.le_of_ble_eq_true rfl⟩) (fun r2 cw3 hp4 => ?_)
    refine z_cw hp4.2 ?_
    refine z_top hp4.1 ?_
    refine z_icmp_le (tgt := 22) C dX3_refuseNoPlace_9 (by decide) (fun c5 => ?_) (fun c5 => ?_)
    · skip
      exact z_xvret C hr dX3_refuseNoPlace_22 (⟨⟨u, (nI_leI hu (by omega)).mp (by rw [← hxu]; exact c5), hxu⟩, rfl⟩) (Nat.le_of_ble_eq_true rfl) (Nat.le_of_ble_eq_true rfl)
    · skip
      exact z_throw (cls := xIO) (names := xNames) C hl8 h0 rfl (by decide) (by decide) (C.2.2.2.2.1 _ qX3_refuseNoPlace_0) (C.2.2.2.2.1 _ qX3_refuseNoPlace_1) (show (151, "no such place") ∈ zStrs by decide +kernel) (fun w h => List.mem_cons_of_mem _ (List.mem_append_right _ h)) zng_IO zgd_IO dX3_refuseNoPlace_12 dX3_refuseNoPlace_15 dX3_refuseNoPlace_16 dX3_refuseNoPlace_18 dX3_refuseNoPlace_21 (Nat.le_of_ble_eq_true rfl) (Nat.le_of_ble_eq_true rfl) (Nat.le_of_ble_eq_true rfl) (Nat.le_of_ble_eq_true rfl) (⟨rfl, fun ⟨q, h1, h2⟩ => c5 (by rw [h2]; exact nI_le h1 (by omega))⟩) (Nat.le_of_ble_eq_true rfl) (Nat.le_of_ble_eq_true rfl)

theorem qX3_refuseNoCharacter_0 : Cond.classLink RX3 153 "java/lang/IllegalArgumentException" ∈ wsX3_refuseNoCharacter := by decide +kernel
theorem qX3_refuseNoCharacter_1 : Cond.initialized "java/lang/IllegalArgumentException" ∈ wsX3_refuseNoCharacter := by decide +kernel
set_option maxHeartbeats 4000000 in
set_option maxRecDepth 100000 in
theorem c_PT_noChar (l : Launch) (D : va_G) (cI cR cL : ClassId) (B N : Nat) (ad : Nat → Nat) (cw : Nat → va_E) (hl8 : l.stackTraces = false) (x : Int32) : vx_Met l yX3_refuseNoCharacter wsX3_refuseNoCharacter ({ frames := 6, cells := 1, slots := 6, locals := 95 } : Room) (va_Pc [.int (x)] (zI D vwCl (zTy cI cR cL) B N ad cw)) (zQv D vwCl B N ad (fun (cw' : Nat → va_E) => (∃ q, q < 256 ∧ x = nI q) ∧ cw' = cw)) (zXC D vwCl B N ad cw (fun E : String => E = xIA ∧ ¬ (∃ q, q < 256 ∧ x = nI q))) 1 6 (zA B) := by
  refine z_ofX (cc := cX3_refuseNoCharacter) (maxL := 1) (ret := none) (by decide) rfl (Nat.le_of_ble_eq_true rfl) ?_
  intro p e s m args below meth c C hr h0
  refine z_lv (lv' := [(0, .int (x))]) [0] rfl ?_
  refine z_iload_n C dX3_refuseNoCharacter_0 0 rfl ?_
  refine z_if_lt (tgt := 11) C dX3_refuseNoCharacter_1 (by decide) (fun c1 => ?_) (fun c1 => ?_)
  · skip
    exact z_throw (cls := xIA) (names := xNames) C hl8 h0 rfl (by decide) (by decide) (C.2.2.2.2.1 _ qX3_refuseNoCharacter_0) (C.2.2.2.2.1 _ qX3_refuseNoCharacter_1) (show (155, "no character") ∈ zStrs by decide +kernel) (fun w h => List.mem_cons_of_mem _ (List.mem_append_right _ h)) zng_IA zgd_IA dX3_refuseNoCharacter_11 dX3_refuseNoCharacter_14 dX3_refuseNoCharacter_15 dX3_refuseNoCharacter_17 dX3_refuseNoCharacter_20 (Nat.le_of_ble_eq_true rfl) (Nat.le_of_ble_eq_true rfl) (Nat.le_of_ble_eq_true rfl) (Nat.le_of_ble_eq_true rfl) (⟨rfl, fun ⟨q, h1, h2⟩ => by rw [h2] at c1; exact nI_pos (by omega) c1⟩) (Nat.le_of_ble_eq_true rfl) (Nat.le_of_ble_eq_true rfl)
  · skip
    obtain ⟨u, hu, hxu⟩ := nI_of c1
    refine z_iload_n C dX3_refuseNoCharacter_4 0 rfl ?_
    refine z_sipush (v := nI 256) C dX3_refuseNoCharacter_5 (by decide) ?_
    refine z_icmp_lt (tgt := 21) C dX3_refuseNoCharacter_8 (by decide) (fun c2 => ?_) (fun c2 => ?_)
    · skip
      exact z_xvret C hr dX3_refuseNoCharacter_21 (⟨⟨u, (nI_ltI hu (by omega)).mp (by rw [← hxu]; exact c2), hxu⟩, rfl⟩) (Nat.le_of_ble_eq_true rfl) (Nat.le_of_ble_eq_true rfl)
    · skip
      exact z_throw (cls := xIA) (names := xNames) C hl8 h0 rfl (by decide) (by decide) (C.2.2.2.2.1 _ qX3_refuseNoCharacter_0) (C.2.2.2.2.1 _ qX3_refuseNoCharacter_1) (show (155, "no character") ∈ zStrs by decide +kernel) (fun w h => List.mem_cons_of_mem _ (List.mem_append_right _ h)) zng_IA zgd_IA dX3_refuseNoCharacter_11 dX3_refuseNoCharacter_14 dX3_refuseNoCharacter_15 dX3_refuseNoCharacter_17 dX3_refuseNoCharacter_20 (Nat.le_of_ble_eq_true rfl) (Nat.le_of_ble_eq_true rfl) (Nat.le_of_ble_eq_true rfl) (Nat.le_of_ble_eq_true rfl) (⟨rfl, fun ⟨q, h1, h2⟩ => c2 (by rw [h2]; exact nI_lt h1 (by omega))⟩) (Nat.le_of_ble_eq_true rfl) (Nat.le_of_ble_eq_true rfl)

theorem qX3_refuseNoPart_0 : Cond.classLink RX3 153 "java/lang/IllegalArgumentException" ∈ wsX3_refuseNoPart := by decide +kernel
theorem qX3_refuseNoPart_1 : Cond.initialized "java/lang/IllegalArgumentException" ∈ wsX3_refuseNoPart := by decide +kernel
set_option maxHeartbeats 4000000 in
set_option maxRecDepth 100000 in
theorem c_PT_noPart (l : Launch) (D : va_G) (cI cR cL : ClassId) (B N : Nat) (ad : Nat → Nat) (cw : Nat → va_E) (hl8 : l.stackTraces = false) {r a n : Nat} (hr9 : r < N) (er : cw r = .inr (2, [.ref (ad (a)), .int (nI n)])) (hn9 : n ≤ 240) {pl : Nat} (hpl : pl ≤ n) (x : Int32) : vx_Met l yX3_refuseNoPart wsX3_refuseNoPart ({ frames := 6, cells := 1, slots := 6, locals := 95 } : Room) (va_Pc [.int (nI pl), .int (x), .ref (ad (r))] (zI D vwCl (zTy cI cR cL) B N ad cw)) (zQv D vwCl B N ad (fun (cw' : Nat → va_E) => (∃ q, q ≤ n - pl ∧ x = nI q) ∧ cw' = cw)) (zXC D vwCl B N ad cw (fun E : String => E = xIA ∧ ¬ (∃ q, q ≤ n - pl ∧ x = nI q))) 1 6 (zA B) := by
  refine z_ofX (cc := cX3_refuseNoPart) (maxL := 3) (ret := none) (by decide) rfl (Nat.le_of_ble_eq_true rfl) ?_
  intro p e s m args below meth c C hr h0
  refine z_lv (lv' := [(0, .int (nI pl)), (1, .int (x)), (2, .ref (ad (r)))]) [0, 1, 2] rfl ?_
  refine z_iload_n C dX3_refuseNoPart_0 1 rfl ?_
  refine z_if_lt (tgt := 14) C dX3_refuseNoPart_1 (by decide) (fun c1 => ?_) (fun c1 => ?_)
  · skip
    exact z_throw (cls := xIA) (names := xNames) C hl8 h0 rfl (by decide) (by decide) (C.2.2.2.2.1 _ qX3_refuseNoPart_0) (C.2.2.2.2.1 _ qX3_refuseNoPart_1) (show (158, "not so many characters") ∈ zStrs by decide +kernel) (fun w h => List.mem_cons_of_mem _ (List.mem_append_right _ h)) zng_IA zgd_IA dX3_refuseNoPart_14 dX3_refuseNoPart_17 dX3_refuseNoPart_18 dX3_refuseNoPart_20 dX3_refuseNoPart_23 (Nat.le_of_ble_eq_true rfl) (Nat.le_of_ble_eq_true rfl) (Nat.le_of_ble_eq_true rfl) (Nat.le_of_ble_eq_true rfl) (⟨rfl, fun ⟨q, h1, h2⟩ => by rw [h2] at c1; exact nI_pos (by omega) c1⟩) (Nat.le_of_ble_eq_true rfl) (Nat.le_of_ble_eq_true rfl)
  · skip
    obtain ⟨u, hu, hxu⟩ := nI_of c1
    refine z_iload_n C dX3_refuseNoPart_4 1 rfl ?_
    refine z_aload_n C dX3_refuseNoPart_5 2 rfl ?_
    refine z_calli (z_runV (As := []) (rest := [.int (x)]) C (c_Row_size l D cI cR cL B N ad cw hr9 er) (cwV 0 C.2.2.2.2.1 gX3_refuseNoPart_X2_size rfl rfl rfl (by decide +kernel) ⟨Nat.le_of_ble_eq_true rfl, Nat.le_of_ble_eq_true rfl⟩) hr9 er rfl rfl rfl rfl (Nat.le_of_ble_eq_true rfl) dX3_refuseNoPart_6 ⟨Nat.le_of_ble_eq_true rfl, Nat.le_of_ble_eq_true rfl⟩) (fun r2 cw3 hp4 => ?_)
    refine z_cw hp4.2 ?_
    refine z_top hp4.1 ?_
    refine z_iload_n C dX3_refuseNoPart_9 0 rfl ?_
    refine z_isub C dX3_refuseNoPart_10 ?_
    refine z_top (y := nI (n - pl)) (pk_sub hpl) ?_
    refine z_icmp_le (tgt := 24) C dX3_refuseNoPart_11 (by decide) (fun c5 => ?_) (fun c5 => ?_)
    · skip
      exact z_xvret C hr dX3_refuseNoPart_24 (⟨⟨u, (nI_leI hu (by omega)).mp (by rw [← hxu]; exact c5), hxu⟩, rfl⟩) (Nat.le_of_ble_eq_true rfl) (Nat.le_of_ble_eq_true rfl)
    · skip
      exact z_throw (cls := xIA) (names := xNames) C hl8 h0 rfl (by decide) (by decide) (C.2.2.2.2.1 _ qX3_refuseNoPart_0) (C.2.2.2.2.1 _ qX3_refuseNoPart_1) (show (158, "not so many characters") ∈ zStrs by decide +kernel) (fun w h => List.mem_cons_of_mem _ (List.mem_append_right _ h)) zng_IA zgd_IA dX3_refuseNoPart_14 dX3_refuseNoPart_17 dX3_refuseNoPart_18 dX3_refuseNoPart_20 dX3_refuseNoPart_23 (Nat.le_of_ble_eq_true rfl) (Nat.le_of_ble_eq_true rfl) (Nat.le_of_ble_eq_true rfl) (Nat.le_of_ble_eq_true rfl) (⟨rfl, fun ⟨q, h1, h2⟩ => c5 (by rw [h2]; exact nI_le h1 (by omega))⟩) (Nat.le_of_ble_eq_true rfl) (Nat.le_of_ble_eq_true rfl)

theorem qX3_refuseTooLong_0 : Cond.classLink RX3 104 "java/lang/UnsupportedOperationException" ∈ wsX3_refuseTooLong := by decide +kernel
theorem qX3_refuseTooLong_1 : Cond.initialized "java/lang/UnsupportedOperationException" ∈ wsX3_refuseTooLong := by decide +kernel
set_option maxHeartbeats 4000000 in
set_option maxRecDepth 100000 in
theorem c_PT_tooLong (l : Launch) (D : va_G) (cI cR cL : ClassId) (B N : Nat) (ad : Nat → Nat) (cw : Nat → va_E) (hl8 : l.stackTraces = false) {r a n : Nat} (hr9 : r < N) (er : cw r = .inr (2, [.ref (ad (a)), .int (nI n)])) (hn9 : n ≤ 240) {k : Nat} (hk : k ≤ 240) : vx_Met l yX3_refuseTooLong wsX3_refuseTooLong ({ frames := 6, cells := 1, slots := 6, locals := 95 } : Room) (va_Pc [.int (nI k), .ref (ad (r))] (zI D vwCl (zTy cI cR cL) B N ad cw)) (zQv D vwCl B N ad (fun (cw' : Nat → va_E) => n + k ≤ 240 ∧ cw' = cw)) (zXC D vwCl B N ad cw (fun E : String => E = xUO ∧ ¬ (n + k ≤ 240))) 1 6 (zA B) := by
  refine z_ofX (cc := cX3_refuseTooLong) (maxL := 2) (ret := none) (by decide) rfl (Nat.le_of_ble_eq_true rfl) ?_
  intro p e s m args below meth c C hr h0
  refine z_lv (lv' := [(0, .int (nI k)), (1, .ref (ad (r)))]) [0, 1] rfl ?_
  refine z_iload_n C dX3_refuseTooLong_0 0 rfl ?_
  refine z_sipush (v := nI 240) C dX3_refuseTooLong_1 (by decide) ?_
  refine z_aload_n C dX3_refuseTooLong_4 1 rfl ?_
  refine z_calli (z_runV (As := []) (rest := [.int (nI 240), .int (nI k)]) C (c_Row_size l D cI cR cL B N ad cw hr9 er) (cwV 0 C.2.2.2.2.1 gX3_refuseTooLong_X2_size rfl rfl rfl (by decide +kernel) ⟨Nat.le_of_ble_eq_true rfl, Nat.le_of_ble_eq_true rfl⟩) hr9 er rfl rfl rfl rfl (Nat.le_of_ble_eq_true rfl) dX3_refuseTooLong_5 ⟨Nat.le_of_ble_eq_true rfl, Nat.le_of_ble_eq_true rfl⟩) (fun r1 cw2 hp3 => ?_)
  refine z_cw hp3.2 ?_
  refine z_top hp3.1 ?_
  refine z_isub C dX3_refuseTooLong_8 ?_
  refine z_top (y := nI (240 - n)) (pk_sub hn9) ?_
  refine z_icmp_le (tgt := 22) C dX3_refuseTooLong_9 (by decide) (fun c4 => ?_) (fun c4 => ?_)
  · skip
    exact z_xvret C hr dX3_refuseTooLong_22 (⟨by have := (nI_leI (by omega) (by omega)).mp c4; omega, rfl⟩) (Nat.le_of_ble_eq_true rfl) (Nat.le_of_ble_eq_true rfl)
  · skip
    exact z_throw (cls := xUO) (names := xNames) C hl8 h0 rfl (by decide) (by decide) (C.2.2.2.2.1 _ qX3_refuseTooLong_0) (C.2.2.2.2.1 _ qX3_refuseTooLong_1) (show (160, "the text would be too long") ∈ zStrs by decide +kernel) (fun w h => List.mem_cons_of_mem _ (List.mem_append_right _ h)) zng_UO zgd_UO dX3_refuseTooLong_12 dX3_refuseTooLong_15 dX3_refuseTooLong_16 dX3_refuseTooLong_18 dX3_refuseTooLong_21 (Nat.le_of_ble_eq_true rfl) (Nat.le_of_ble_eq_true rfl) (Nat.le_of_ble_eq_true rfl) (Nat.le_of_ble_eq_true rfl) (⟨rfl, fun h => c4 (nI_le (by omega) (by omega))⟩) (Nat.le_of_ble_eq_true rfl) (Nat.le_of_ble_eq_true rfl)

theorem qX3_refuseNoWord_0 : Cond.classLink RX3 74 "java/lang/IndexOutOfBoundsException" ∈ wsX3_refuseNoWord := by decide +kernel
theorem qX3_refuseNoWord_1 : Cond.initialized "java/lang/IndexOutOfBoundsException" ∈ wsX3_refuseNoWord := by decide +kernel
theorem qX3_refuseNoWord_2 : ∀ w ∈ wsX30, w ∈ wsX3_refuseNoWord := by decide +kernel
theorem qX3_refuseNoWord_3 : Cond.fieldLink RX3 28 "PieceText" "written" "LPieceText$Phrases;" ∈ wsX3_refuseNoWord := by decide +kernel
set_option maxHeartbeats 4000000 in
set_option maxRecDepth 100000 in
theorem c_PT_noWord (l : Launch) (D : va_G) (cI cR cL : ClassId) (B N : Nat) (ad : Nat → Nat) (cw : Nat → va_E) (hl8 : l.stackTraces = false) {n : Nat} (h33 : 36 < N) (e0 : cw 0 = .inr (3, [.ref (ad (1)), .ref (ad (29)), .ref (ad (31)), .ref (ad (34)), .ref (ad (36))])) (eo : cw 31 = .inr (1, [.ref (ad (32)), .ref (ad (33)), .int (nI n)])) (hn9 : n ≤ 240) (x : Int32) : vx_Met l yX3_refuseNoWord wsX3_refuseNoWord ({ frames := 6, cells := 1, slots := 6, locals := 95 } : Room) (va_Pc [.ref (ad (0)), .int (x)] (zI D vwCl (zTy cI cR cL) B N ad cw)) (zQv D vwCl B N ad (fun (cw' : Nat → va_E) => (∃ q, q < n ∧ x = nI q) ∧ cw' = cw)) (zXC D vwCl B N ad cw (fun E : String => E = xIO ∧ ¬ (∃ q, q < n ∧ x = nI q))) 1 6 (zA B) := by
  refine z_ofX (cc := cX3_refuseNoWord) (maxL := 2) (ret := none) (by decide) rfl (Nat.le_of_ble_eq_true rfl) ?_
  intro p e s m args below meth c C hr h0
  refine z_lv (lv' := [(0, .ref (ad (0))), (1, .int (x))]) [0, 1] rfl ?_
  refine z_iload_n C dX3_refuseNoWord_0 1 rfl ?_
  refine z_if_lt (tgt := 15) C dX3_refuseNoWord_1 (by decide) (fun c1 => ?_) (fun c1 => ?_)
  · skip
    exact z_throw (cls := xIO) (names := xNames) C hl8 h0 rfl (by decide) (by decide) (C.2.2.2.2.1 _ qX3_refuseNoWord_0) (C.2.2.2.2.1 _ qX3_refuseNoWord_1) (show (162, "no such word") ∈ zStrs by decide +kernel) (fun w h => List.mem_cons_of_mem _ (List.mem_append_right _ h)) zng_IO zgd_IO dX3_refuseNoWord_15 dX3_refuseNoWord_18 dX3_refuseNoWord_19 dX3_refuseNoWord_21 dX3_refuseNoWord_24 (Nat.le_of_ble_eq_true rfl) (Nat.le_of_ble_eq_true rfl) (Nat.le_of_ble_eq_true rfl) (Nat.le_of_ble_eq_true rfl) (⟨rfl, fun ⟨q, h1, h2⟩ => by rw [h2] at c1; exact nI_pos (by omega) c1⟩) (Nat.le_of_ble_eq_true rfl) (Nat.le_of_ble_eq_true rfl)
  · skip
    obtain ⟨u, hu, hxu⟩ := nI_of c1
    refine z_iload_n C dX3_refuseNoWord_4 1 rfl ?_
    refine z_aload_n C dX3_refuseNoWord_5 0 rfl ?_
    refine z_get (Cn := RX3) (T := TX3) (NF := 5) (ci := 3) (v := .ref (ad (31))) C qX3_refuseNoWord_2 rfl 2 (by decide) (C.2.2.2.2.1 _ qX3_refuseNoWord_3) (fun _ h9 => h9) dX3_refuseNoWord_6 (0) (by omega) e0 rfl ?_
    refine z_calli (z_runV (As := []) (rest := [.int (x)]) C (c_Phr_size l D cI cR cL B N ad cw (by omega) eo) (cwV 0 C.2.2.2.2.1 gX3_refuseNoWord_X1_size rfl rfl rfl (by decide +kernel) ⟨Nat.le_of_ble_eq_true rfl, Nat.le_of_ble_eq_true rfl⟩) (by omega) eo rfl rfl rfl rfl (Nat.le_of_ble_eq_true rfl) dX3_refuseNoWord_9 ⟨Nat.le_of_ble_eq_true rfl, Nat.le_of_ble_eq_true rfl⟩) (fun r2 cw3 hp4 => ?_)
    refine z_cw hp4.2 ?_
    refine z_top hp4.1 ?_
    refine z_icmp_lt (tgt := 25) C dX3_refuseNoWord_12 (by decide) (fun c5 => ?_) (fun c5 => ?_)
    · skip
      exact z_xvret C hr dX3_refuseNoWord_25 (⟨⟨u, (nI_ltI hu (by omega)).mp (by rw [← hxu]; exact c5), hxu⟩, rfl⟩) (Nat.le_of_ble_eq_true rfl) (Nat.le_of_ble_eq_true rfl)
    · skip
      exact z_throw (cls := xIO) (names := xNames) C hl8 h0 rfl (by decide) (by decide) (C.2.2.2.2.1 _ qX3_refuseNoWord_0) (C.2.2.2.2.1 _ qX3_refuseNoWord_1) (show (162, "no such word") ∈ zStrs by decide +kernel) (fun w h => List.mem_cons_of_mem _ (List.mem_append_right _ h)) zng_IO zgd_IO dX3_refuseNoWord_15 dX3_refuseNoWord_18 dX3_refuseNoWord_19 dX3_refuseNoWord_21 dX3_refuseNoWord_24 (Nat.le_of_ble_eq_true rfl) (Nat.le_of_ble_eq_true rfl) (Nat.le_of_ble_eq_true rfl) (Nat.le_of_ble_eq_true rfl) (⟨rfl, fun ⟨q, h1, h2⟩ => c5 (by rw [h2]; exact nI_lt h1 (by omega))⟩) (Nat.le_of_ble_eq_true rfl) (Nat.le_of_ble_eq_true rfl)
end
section
def zIs (f : Nat → Int32) (xs : List Int32) : Prop := ∀ i, i < xs.length → xs[i]? = some (f i)
def zPart (xs : List Int32) (b k : Nat) : List Int32 := (xs.take k).drop b
def zCh (xs : List Int32) : Prop := ∀ x ∈ xs, ∃ q, q < 256 ∧ x = nI q
theorem zPart_len {xs : List Int32} {b k : Nat} (hk : k ≤ xs.length) : (zPart xs b k).length = k - b := by
  unfold zPart
  rw [List.length_drop, List.length_take]
  omega
theorem zPart_get {xs : List Int32} {b k i : Nat} (hi : b + i < k) : (zPart xs b k)[i]? = xs[b + i]? := by
  unfold zPart
  rw [List.getElem?_drop, List.getElem?_take, if_pos hi]
theorem zIs_nil (f : Nat → Int32) : zIs f [] := fun i h => absurd h (Nat.not_lt_zero _)
theorem zIs_add {f : Nat → Int32} {xs : List Int32} (h : zIs f xs) (x : Int32) : zIs (upd f xs.length x) (xs ++ [x]) := by
  intro i hi
  rw [List.length_append, List.length_singleton] at hi
  by_cases h1 : i < xs.length
  · rw [List.getElem?_append_left h1, h i h1, pk_un (by omega)]
  · have h2 : i = xs.length := by omega
    subst h2
    rw [List.getElem?_append_right (Nat.le_refl _), Nat.sub_self, pk_us]
    rfl
theorem zIs_cpy {f g : Nat → Int32} {xs ys : List Int32} (h : zIs f xs) (h2 : zIs g ys) {b k : Nat} (hk : k ≤ ys.length) : zIs (va_cpy g f b xs.length (k - b)) (xs ++ zPart ys b k) := by
  intro i hi
  rw [List.length_append, zPart_len hk] at hi
  by_cases h1 : i < xs.length
  · rw [List.getElem?_append_left h1, h i h1, pk_cpy_out (Or.inl h1)]
  · rw [List.getElem?_append_right (by omega), zPart_get (by omega), h2 _ (by omega), pk_cpy_in (by omega) (by omega)]
theorem zIs_get {f : Nat → Int32} {xs : List Int32} (h : zIs f xs) {i : Nat} (hi : i < xs.length) : f i ∈ xs := List.mem_of_getElem? (h i hi)
theorem zIs_eq {f : Nat → Int32} {xs ys : List Int32} (h : zIs f xs) (h2 : zIs f ys) (hl : xs.length = ys.length) : xs = ys := by
  apply List.ext_getElem?
  intro i
  by_cases hi : i < xs.length
  · rw [h i hi, h2 i (by omega)]
  · rw [List.getElem?_eq_none (by omega), List.getElem?_eq_none (by omega)]
theorem zCh_part {xs : List Int32} (h : zCh xs) (b k : Nat) : zCh (zPart xs b k) := fun x hx => h x (List.mem_of_mem_take (List.mem_of_mem_drop hx))
theorem zCh_app {xs ys : List Int32} (h : zCh xs) (h2 : zCh ys) : zCh (xs ++ ys) := fun x hx => (List.mem_append.mp hx).elim (h x) (h2 x)
theorem zCh_one {x : Int32} (h : ∃ q, q < 256 ∧ x = nI q) : zCh [x] := fun y hy => by rw [List.mem_singleton.mp hy]; exact h
theorem zCh_nil : zCh [] := fun x hx => absurd hx List.not_mem_nil
def zRow (cI : ClassId) (ad : Nat → Nat) (cw : Nat → va_E) (r a lim : Nat) (xs : List Int32) : Prop :=
  cw r = .inr (2, [.ref (ad (a)), .int (nI xs.length)]) ∧ xs.length ≤ lim ∧ ∃ f, cw a = .inl (cI, lim, .inl (f)) ∧ zIs f xs
theorem zRow_kept {cI : ClassId} {ad : Nat → Nat} {cw cw' : Nat → va_E} {r a lim : Nat} {xs : List Int32} (h : zRow cI ad cw r a lim xs) (h1 : cw' r = cw r) (h2 : cw' a = cw a) : zRow cI ad cw' r a lim xs := by
  obtain ⟨e1, e2, f, e3, e4⟩ := h
  exact ⟨h1.trans e1, e2, f, h2.trans e3, e4⟩
def zHist (cI : ClassId) (ad : Nat → Nat) (cw : Nat → va_E) (now past fut : Nat) (hs : Nat → List Int32) : Prop :=
  now < 13 ∧ past + fut ≤ 12 ∧ cw 1 = .inr (0, [.ref (ad (2)), .int (nI now), .int (nI past), .int (nI fut)]) ∧
  (∀ j, j ≤ past + fut → zRow cI ad cw (3 + 2 * ((now + 13 - past + j) % 13)) (4 + 2 * ((now + 13 - past + j) % 13)) 240 (hs j)) ∧
  (∀ i, i < 13 → ∃ xs, zRow cI ad cw (3 + 2 * i) (4 + 2 * i) 240 xs) ∧ (∀ j, j ≤ past + fut → zCh (hs j))
def zTexts (cR : ClassId) (ad : Nat → Nat) (cw : Nat → va_E) : Prop := ∃ fr, cw 2 = .inl (cR, 13, .inr (.inr (.inr (.inr (fr))))) ∧ ∀ i, i < 13 → fr i = some (ad (3 + 2 * i))
def zWords (cI : ClassId) (ad : Nat → Nat) (cw : Nat → va_E) (ws : List Int32) : Prop :=
  cw 31 = .inr (1, [.ref (ad (32)), .ref (ad (33)), .int (nI ws.length)]) ∧ ws.length ≤ 240 ∧ (∃ wf, cw 32 = .inl (cI, 240, .inl (wf)) ∧ zIs wf ws) ∧ ∃ sf, cw 33 = .inl (cI, 241, .inl (sf))
def zRX (cI cR : ClassId) (ad : Nat → Nat) (cw : Nat → va_E) (past fut : Nat) (hs : Nat → List Int32) (pat ws dr : List Int32) : Prop :=
  cw 0 = .inr (3, [.ref (ad (1)), .ref (ad (29)), .ref (ad (31)), .ref (ad (34)), .ref (ad (36))]) ∧ (∃ now, zHist cI ad cw now past fut hs) ∧ zTexts cR ad cw ∧ zRow cI ad cw 29 30 16 pat ∧ zWords cI ad cw ws ∧ zRow cI ad cw 34 35 240 dr ∧ ∃ nf, cw 36 = .inl (cI, 256, .inl (nf))
theorem zHist_kept {cI : ClassId} {ad : Nat → Nat} {cw cw' : Nat → va_E} {now past fut : Nat} {hs : Nat → List Int32} (h : zHist cI ad cw now past fut hs) (hk : ∀ j, 1 ≤ j → j ≤ 28 → cw' j = cw j) : zHist cI ad cw' now past fut hs := by
  obtain ⟨h1, h2, h3, h4, h5, h6⟩ := h
  exact ⟨h1, h2, (hk 1 (by omega) (by omega)).trans h3, fun j hj => zRow_kept (h4 j hj) (hk _ (by omega) (by omega)) (hk _ (by omega) (by omega)),
    fun i hi => (h5 i hi).imp fun xs hx => zRow_kept hx (hk _ (by omega) (by omega)) (hk _ (by omega) (by omega)), h6⟩
theorem zTexts_kept {cR : ClassId} {ad : Nat → Nat} {cw cw' : Nat → va_E} (h : zTexts cR ad cw) (hk : cw' 2 = cw 2) : zTexts cR ad cw' := by
  obtain ⟨fr, h1, h2⟩ := h
  exact ⟨fr, hk.trans h1, h2⟩
theorem zWords_kept {cI : ClassId} {ad : Nat → Nat} {cw cw' : Nat → va_E} {ws : List Int32} (h : zWords cI ad cw ws) (h1 : cw' 31 = cw 31) (h2 : cw' 32 = cw 32) (h3 : cw' 33 = cw 33) : zWords cI ad cw' ws := by
  obtain ⟨e1, e2, ⟨wf, e3, e4⟩, sf, e5⟩ := h
  exact ⟨h1.trans e1, e2, ⟨wf, h2.trans e3, e4⟩, sf, h3.trans e5⟩
/-- the draft alone has changed -/
theorem zRX_draft {cI cR : ClassId} {ad : Nat → Nat} {cw cw' : Nat → va_E} {past fut : Nat} {hs : Nat → List Int32} {pat ws dr dr' : List Int32} (h : zRX cI cR ad cw past fut hs pat ws dr) (hk : ∀ j, (j ≠ 34 ∧ j ≠ 35) → cw' j = cw j) (hd : zRow cI ad cw' 34 35 240 dr') : zRX cI cR ad cw' past fut hs pat ws dr' := by
  obtain ⟨h0, ⟨now, h1⟩, h2, h3, h4, h5, nf, h6⟩ := h
  exact ⟨(hk 0 (by omega)).trans h0, ⟨now, zHist_kept h1 (fun j _ _ => hk j (by omega))⟩, zTexts_kept h2 (hk 2 (by omega)), zRow_kept h3 (hk _ (by omega)) (hk _ (by omega)), zWords_kept h4 (hk _ (by omega)) (hk _ (by omega)) (hk _ (by omega)), hd, nf, (hk 36 (by omega)).trans h6⟩
/-- the history alone has changed -/
theorem zRX_hist {cI cR : ClassId} {ad : Nat → Nat} {cw cw' : Nat → va_E} {past fut past' fut' now' : Nat} {hs hs' : Nat → List Int32} {pat ws dr : List Int32} (h : zRX cI cR ad cw past fut hs pat ws dr) (hk : ∀ j, (j = 0 ∨ j = 2 ∨ 29 ≤ j) → cw' j = cw j) (hd : zHist cI ad cw' now' past' fut' hs') : zRX cI cR ad cw' past' fut' hs' pat ws dr := by
  obtain ⟨h0, ⟨now, h1⟩, h2, h3, h4, h5, nf, h6⟩ := h
  exact ⟨(hk 0 (by omega)).trans h0, ⟨now', hd⟩, zTexts_kept h2 (hk 2 (by omega)), zRow_kept h3 (hk _ (by omega)) (hk _ (by omega)), zWords_kept h4 (hk _ (by omega)) (hk _ (by omega)) (hk _ (by omega)), zRow_kept h5 (hk _ (by omega)) (hk _ (by omega)), nf, (hk 36 (by omega)).trans h6⟩
def aHs (past : Nat) (hs : Nat → List Int32) (xs : List Int32) : Nat → List Int32 := fun j => if past = 12 then (if j < 12 then hs (j + 1) else xs) else (if j = past + 1 then xs else hs j)
/-- a text is kept: the next row of the ring has it -/
theorem zHist_keep {cI : ClassId} {ad : Nat → Nat} {cw cw' : Nat → va_E} {now past fut : Nat} {hs : Nat → List Int32} {xs : List Int32} (h : zHist cI ad cw now past fut hs) (hx : zCh xs)
    (h1 : cw' 1 = .inr (0, [.ref (ad (2)), .int (nI ((now + 1) % 13)), .int (nI (aPast past)), .int (nI 0)]))
    (hr : zRow cI ad cw' (3 + 2 * ((now + 1) % 13)) (4 + 2 * ((now + 1) % 13)) 240 xs)
    (hk : ∀ j, (j ≠ 1 ∧ j ≠ 3 + 2 * ((now + 1) % 13) ∧ j ≠ 4 + 2 * ((now + 1) % 13)) → cw' j = cw j) : zHist cI ad cw' ((now + 1) % 13) (aPast past) 0 (aHs past hs xs) := by
  obtain ⟨g1, g2, g3, g4, g5, g6⟩ := h
  have hp : past ≤ 12 := by omega
  have keep : ∀ i, i < 13 → i ≠ (now + 1) % 13 → ∀ ys, zRow cI ad cw (3 + 2 * i) (4 + 2 * i) 240 ys → zRow cI ad cw' (3 + 2 * i) (4 + 2 * i) 240 ys := fun i hi hne ys hy => zRow_kept hy (hk _ (by omega)) (hk _ (by omega))
  refine ⟨Nat.mod_lt _ (by omega), by unfold aPast; split <;> omega, h1, ?_, ?_, ?_⟩
  · intro j hj
    unfold aPast at hj ⊢
    unfold aHs
    by_cases h12 : past = 12
    · rw [if_pos h12] at hj ⊢
      rw [if_pos h12]
      by_cases hj12 : j < 12
      · rw [if_pos hj12]
        have e : ((now + 1) % 13 + 13 - 12 + j) % 13 = (now + 13 - past + (j + 1)) % 13 := by omega
        rw [e]
        exact keep _ (Nat.mod_lt _ (by omega)) (by omega) _ (g4 (j + 1) (by omega))
      · rw [if_neg hj12]
        have e : ((now + 1) % 13 + 13 - 12 + j) % 13 = (now + 1) % 13 := by omega
        rw [e]
        exact hr
    · rw [if_neg h12] at hj ⊢
      rw [if_neg h12]
      by_cases hjp : j = past + 1
      · rw [if_pos hjp]
        have e : ((now + 1) % 13 + 13 - (past + 1) + j) % 13 = (now + 1) % 13 := by omega
        rw [e]
        exact hr
      · rw [if_neg hjp]
        have e : ((now + 1) % 13 + 13 - (past + 1) + j) % 13 = (now + 13 - past + j) % 13 := by omega
        rw [e]
        exact keep _ (Nat.mod_lt _ (by omega)) (by omega) _ (g4 j (by omega))
  · intro i hi
    by_cases hne : i = (now + 1) % 13
    · rw [hne]; exact ⟨xs, hr⟩
    · obtain ⟨ys, hy⟩ := g5 i hi
      exact ⟨ys, keep i hi hne ys hy⟩
  · intro j hj
    unfold aPast at hj
    unfold aHs
    by_cases h12 : past = 12
    · rw [if_pos h12] at hj ⊢
      split
      · exact g6 _ (by omega)
      · exact hx
    · rw [if_neg h12] at hj ⊢
      split
      · exact hx
      · exact g6 _ (by omega)
theorem zHist_back {cI : ClassId} {ad : Nat → Nat} {cw cw' : Nat → va_E} {now pv fut : Nat} {hs : Nat → List Int32} (h : zHist cI ad cw now (pv + 1) fut hs)
    (h1 : cw' 1 = .inr (0, [.ref (ad (2)), .int (nI ((now + 12) % 13)), .int (nI (pv)), .int (nI (fut + 1))])) (hk : ∀ j, (j ≠ 1) → cw' j = cw j) : zHist cI ad cw' ((now + 12) % 13) pv (fut + 1) hs := by
  obtain ⟨g1, g2, g3, g4, g5, g6⟩ := h
  refine ⟨Nat.mod_lt _ (by omega), by omega, h1, fun j hj => ?_, fun i hi => (g5 i hi).imp fun xs hx => zRow_kept hx (hk _ (by omega)) (hk _ (by omega)), fun j hj => g6 j (by omega)⟩
  have e : ((now + 12) % 13 + 13 - pv + j) % 13 = (now + 13 - (pv + 1) + j) % 13 := by omega
  rw [e]
  exact zRow_kept (g4 j (by omega)) (hk _ (by omega)) (hk _ (by omega))
theorem zHist_on {cI : ClassId} {ad : Nat → Nat} {cw cw' : Nat → va_E} {now past q : Nat} {hs : Nat → List Int32} (h : zHist cI ad cw now past (q + 1) hs)
    (h1 : cw' 1 = .inr (0, [.ref (ad (2)), .int (nI ((now + 1) % 13)), .int (nI (past + 1)), .int (nI (q))])) (hk : ∀ j, (j ≠ 1) → cw' j = cw j) : zHist cI ad cw' ((now + 1) % 13) (past + 1) q hs := by
  obtain ⟨g1, g2, g3, g4, g5, g6⟩ := h
  refine ⟨Nat.mod_lt _ (by omega), by omega, h1, fun j hj => ?_, fun i hi => (g5 i hi).imp fun xs hx => zRow_kept hx (hk _ (by omega)) (hk _ (by omega)), fun j hj => g6 j (by omega)⟩
  have e : ((now + 1) % 13 + 13 - (past + 1) + j) % 13 = (now + 13 - past + j) % 13 := by omega
  rw [e]
  exact zRow_kept (g4 j (by omega)) (hk _ (by omega)) (hk _ (by omega))
/-- the row of the text as it is -/
theorem zHist_now {cI : ClassId} {ad : Nat → Nat} {cw : Nat → va_E} {now past fut : Nat} {hs : Nat → List Int32} (h : zHist cI ad cw now past fut hs) : zRow cI ad cw (3 + 2 * now) (4 + 2 * now) 240 (hs past) := by
  obtain ⟨g1, g2, g3, g4, g5, g6⟩ := h
  have h9 := g4 past (by omega)
  have e : (now + 13 - past + past) % 13 = now := by omega
  rw [e] at h9
  exact h9
end
section
theorem zPart_all (xs : List Int32) : zPart xs 0 xs.length = xs := by
  unfold zPart
  rw [List.take_length, List.drop_zero]
theorem z_keepRow {f g : Nat → Int32} {xs : List Int32} (h : zIs g xs) : zIs (va_cpy g f 0 0 (xs.length - 0)) xs := by
  have h1 := zIs_cpy (zIs_nil f) h (b := 0) (k := xs.length) (Nat.le_refl _)
  rw [List.nil_append, zPart_all] at h1
  exact h1
theorem zIs_cpyN {f g : Nat → Int32} {xs ys : List Int32} {n : Nat} (h : zIs f xs) (hn : n = xs.length) (h2 : zIs g ys) {b k : Nat} (hk : k ≤ ys.length) : zIs (va_cpy g f b n (k - b)) (xs ++ zPart ys b k) := by
  subst hn; exact zIs_cpy h h2 hk
theorem zIs_addN {f : Nat → Int32} {xs : List Int32} {n : Nat} (h : zIs f xs) (hn : n = xs.length) (x : Int32) : zIs (upd f n x) (xs ++ [x]) := by
  subst hn; exact zIs_add h x
def sIns (xs : List Int32) (q : Nat) (x : Int32) : List Int32 := (([] ++ zPart xs 0 q) ++ [x]) ++ zPart xs q xs.length
def sDel (xs : List Int32) (q k : Nat) : List Int32 := ([] ++ zPart xs 0 q) ++ zPart xs (q + k) xs.length
def sCopy (xs : List Int32) (q k u : Nat) : List Int32 := (([] ++ zPart xs 0 u) ++ zPart xs q (q + k)) ++ zPart xs u xs.length
theorem sIns_len {xs : List Int32} {q : Nat} (hq : q ≤ xs.length) (x : Int32) : (sIns xs q x).length = 0 + (q - 0) + 1 + (xs.length - q) := by
  unfold sIns
  rw [List.nil_append, List.length_append, List.length_append, zPart_len hq, zPart_len (Nat.le_refl _), List.length_singleton]
  omega
theorem sDel_len {xs : List Int32} {q k : Nat} (hq : q ≤ xs.length) : (sDel xs q k).length = 0 + (q - 0) + (xs.length - (q + k)) := by
  unfold sDel
  rw [List.nil_append, List.length_append, zPart_len hq, zPart_len (Nat.le_refl _)]
  omega
theorem sCopy_len {xs : List Int32} {q k u : Nat} (hq : q + k ≤ xs.length) (hu : u ≤ xs.length) : (sCopy xs q k u).length = 0 + (u - 0) + (q + k - q) + (xs.length - u) := by
  unfold sCopy
  rw [List.nil_append, List.length_append, List.length_append, zPart_len hu, zPart_len hq, zPart_len (Nat.le_refl _)]
  omega
theorem sIns_ch {xs : List Int32} {q : Nat} {x : Int32} (h : zCh xs) (hx : ∃ q, q < 256 ∧ x = nI q) : zCh (sIns xs q x) := zCh_app (zCh_app (zCh_app zCh_nil (zCh_part h _ _)) (zCh_one hx)) (zCh_part h _ _)
theorem sDel_ch {xs : List Int32} {q k : Nat} (h : zCh xs) : zCh (sDel xs q k) := zCh_app (zCh_app zCh_nil (zCh_part h _ _)) (zCh_part h _ _)
theorem sCopy_ch {xs : List Int32} {q k u : Nat} (h : zCh xs) : zCh (sCopy xs q k u) := zCh_app (zCh_app (zCh_app zCh_nil (zCh_part h _ _)) (zCh_part h _ _)) (zCh_part h _ _)
theorem qX3_keepDraft_0 : ∀ w ∈ wsX30, w ∈ wsX3_keepDraft := by decide +kernel
theorem qX3_keepDraft_1 : Cond.fieldLink RX3 10 "PieceText" "history" "LPieceText$History;" ∈ wsX3_keepDraft := by decide +kernel
theorem qX3_keepDraft_2 : Cond.fieldLink RX3 32 "PieceText" "draft" "LPieceText$Row;" ∈ wsX3_keepDraft := by decide +kernel
set_option maxHeartbeats 4000000 in
set_option maxRecDepth 100000 in
theorem c_PT_keepDraft (l : Launch) (D : va_G) (cI cR cL : ClassId) (B N : Nat) (ad : Nat → Nat) (cw : Nat → va_E) (hN : 45 < N) {past fut : Nat} {hs : Nat → List Int32} {pat ws dr : List Int32} (hX : zRX cI cR ad cw past fut hs pat ws dr) (hc : zCh dr) : Met l yX3_keepDraft wsX3_keepDraft ({ frames := 3, cells := 0, slots := 0, locals := 104 } : Room) (va_Pc [.ref (ad (0))] (zI D vwCl (zTy cI cR cL) B N ad cw)) (zQi D vwCl B N ad (fun (v : Int32) (cw' : Nat → va_E) => v = nI dr.length ∧ zRX cI cR ad cw' (aPast past) 0 (aHs past hs dr) pat ws dr ∧ ∀ j, 37 ≤ j → cw' j = cw j)) 0 0 (zA B) := by
  obtain ⟨x0, ⟨now, hH⟩, ⟨fr, ht, hfr⟩, ⟨p1, p2, pf, p3, p4⟩, ⟨w1, w2, ⟨wf, w3, w4⟩, sf, w5⟩, ⟨d1, d2, g, d3, d4⟩, nf, x6⟩ := id hX
  obtain ⟨g1, g2, g3, g4, g5, g6⟩ := id hH
  obtain ⟨t1, t2, f, t3, t4⟩ := zHist_now hH
  obtain ⟨ys, y1, y2, fk, y3, y4⟩ := g5 ((now + 1) % 13) (Nat.mod_lt _ (by omega))
  refine z_ofW (cc := cX3_keepDraft) (maxL := 1) (ret := (some .int)) (by decide) rfl (Nat.le_of_ble_eq_true rfl) ?_
  intro p e s m args below meth c C hr hnm
  refine z_lv (lv' := [(0, .ref (ad (0)))]) [0] rfl ?_
  refine z_aload_n C dX3_keepDraft_0 0 rfl ?_
  refine z_get (Cn := RX3) (T := TX3) (NF := 5) (ci := 3) (v := .ref (ad (1))) C qX3_keepDraft_0 rfl 0 (by decide) (C.2.2.2.2.1 _ qX3_keepDraft_1) (fun _ h9 => h9) dX3_keepDraft_1 (0) (by omega) x0 rfl ?_
  refine z_aload_n C dX3_keepDraft_4 0 rfl ?_
  refine z_get (Cn := RX3) (T := TX3) (NF := 5) (ci := 3) (v := .ref (ad (34))) C qX3_keepDraft_0 rfl 3 (by decide) (C.2.2.2.2.1 _ qX3_keepDraft_2) (fun _ h9 => h9) dX3_keepDraft_5 (0) (by omega) x0 rfl ?_
  refine z_callv (z_runV (As := [.ref (ad (34))]) (rest := []) C (c_Hist_keep l D cI cR cL B N ad cw (by omega) g3 (by omega) ht hfr g1 (k := (now + 1) % 13) (Nat.mod_lt _ (by omega)) (by omega) y1 y3 (by omega) d1 d3 d2 rfl (by omega)) (cwV 1 C.2.2.2.2.1 gX3_keepDraft_X0_keep rfl rfl rfl (by decide +kernel) ⟨Nat.le_of_ble_eq_true rfl, Nat.le_of_ble_eq_true rfl⟩) (by omega) g3 rfl rfl rfl rfl (Nat.le_of_ble_eq_true rfl) dX3_keepDraft_8 ⟨Nat.le_of_ble_eq_true rfl, Nat.le_of_ble_eq_true rfl⟩) (fun cw2 hp1 => ?_)
  have hw_3 : cw2 (0) = .inr (3, [.ref (ad (1)), .ref (ad (29)), .ref (ad (31)), .ref (ad (34)), .ref (ad (36))]) := by rw [hp1.2.2.2 (0) (by omega)]; exact x0
  have hw_4 : cw2 (1) = .inr (0, [.ref (ad (2)), .int (nI ((now + 1) % 13)), .int (nI (aPast past)), .int (nI 0)]) := hp1.1
  have hw_5 : cw2 (2) = .inl (cR, 13, .inr (.inr (.inr (.inr (fr))))) := by rw [hp1.2.2.2 (2) (by omega)]; exact ht
  have hw_6 : cw2 (34) = .inr (2, [.ref (ad (35)), .int (nI (dr.length))]) := by rw [hp1.2.2.2 (34) (by omega)]; exact d1
  have hw_7 : cw2 (35) = .inl (cI, 240, .inl (g)) := by rw [hp1.2.2.2 (35) (by omega)]; exact d3
  refine z_aload_n C dX3_keepDraft_11 0 rfl ?_
  refine z_get (Cn := RX3) (T := TX3) (NF := 5) (ci := 3) (v := .ref (ad (34))) C qX3_keepDraft_0 rfl 3 (by decide) (C.2.2.2.2.1 _ qX3_keepDraft_2) (fun _ h9 => h9) dX3_keepDraft_12 (0) (by omega) hw_3 rfl ?_
  refine z_calli (z_runV (As := []) (rest := []) C (c_Row_size l D cI cR cL B N ad cw2 (by omega) hw_6) (cwV 0 C.2.2.2.2.1 gX3_keepDraft_X2_size rfl rfl rfl (by decide +kernel) ⟨Nat.le_of_ble_eq_true rfl, Nat.le_of_ble_eq_true rfl⟩) (by omega) hw_6 rfl rfl rfl rfl (Nat.le_of_ble_eq_true rfl) dX3_keepDraft_15 ⟨Nat.le_of_ble_eq_true rfl, Nat.le_of_ble_eq_true rfl⟩) (fun r8 cw9 hp10 => ?_)
  refine z_cw hp10.2 ?_
  refine z_top hp10.1 ?_
  exact z_iret C hr dX3_keepDraft_18 (⟨rfl, zRX_hist hX (fun j hj => hp1.2.2.2 j (by omega)) (zHist_keep hH hc hp1.1 ⟨by rw [hp1.2.1, Nat.zero_add]; rfl, d2, _, hp1.2.2.1, z_keepRow d4⟩ hp1.2.2.2), fun j hj => hp1.2.2.2 j (by omega)⟩) (Nat.le_of_ble_eq_true rfl) (Nat.le_of_ble_eq_true rfl)

theorem qX3_insert_0 : ∀ w ∈ wsX30, w ∈ wsX3_insert := by decide +kernel
theorem qX3_insert_1 : Cond.fieldLink RX3 10 "PieceText" "history" "LPieceText$History;" ∈ wsX3_insert := by decide +kernel
theorem qX3_insert_2 : Cond.fieldLink RX3 32 "PieceText" "draft" "LPieceText$Row;" ∈ wsX3_insert := by decide +kernel
set_option maxHeartbeats 4000000 in
set_option maxRecDepth 100000 in
theorem c_PT_insert (l : Launch) (D : va_G) (cI cR cL : ClassId) (B N : Nat) (ad : Nat → Nat) (cw : Nat → va_E) (hl8 : l.stackTraces = false) (hN : 45 < N) {past fut : Nat} {hs : Nat → List Int32} {pat ws dr : List Int32} (hX : zRX cI cR ad cw past fut hs pat ws dr) (x ch : Int32) : vx_Met l yX3_insert wsX3_insert ({ frames := 7, cells := 3, slots := 18, locals := 124 } : Room) (va_Pc [.ref (ad (0)), .int (x), .int (ch)] (zI D vwCl (zTy cI cR cL) B N ad cw)) (zQi D vwCl B N ad (fun (v : Int32) (cw' : Nat → va_E) => ∃ q, q ≤ (hs past).length ∧ x = nI q ∧ (∃ q, q < 256 ∧ ch = nI q) ∧ (hs past).length + 1 ≤ 240 ∧ v = nI (sIns (hs past) q ch).length ∧ zRX cI cR ad cw' (aPast past) 0 (aHs past hs (sIns (hs past) q ch)) pat ws (sIns (hs past) q ch) ∧ ∀ j, 37 ≤ j → cw' j = cw j)) (zXC D vwCl B N ad cw (fun E : String => (E = xIO ∧ ¬ (∃ q, q ≤ (hs past).length ∧ x = nI q)) ∨ (E = xIA ∧ (∃ q, q ≤ (hs past).length ∧ x = nI q) ∧ ¬ (∃ q, q < 256 ∧ ch = nI q)) ∨ (E = xUO ∧ (∃ q, q ≤ (hs past).length ∧ x = nI q) ∧ (∃ q, q < 256 ∧ ch = nI q) ∧ ¬ ((hs past).length + 1 ≤ 240)))) 3 18 (zA B) := by
  obtain ⟨x0, ⟨now, hH⟩, ⟨fr, ht, hfr⟩, ⟨p1, p2, pf, p3, p4⟩, ⟨w1, w2, ⟨wf, w3, w4⟩, sf, w5⟩, ⟨d1, d2, g, d3, d4⟩, nf, x6⟩ := id hX
  obtain ⟨g1, g2, g3, g4, g5, g6⟩ := id hH
  obtain ⟨t1, t2, f, t3, t4⟩ := zHist_now hH
  refine z_ofX (cc := cX3_insert) (maxL := 4) (ret := (some .int)) (by decide) rfl (Nat.le_of_ble_eq_true rfl) ?_
  intro p e s m args below meth c C hr h0
  refine z_lv (lv' := [(0, .ref (ad (0))), (1, .int (x)), (2, .int (ch))]) [0, 1, 2] rfl ?_
  refine z_aload_n C dX3_insert_0 0 rfl ?_
  refine z_get (Cn := RX3) (T := TX3) (NF := 5) (ci := 3) (v := .ref (ad (1))) C qX3_insert_0 rfl 0 (by decide) (C.2.2.2.2.1 _ qX3_insert_1) (fun _ h9 => h9) dX3_insert_1 (0) (by omega) x0 rfl ?_
  refine z_callr (z_runV (As := []) (rest := []) C (c_Hist_present l D cI cR cL B N ad cw (by omega) g3 (by omega) ht hfr g1) (cwV 0 C.2.2.2.2.1 gX3_insert_X0_present rfl rfl rfl (by decide +kernel) ⟨Nat.le_of_ble_eq_true rfl, Nat.le_of_ble_eq_true rfl⟩) (by omega) g3 rfl rfl rfl rfl (Nat.le_of_ble_eq_true rfl) dX3_insert_4 ⟨Nat.le_of_ble_eq_true rfl, Nat.le_of_ble_eq_true rfl⟩) (fun r1 cw2 hp3 => ?_)
  obtain ⟨rfl, hp3c⟩ := hp3
  refine z_cw hp3c ?_
  refine z_astore_n (lv' := [(3, .ref (ad (3 + 2 * now))), (0, .ref (ad (0))), (1, .int (x)), (2, .int (ch))]) C dX3_insert_7 rfl (by decide) rfl ?_
  refine z_iload_n C dX3_insert_8 2 rfl ?_
  refine z_aload_n C dX3_insert_9 0 rfl ?_
  refine z_xcallv (z_xrunS (As := [.int (x), .ref (ad (3 + 2 * now))]) (rest := []) C (c_PT_noPlace l D cI cR cL B N ad cw hl8 (by omega) t1 (by omega) (x)) (va_cwS 2 C.2.2.2.2.1 gX3_insert_X3_refuseNoPlace rfl rfl rfl (by decide +kernel) ⟨Nat.le_of_ble_eq_true rfl, Nat.le_of_ble_eq_true rfl⟩) rfl rfl (Nat.le_of_ble_eq_true rfl) dX3_insert_10 ⟨Nat.le_of_ble_eq_true rfl, Nat.le_of_ble_eq_true rfl⟩) (fun E6 hx7 => ?_) (fun cw4 hp5 => ?_)
  · exact z_xout C h0 (Or.inl hx7) (Nat.le_of_ble_eq_true rfl) (Nat.le_of_ble_eq_true rfl)
  obtain ⟨⟨q, hq, rfl⟩, hp5c⟩ := hp5
  refine z_cw hp5c ?_
  refine z_iload_n C dX3_insert_13 3 rfl ?_
  refine z_xcallv (z_xrunS (As := [.int (ch)]) (rest := []) C (c_PT_noChar l D cI cR cL B N ad cw hl8 (ch)) (va_cwS 1 C.2.2.2.2.1 gX3_insert_X3_refuseNoCharacter rfl rfl rfl (by decide +kernel) ⟨Nat.le_of_ble_eq_true rfl, Nat.le_of_ble_eq_true rfl⟩) rfl rfl (Nat.le_of_ble_eq_true rfl) dX3_insert_14 ⟨Nat.le_of_ble_eq_true rfl, Nat.le_of_ble_eq_true rfl⟩) (fun E10 hx11 => ?_) (fun cw8 hp9 => ?_)
  · exact z_xout C h0 (Or.inr (Or.inl ⟨hx11.1, ⟨q, hq, rfl⟩, hx11.2⟩)) (Nat.le_of_ble_eq_true rfl) (Nat.le_of_ble_eq_true rfl)
  obtain ⟨⟨u, hu, rfl⟩, hp9c⟩ := hp9
  refine z_cw hp9c ?_
  refine z_iconst (v := nI 1) C dX3_insert_17 (by decide) ?_
  refine z_aload_n C dX3_insert_18 0 rfl ?_
  refine z_xcallv (z_xrunS (As := [.int (nI 1), .ref (ad (3 + 2 * now))]) (rest := []) C (c_PT_tooLong l D cI cR cL B N ad cw hl8 (by omega) t1 (by omega) (k := 1) (by omega)) (va_cwS 2 C.2.2.2.2.1 gX3_insert_X3_refuseTooLong rfl rfl rfl (by decide +kernel) ⟨Nat.le_of_ble_eq_true rfl, Nat.le_of_ble_eq_true rfl⟩) rfl rfl (Nat.le_of_ble_eq_true rfl) dX3_insert_19 ⟨Nat.le_of_ble_eq_true rfl, Nat.le_of_ble_eq_true rfl⟩) (fun E14 hx15 => ?_) (fun cw12 hp13 => ?_)
  · exact z_xout C h0 (Or.inr (Or.inr ⟨hx15.1, ⟨q, hq, rfl⟩, ⟨u, hu, rfl⟩, hx15.2⟩)) (Nat.le_of_ble_eq_true rfl) (Nat.le_of_ble_eq_true rfl)
  obtain ⟨h240, hp13c⟩ := hp13
  refine z_cw hp13c ?_
  refine z_aload_n C dX3_insert_22 1 rfl ?_
  refine z_get (Cn := RX3) (T := TX3) (NF := 5) (ci := 3) (v := .ref (ad (34))) C qX3_insert_0 rfl 3 (by decide) (C.2.2.2.2.1 _ qX3_insert_2) (fun _ h9 => h9) dX3_insert_23 (0) (by omega) x0 rfl ?_
  refine z_callv (z_runV (As := []) (rest := []) C (c_Row_empty l D cI cR cL B N ad cw (by omega) d1) (cwV 0 C.2.2.2.2.1 gX3_insert_X2_empty rfl rfl rfl (by decide +kernel) ⟨Nat.le_of_ble_eq_true rfl, Nat.le_of_ble_eq_true rfl⟩) (by omega) d1 rfl rfl rfl rfl (Nat.le_of_ble_eq_true rfl) dX3_insert_26 ⟨Nat.le_of_ble_eq_true rfl, Nat.le_of_ble_eq_true rfl⟩) (fun cw16 hp17 => ?_)
  have hw_18 : cw16 (0) = .inr (3, [.ref (ad (1)), .ref (ad (29)), .ref (ad (31)), .ref (ad (34)), .ref (ad (36))]) := by rw [hp17, va_up_ne _ _ (by decide)]; exact x0
  have hw_19 : cw16 (1) = .inr (0, [.ref (ad (2)), .int (nI now), .int (nI past), .int (nI fut)]) := by rw [hp17, va_up_ne _ _ (by decide)]; exact g3
  have hw_20 : cw16 (2) = .inl (cR, 13, .inr (.inr (.inr (.inr (fr))))) := by rw [hp17, va_up_ne _ _ (by decide)]; exact ht
  have hw_21 : cw16 (3 + 2 * now) = .inr (2, [.ref (ad (4 + 2 * now)), .int (nI ((hs past).length))]) := by rw [hp17, va_up_ne _ _ (by omega)]; exact t1
  have hw_22 : cw16 (4 + 2 * now) = .inl (cI, 240, .inl (f)) := by rw [hp17, va_up_ne _ _ (by omega)]; exact t3
  have hw_23 : cw16 (34) = .inr (2, [.ref (ad (35)), .int (nI 0)]) := by rw [hp17, va_up_self]
  have hw_24 : cw16 (35) = .inl (cI, 240, .inl (g)) := by rw [hp17, va_up_ne _ _ (by decide)]; exact d3
  refine z_aload_n C dX3_insert_29 1 rfl ?_
  refine z_get (Cn := RX3) (T := TX3) (NF := 5) (ci := 3) (v := .ref (ad (34))) C qX3_insert_0 rfl 3 (by decide) (C.2.2.2.2.1 _ qX3_insert_2) (fun _ h9 => h9) dX3_insert_30 (0) (by omega) hw_18 rfl ?_
  refine z_aload_n C dX3_insert_33 0 rfl ?_
  refine z_iconst (v := nI 0) C dX3_insert_34 (by decide) ?_
  refine z_iload_n C dX3_insert_35 2 rfl ?_
  refine z_callv (z_runV (As := [.ref (ad (3 + 2 * now)), .int (nI (0)), .int (nI (q))]) (rest := []) C (c_Row_addPart l D cI cR cL B N ad cw16 (by omega) hw_23 (by decide) (by omega) hw_24 (by decide) (by omega) hw_21 (by omega) hw_22 (by decide) ⟨(by omega), (by omega), (by omega), (by omega)⟩ (b := 0) (k := q) (Nat.zero_le _) (by omega) (by omega)) (cwV 3 C.2.2.2.2.1 gX3_insert_X2_addPart rfl rfl rfl (by decide +kernel) ⟨Nat.le_of_ble_eq_true rfl, Nat.le_of_ble_eq_true rfl⟩) (by omega) hw_23 rfl rfl rfl rfl (Nat.le_of_ble_eq_true rfl) dX3_insert_36 ⟨Nat.le_of_ble_eq_true rfl, Nat.le_of_ble_eq_true rfl⟩) (fun cw25 hp26 => ?_)
  have hw_27 : cw25 (0) = .inr (3, [.ref (ad (1)), .ref (ad (29)), .ref (ad (31)), .ref (ad (34)), .ref (ad (36))]) := by rw [hp26, va_up_ne _ _ (by decide), va_up_ne _ _ (by decide)]; exact hw_18
  have hw_28 : cw25 (1) = .inr (0, [.ref (ad (2)), .int (nI now), .int (nI past), .int (nI fut)]) := by rw [hp26, va_up_ne _ _ (by decide), va_up_ne _ _ (by decide)]; exact hw_19
  have hw_29 : cw25 (2) = .inl (cR, 13, .inr (.inr (.inr (.inr (fr))))) := by rw [hp26, va_up_ne _ _ (by decide), va_up_ne _ _ (by decide)]; exact hw_20
  have hw_30 : cw25 (3 + 2 * now) = .inr (2, [.ref (ad (4 + 2 * now)), .int (nI ((hs past).length))]) := by rw [hp26, va_up_ne _ _ (by omega), va_up_ne _ _ (by omega)]; exact hw_21
  have hw_31 : cw25 (4 + 2 * now) = .inl (cI, 240, .inl (f)) := by rw [hp26, va_up_ne _ _ (by omega), va_up_ne _ _ (by omega)]; exact hw_22
  have hw_32 : cw25 (34) = .inr (2, [.ref (ad (35)), .int (nI (0 + (q - 0)))]) := by rw [hp26, va_up_self]
  have hw_33 : cw25 (35) = .inl (cI, 240, .inl (va_cpy (f) (g) (0) (0) (q - 0))) := by rw [hp26, va_up_ne _ _ (by decide), va_up_self]
  refine z_aload_n C dX3_insert_39 1 rfl ?_
  refine z_get (Cn := RX3) (T := TX3) (NF := 5) (ci := 3) (v := .ref (ad (34))) C qX3_insert_0 rfl 3 (by decide) (C.2.2.2.2.1 _ qX3_insert_2) (fun _ h9 => h9) dX3_insert_40 (0) (by omega) hw_27 rfl ?_
  refine z_iload_n C dX3_insert_43 3 rfl ?_
  refine z_callv (z_runV (As := [.int (nI u)]) (rest := []) C (c_Row_add l D cI cR cL B N ad cw25 (by omega) hw_32 (by decide) (by omega) hw_33 (by decide) (by omega) (nI u)) (cwV 1 C.2.2.2.2.1 gX3_insert_X2_add rfl rfl rfl (by decide +kernel) ⟨Nat.le_of_ble_eq_true rfl, Nat.le_of_ble_eq_true rfl⟩) (by omega) hw_32 rfl rfl rfl rfl (Nat.le_of_ble_eq_true rfl) dX3_insert_44 ⟨Nat.le_of_ble_eq_true rfl, Nat.le_of_ble_eq_true rfl⟩) (fun cw34 hp35 => ?_)
  have hw_36 : cw34 (0) = .inr (3, [.ref (ad (1)), .ref (ad (29)), .ref (ad (31)), .ref (ad (34)), .ref (ad (36))]) := by rw [hp35, va_up_ne _ _ (by decide), va_up_ne _ _ (by decide)]; exact hw_27
  have hw_37 : cw34 (1) = .inr (0, [.ref (ad (2)), .int (nI now), .int (nI past), .int (nI fut)]) := by rw [hp35, va_up_ne _ _ (by decide), va_up_ne _ _ (by decide)]; exact hw_28
  have hw_38 : cw34 (2) = .inl (cR, 13, .inr (.inr (.inr (.inr (fr))))) := by rw [hp35, va_up_ne _ _ (by decide), va_up_ne _ _ (by decide)]; exact hw_29
  have hw_39 : cw34 (3 + 2 * now) = .inr (2, [.ref (ad (4 + 2 * now)), .int (nI ((hs past).length))]) := by rw [hp35, va_up_ne _ _ (by omega), va_up_ne _ _ (by omega)]; exact hw_30
  have hw_40 : cw34 (4 + 2 * now) = .inl (cI, 240, .inl (f)) := by rw [hp35, va_up_ne _ _ (by omega), va_up_ne _ _ (by omega)]; exact hw_31
  have hw_41 : cw34 (34) = .inr (2, [.ref (ad (35)), .int (nI (0 + (q - 0) + 1))]) := by rw [hp35, va_up_self]
  have hw_42 : cw34 (35) = .inl (cI, 240, .inl (upd (va_cpy (f) (g) (0) (0) (q - 0)) (0 + (q - 0)) (nI u))) := by rw [hp35, va_up_ne _ _ (by decide), va_up_self]
  refine z_aload_n C dX3_insert_47 1 rfl ?_
  refine z_get (Cn := RX3) (T := TX3) (NF := 5) (ci := 3) (v := .ref (ad (34))) C qX3_insert_0 rfl 3 (by decide) (C.2.2.2.2.1 _ qX3_insert_2) (fun _ h9 => h9) dX3_insert_48 (0) (by omega) hw_36 rfl ?_
  refine z_aload_n C dX3_insert_51 0 rfl ?_
  refine z_iload_n C dX3_insert_52 2 rfl ?_
  refine z_aload_n C dX3_insert_53 0 rfl ?_
  refine z_calli (z_runV (As := []) (rest := [.int (nI q), .ref (ad (3 + 2 * now)), .ref (ad (34))]) C (c_Row_size l D cI cR cL B N ad cw34 (by omega) hw_39) (cwV 0 C.2.2.2.2.1 gX3_insert_X2_size rfl rfl rfl (by decide +kernel) ⟨Nat.le_of_ble_eq_true rfl, Nat.le_of_ble_eq_true rfl⟩) (by omega) hw_39 rfl rfl rfl rfl (Nat.le_of_ble_eq_true rfl) dX3_insert_54 ⟨Nat.le_of_ble_eq_true rfl, Nat.le_of_ble_eq_true rfl⟩) (fun r43 cw44 hp45 => ?_)
  refine z_cw hp45.2 ?_
  refine z_top hp45.1 ?_
  refine z_callv (z_runV (As := [.ref (ad (3 + 2 * now)), .int (nI (q)), .int (nI ((hs past).length))]) (rest := []) C (c_Row_addPart l D cI cR cL B N ad cw34 (by omega) hw_41 (by decide) (by omega) hw_42 (by decide) (by omega) hw_39 (by omega) hw_40 (by decide) ⟨(by omega), (by omega), (by omega), (by omega)⟩ (b := q) (k := (hs past).length) (hq) (t2) (by omega)) (cwV 3 C.2.2.2.2.1 gX3_insert_X2_addPart rfl rfl rfl (by decide +kernel) ⟨Nat.le_of_ble_eq_true rfl, Nat.le_of_ble_eq_true rfl⟩) (by omega) hw_41 rfl rfl rfl rfl (Nat.le_of_ble_eq_true rfl) dX3_insert_57 ⟨Nat.le_of_ble_eq_true rfl, Nat.le_of_ble_eq_true rfl⟩) (fun cw46 hp47 => ?_)
  have hw_48 : cw46 (0) = .inr (3, [.ref (ad (1)), .ref (ad (29)), .ref (ad (31)), .ref (ad (34)), .ref (ad (36))]) := by rw [hp47, va_up_ne _ _ (by decide), va_up_ne _ _ (by decide)]; exact hw_36
  have hw_49 : cw46 (1) = .inr (0, [.ref (ad (2)), .int (nI now), .int (nI past), .int (nI fut)]) := by rw [hp47, va_up_ne _ _ (by decide), va_up_ne _ _ (by decide)]; exact hw_37
  have hw_50 : cw46 (2) = .inl (cR, 13, .inr (.inr (.inr (.inr (fr))))) := by rw [hp47, va_up_ne _ _ (by decide), va_up_ne _ _ (by decide)]; exact hw_38
  have hw_51 : cw46 (3 + 2 * now) = .inr (2, [.ref (ad (4 + 2 * now)), .int (nI ((hs past).length))]) := by rw [hp47, va_up_ne _ _ (by omega), va_up_ne _ _ (by omega)]; exact hw_39
  have hw_52 : cw46 (4 + 2 * now) = .inl (cI, 240, .inl (f)) := by rw [hp47, va_up_ne _ _ (by omega), va_up_ne _ _ (by omega)]; exact hw_40
  have hw_53 : cw46 (34) = .inr (2, [.ref (ad (35)), .int (nI (0 + (q - 0) + 1 + ((hs past).length - q)))]) := by rw [hp47, va_up_self]
  have hw_54 : cw46 (35) = .inl (cI, 240, .inl (va_cpy (f) (upd (va_cpy (f) (g) (0) (0) (q - 0)) (0 + (q - 0)) (nI u)) (q) (0 + (q - 0) + 1) ((hs past).length - q))) := by rw [hp47, va_up_ne _ _ (by decide), va_up_self]
  refine z_aload_n C dX3_insert_60 1 rfl ?_
  have hX55 : zRX cI cR ad cw46 past fut hs pat ws (sIns (hs past) q (nI u)) := zRX_draft hX (fun j hj => by rw [hp47, va_up_ne _ _ (by omega), va_up_ne _ _ (by omega)]; rw [hp35, va_up_ne _ _ (by omega), va_up_ne _ _ (by omega)]; rw [hp26, va_up_ne _ _ (by omega), va_up_ne _ _ (by omega)]; rw [hp17, va_up_ne _ _ (by omega)]) (⟨by rw [hw_53, sIns_len hq], by rw [sIns_len hq]; omega, _, hw_54, zIs_cpyN (zIs_addN (zIs_cpyN (zIs_nil _) rfl t4 hq) (by rw [List.nil_append, zPart_len hq]; omega) _) (by rw [List.nil_append, List.length_append, zPart_len hq, List.length_singleton]; omega) t4 (Nat.le_refl _)⟩)
  refine z_calli (z_runV (As := []) (rest := []) C (c_PT_keepDraft l D cI cR cL B N ad cw46 hN hX55 (sIns_ch (g6 past (by omega)) ⟨u, hu, rfl⟩)) (cwV 0 C.2.2.2.2.1 gX3_insert_X3_keepDraft rfl rfl rfl (by decide +kernel) ⟨Nat.le_of_ble_eq_true rfl, Nat.le_of_ble_eq_true rfl⟩) (by omega) hw_48 rfl rfl rfl rfl (Nat.le_of_ble_eq_true rfl) dX3_insert_61 ⟨Nat.le_of_ble_eq_true rfl, Nat.le_of_ble_eq_true rfl⟩) (fun r56 cw57 hp58 => ?_)
  exact z_xiret C hr dX3_insert_64 (⟨q, hq, rfl, ⟨u, hu, rfl⟩, h240, hp58.1, hp58.2.1, fun j hj => (hp58.2.2 j hj).trans ((fun j hj => by rw [hp47, va_up_ne _ _ (by omega), va_up_ne _ _ (by omega)]; rw [hp35, va_up_ne _ _ (by omega), va_up_ne _ _ (by omega)]; rw [hp26, va_up_ne _ _ (by omega), va_up_ne _ _ (by omega)]; rw [hp17, va_up_ne _ _ (by omega)]) j (by omega))⟩) (Nat.le_of_ble_eq_true rfl) (Nat.le_of_ble_eq_true rfl)

theorem qX3_delete_0 : ∀ w ∈ wsX30, w ∈ wsX3_delete := by decide +kernel
theorem qX3_delete_1 : Cond.fieldLink RX3 10 "PieceText" "history" "LPieceText$History;" ∈ wsX3_delete := by decide +kernel
theorem qX3_delete_2 : Cond.fieldLink RX3 32 "PieceText" "draft" "LPieceText$Row;" ∈ wsX3_delete := by decide +kernel
set_option maxHeartbeats 4000000 in
set_option maxRecDepth 100000 in
theorem c_PT_delete (l : Launch) (D : va_G) (cI cR cL : ClassId) (B N : Nat) (ad : Nat → Nat) (cw : Nat → va_E) (hl8 : l.stackTraces = false) (hN : 45 < N) {past fut : Nat} {hs : Nat → List Int32} {pat ws dr : List Int32} (hX : zRX cI cR ad cw past fut hs pat ws dr) (x y : Int32) : vx_Met l yX3_delete wsX3_delete ({ frames := 7, cells := 2, slots := 12, locals := 124 } : Room) (va_Pc [.ref (ad (0)), .int (x), .int (y)] (zI D vwCl (zTy cI cR cL) B N ad cw)) (zQi D vwCl B N ad (fun (v : Int32) (cw' : Nat → va_E) => ∃ q k, q + k ≤ (hs past).length ∧ x = nI q ∧ y = nI k ∧ v = nI (sDel (hs past) q k).length ∧ zRX cI cR ad cw' (aPast past) 0 (aHs past hs (sDel (hs past) q k)) pat ws (sDel (hs past) q k) ∧ ∀ j, 37 ≤ j → cw' j = cw j)) (zXC D vwCl B N ad cw (fun E : String => (E = xIO ∧ ¬ (∃ q, q ≤ (hs past).length ∧ x = nI q)) ∨ (E = xIA ∧ ∃ q, q ≤ (hs past).length ∧ x = nI q ∧ ¬ (∃ k, k ≤ (hs past).length - q ∧ y = nI k)))) 2 12 (zA B) := by
  obtain ⟨x0, ⟨now, hH⟩, ⟨fr, ht, hfr⟩, ⟨p1, p2, pf, p3, p4⟩, ⟨w1, w2, ⟨wf, w3, w4⟩, sf, w5⟩, ⟨d1, d2, g, d3, d4⟩, nf, x6⟩ := id hX
  obtain ⟨g1, g2, g3, g4, g5, g6⟩ := id hH
  obtain ⟨t1, t2, f, t3, t4⟩ := zHist_now hH
  refine z_ofX (cc := cX3_delete) (maxL := 4) (ret := (some .int)) (by decide) rfl (Nat.le_of_ble_eq_true rfl) ?_
  intro p e s m args below meth c C hr h0
  refine z_lv (lv' := [(0, .ref (ad (0))), (1, .int (x)), (2, .int (y))]) [0, 1, 2] rfl ?_
  refine z_aload_n C dX3_delete_0 0 rfl ?_
  refine z_get (Cn := RX3) (T := TX3) (NF := 5) (ci := 3) (v := .ref (ad (1))) C qX3_delete_0 rfl 0 (by decide) (C.2.2.2.2.1 _ qX3_delete_1) (fun _ h9 => h9) dX3_delete_1 (0) (by omega) x0 rfl ?_
  refine z_callr (z_runV (As := []) (rest := []) C (c_Hist_present l D cI cR cL B N ad cw (by omega) g3 (by omega) ht hfr g1) (cwV 0 C.2.2.2.2.1 gX3_delete_X0_present rfl rfl rfl (by decide +kernel) ⟨Nat.le_of_ble_eq_true rfl, Nat.le_of_ble_eq_true rfl⟩) (by omega) g3 rfl rfl rfl rfl (Nat.le_of_ble_eq_true rfl) dX3_delete_4 ⟨Nat.le_of_ble_eq_true rfl, Nat.le_of_ble_eq_true rfl⟩) (fun r1 cw2 hp3 => ?_)
  obtain ⟨rfl, hp3c⟩ := hp3
  refine z_cw hp3c ?_
  refine z_astore_n (lv' := [(3, .ref (ad (3 + 2 * now))), (0, .ref (ad (0))), (1, .int (x)), (2, .int (y))]) C dX3_delete_7 rfl (by decide) rfl ?_
  refine z_iload_n C dX3_delete_8 2 rfl ?_
  refine z_aload_n C dX3_delete_9 0 rfl ?_
  refine z_xcallv (z_xrunS (As := [.int (x), .ref (ad (3 + 2 * now))]) (rest := []) C (c_PT_noPlace l D cI cR cL B N ad cw hl8 (by omega) t1 (by omega) (x)) (va_cwS 2 C.2.2.2.2.1 gX3_delete_X3_refuseNoPlace rfl rfl rfl (by decide +kernel) ⟨Nat.le_of_ble_eq_true rfl, Nat.le_of_ble_eq_true rfl⟩) rfl rfl (Nat.le_of_ble_eq_true rfl) dX3_delete_10 ⟨Nat.le_of_ble_eq_true rfl, Nat.le_of_ble_eq_true rfl⟩) (fun E6 hx7 => ?_) (fun cw4 hp5 => ?_)
  · exact z_xout C h0 (Or.inl hx7) (Nat.le_of_ble_eq_true rfl) (Nat.le_of_ble_eq_true rfl)
  obtain ⟨⟨q, hq, rfl⟩, hp5c⟩ := hp5
  refine z_cw hp5c ?_
  refine z_iload_n C dX3_delete_13 2 rfl ?_
  refine z_iload_n C dX3_delete_14 3 rfl ?_
  refine z_aload_n C dX3_delete_15 0 rfl ?_
  refine z_xcallv (z_xrunS (As := [.int (nI q), .int (y), .ref (ad (3 + 2 * now))]) (rest := []) C (c_PT_noPart l D cI cR cL B N ad cw hl8 (by omega) t1 (by omega) (pl := q) (hq) (y)) (va_cwS 3 C.2.2.2.2.1 gX3_delete_X3_refuseNoPart rfl rfl rfl (by decide +kernel) ⟨Nat.le_of_ble_eq_true rfl, Nat.le_of_ble_eq_true rfl⟩) rfl rfl (Nat.le_of_ble_eq_true rfl) dX3_delete_16 ⟨Nat.le_of_ble_eq_true rfl, Nat.le_of_ble_eq_true rfl⟩) (fun E10 hx11 => ?_) (fun cw8 hp9 => ?_)
  · exact z_xout C h0 (Or.inr ⟨hx11.1, q, hq, rfl, hx11.2⟩) (Nat.le_of_ble_eq_true rfl) (Nat.le_of_ble_eq_true rfl)
  obtain ⟨⟨k, hk, rfl⟩, hp9c⟩ := hp9
  refine z_cw hp9c ?_
  refine z_aload_n C dX3_delete_19 1 rfl ?_
  refine z_get (Cn := RX3) (T := TX3) (NF := 5) (ci := 3) (v := .ref (ad (34))) C qX3_delete_0 rfl 3 (by decide) (C.2.2.2.2.1 _ qX3_delete_2) (fun _ h9 => h9) dX3_delete_20 (0) (by omega) x0 rfl ?_
  refine z_callv (z_runV (As := []) (rest := []) C (c_Row_empty l D cI cR cL B N ad cw (by omega) d1) (cwV 0 C.2.2.2.2.1 gX3_delete_X2_empty rfl rfl rfl (by decide +kernel) ⟨Nat.le_of_ble_eq_true rfl, Nat.le_of_ble_eq_true rfl⟩) (by omega) d1 rfl rfl rfl rfl (Nat.le_of_ble_eq_true rfl) dX3_delete_23 ⟨Nat.le_of_ble_eq_true rfl, Nat.le_of_ble_eq_true rfl⟩) (fun cw12 hp13 => ?_)
  have hw_14 : cw12 (0) = .inr (3, [.ref (ad (1)), .ref (ad (29)), .ref (ad (31)), .ref (ad (34)), .ref (ad (36))]) := by rw [hp13, va_up_ne _ _ (by decide)]; exact x0
  have hw_15 : cw12 (1) = .inr (0, [.ref (ad (2)), .int (nI now), .int (nI past), .int (nI fut)]) := by rw [hp13, va_up_ne _ _ (by decide)]; exact g3
  have hw_16 : cw12 (2) = .inl (cR, 13, .inr (.inr (.inr (.inr (fr))))) := by rw [hp13, va_up_ne _ _ (by decide)]; exact ht
  have hw_17 : cw12 (3 + 2 * now) = .inr (2, [.ref (ad (4 + 2 * now)), .int (nI ((hs past).length))]) := by rw [hp13, va_up_ne _ _ (by omega)]; exact t1
  have hw_18 : cw12 (4 + 2 * now) = .inl (cI, 240, .inl (f)) := by rw [hp13, va_up_ne _ _ (by omega)]; exact t3
  have hw_19 : cw12 (34) = .inr (2, [.ref (ad (35)), .int (nI 0)]) := by rw [hp13, va_up_self]
  have hw_20 : cw12 (35) = .inl (cI, 240, .inl (g)) := by rw [hp13, va_up_ne _ _ (by decide)]; exact d3
  refine z_aload_n C dX3_delete_26 1 rfl ?_
  refine z_get (Cn := RX3) (T := TX3) (NF := 5) (ci := 3) (v := .ref (ad (34))) C qX3_delete_0 rfl 3 (by decide) (C.2.2.2.2.1 _ qX3_delete_2) (fun _ h9 => h9) dX3_delete_27 (0) (by omega) hw_14 rfl ?_
  refine z_aload_n C dX3_delete_30 0 rfl ?_
  refine z_iconst (v := nI 0) C dX3_delete_31 (by decide) ?_
  refine z_iload_n C dX3_delete_32 2 rfl ?_
  refine z_callv (z_runV (As := [.ref (ad (3 + 2 * now)), .int (nI (0)), .int (nI (q))]) (rest := []) C (c_Row_addPart l D cI cR cL B N ad cw12 (by omega) hw_19 (by decide) (by omega) hw_20 (by decide) (by omega) hw_17 (by omega) hw_18 (by decide) ⟨(by omega), (by omega), (by omega), (by omega)⟩ (b := 0) (k := q) (Nat.zero_le _) (by omega) (by omega)) (cwV 3 C.2.2.2.2.1 gX3_delete_X2_addPart rfl rfl rfl (by decide +kernel) ⟨Nat.le_of_ble_eq_true rfl, Nat.le_of_ble_eq_true rfl⟩) (by omega) hw_19 rfl rfl rfl rfl (Nat.le_of_ble_eq_true rfl) dX3_delete_33 ⟨Nat.le_of_ble_eq_true rfl, Nat.le_of_ble_eq_true rfl⟩) (fun cw21 hp22 => ?_)
  have hw_23 : cw21 (0) = .inr (3, [.ref (ad (1)), .ref (ad (29)), .ref (ad (31)), .ref (ad (34)), .ref (ad (36))]) := by rw [hp22, va_up_ne _ _ (by decide), va_up_ne _ _ (by decide)]; exact hw_14
  have hw_24 : cw21 (1) = .inr (0, [.ref (ad (2)), .int (nI now), .int (nI past), .int (nI fut)]) := by rw [hp22, va_up_ne _ _ (by decide), va_up_ne _ _ (by decide)]; exact hw_15
  have hw_25 : cw21 (2) = .inl (cR, 13, .inr (.inr (.inr (.inr (fr))))) := by rw [hp22, va_up_ne _ _ (by decide), va_up_ne _ _ (by decide)]; exact hw_16
  have hw_26 : cw21 (3 + 2 * now) = .inr (2, [.ref (ad (4 + 2 * now)), .int (nI ((hs past).length))]) := by rw [hp22, va_up_ne _ _ (by omega), va_up_ne _ _ (by omega)]; exact hw_17
  have hw_27 : cw21 (4 + 2 * now) = .inl (cI, 240, .inl (f)) := by rw [hp22, va_up_ne _ _ (by omega), va_up_ne _ _ (by omega)]; exact hw_18
  have hw_28 : cw21 (34) = .inr (2, [.ref (ad (35)), .int (nI (0 + (q - 0)))]) := by rw [hp22, va_up_self]
  have hw_29 : cw21 (35) = .inl (cI, 240, .inl (va_cpy (f) (g) (0) (0) (q - 0))) := by rw [hp22, va_up_ne _ _ (by decide), va_up_self]
  refine z_aload_n C dX3_delete_36 1 rfl ?_
  refine z_get (Cn := RX3) (T := TX3) (NF := 5) (ci := 3) (v := .ref (ad (34))) C qX3_delete_0 rfl 3 (by decide) (C.2.2.2.2.1 _ qX3_delete_2) (fun _ h9 => h9) dX3_delete_37 (0) (by omega) hw_23 rfl ?_
  refine z_aload_n C dX3_delete_40 0 rfl ?_
  refine z_iload_n C dX3_delete_41 2 rfl ?_
  refine z_iload_n C dX3_delete_42 3 rfl ?_
  refine z_iadd C dX3_delete_43 ?_
  refine z_top (y := nI (q + k)) (nI_add _ _) ?_
  refine z_aload_n C dX3_delete_44 0 rfl ?_
  refine z_calli (z_runV (As := []) (rest := [.int (nI (q + k)), .ref (ad (3 + 2 * now)), .ref (ad (34))]) C (c_Row_size l D cI cR cL B N ad cw21 (by omega) hw_26) (cwV 0 C.2.2.2.2.1 gX3_delete_X2_size rfl rfl rfl (by decide +kernel) ⟨Nat.le_of_ble_eq_true rfl, Nat.le_of_ble_eq_true rfl⟩) (by omega) hw_26 rfl rfl rfl rfl (Nat.le_of_ble_eq_true rfl) dX3_delete_45 ⟨Nat.le_of_ble_eq_true rfl, Nat.le_of_ble_eq_true rfl⟩) (fun r30 cw31 hp32 => ?_)
  refine z_cw hp32.2 ?_
  refine z_top hp32.1 ?_
  refine z_callv (z_runV (As := [.ref (ad (3 + 2 * now)), .int (nI (q + k)), .int (nI ((hs past).length))]) (rest := []) C (c_Row_addPart l D cI cR cL B N ad cw21 (by omega) hw_28 (by decide) (by omega) hw_29 (by decide) (by omega) hw_26 (by omega) hw_27 (by decide) ⟨(by omega), (by omega), (by omega), (by omega)⟩ (b := q + k) (k := (hs past).length) (by omega) (t2) (by omega)) (cwV 3 C.2.2.2.2.1 gX3_delete_X2_addPart rfl rfl rfl (by decide +kernel) ⟨Nat.le_of_ble_eq_true rfl, Nat.le_of_ble_eq_true rfl⟩) (by omega) hw_28 rfl rfl rfl rfl (Nat.le_of_ble_eq_true rfl) dX3_delete_48 ⟨Nat.le_of_ble_eq_true rfl, Nat.le_of_ble_eq_true rfl⟩) (fun cw33 hp34 => ?_)
  have hw_35 : cw33 (0) = .inr (3, [.ref (ad (1)), .ref (ad (29)), .ref (ad (31)), .ref (ad (34)), .ref (ad (36))]) := by rw [hp34, va_up_ne _ _ (by decide), va_up_ne _ _ (by decide)]; exact hw_23
  have hw_36 : cw33 (1) = .inr (0, [.ref (ad (2)), .int (nI now), .int (nI past), .int (nI fut)]) := by rw [hp34, va_up_ne _ _ (by decide), va_up_ne _ _ (by decide)]; exact hw_24
  have hw_37 : cw33 (2) = .inl (cR, 13, .inr (.inr (.inr (.inr (fr))))) := by rw [hp34, va_up_ne _ _ (by decide), va_up_ne _ _ (by decide)]; exact hw_25
  have hw_38 : cw33 (3 + 2 * now) = .inr (2, [.ref (ad (4 + 2 * now)), .int (nI ((hs past).length))]) := by rw [hp34, va_up_ne _ _ (by omega), va_up_ne _ _ (by omega)]; exact hw_26
  have hw_39 : cw33 (4 + 2 * now) = .inl (cI, 240, .inl (f)) := by rw [hp34, va_up_ne _ _ (by omega), va_up_ne _ _ (by omega)]; exact hw_27
  have hw_40 : cw33 (34) = .inr (2, [.ref (ad (35)), .int (nI (0 + (q - 0) + ((hs past).length - (q + k))))]) := by rw [hp34, va_up_self]
  have hw_41 : cw33 (35) = .inl (cI, 240, .inl (va_cpy (f) (va_cpy (f) (g) (0) (0) (q - 0)) (q + k) (0 + (q - 0)) ((hs past).length - (q + k)))) := by rw [hp34, va_up_ne _ _ (by decide), va_up_self]
  refine z_aload_n C dX3_delete_51 1 rfl ?_
  have hX42 : zRX cI cR ad cw33 past fut hs pat ws (sDel (hs past) q k) := zRX_draft hX (fun j hj => by rw [hp34, va_up_ne _ _ (by omega), va_up_ne _ _ (by omega)]; rw [hp22, va_up_ne _ _ (by omega), va_up_ne _ _ (by omega)]; rw [hp13, va_up_ne _ _ (by omega)]) (⟨by rw [hw_40, sDel_len hq], by rw [sDel_len hq]; omega, _, hw_41, zIs_cpyN (zIs_cpyN (zIs_nil _) rfl t4 hq) (by rw [List.nil_append, zPart_len hq]; omega) t4 (Nat.le_refl _)⟩)
  refine z_calli (z_runV (As := []) (rest := []) C (c_PT_keepDraft l D cI cR cL B N ad cw33 hN hX42 (sDel_ch (g6 past (by omega)))) (cwV 0 C.2.2.2.2.1 gX3_delete_X3_keepDraft rfl rfl rfl (by decide +kernel) ⟨Nat.le_of_ble_eq_true rfl, Nat.le_of_ble_eq_true rfl⟩) (by omega) hw_35 rfl rfl rfl rfl (Nat.le_of_ble_eq_true rfl) dX3_delete_52 ⟨Nat.le_of_ble_eq_true rfl, Nat.le_of_ble_eq_true rfl⟩) (fun r43 cw44 hp45 => ?_)
  exact z_xiret C hr dX3_delete_55 (⟨q, k, by omega, rfl, rfl, hp45.1, hp45.2.1, fun j hj => (hp45.2.2 j hj).trans ((fun j hj => by rw [hp34, va_up_ne _ _ (by omega), va_up_ne _ _ (by omega)]; rw [hp22, va_up_ne _ _ (by omega), va_up_ne _ _ (by omega)]; rw [hp13, va_up_ne _ _ (by omega)]) j (by omega))⟩) (Nat.le_of_ble_eq_true rfl) (Nat.le_of_ble_eq_true rfl)

theorem qX3_copy_0 : ∀ w ∈ wsX30, w ∈ wsX3_copy := by decide +kernel
theorem qX3_copy_1 : Cond.fieldLink RX3 10 "PieceText" "history" "LPieceText$History;" ∈ wsX3_copy := by decide +kernel
theorem qX3_copy_2 : Cond.fieldLink RX3 32 "PieceText" "draft" "LPieceText$Row;" ∈ wsX3_copy := by decide +kernel
set_option maxHeartbeats 4000000 in
set_option maxRecDepth 100000 in
theorem c_PT_copy (l : Launch) (D : va_G) (cI cR cL : ClassId) (B N : Nat) (ad : Nat → Nat) (cw : Nat → va_E) (hl8 : l.stackTraces = false) (hN : 45 < N) {past fut : Nat} {hs : Nat → List Int32} {pat ws dr : List Int32} (hX : zRX cI cR ad cw past fut hs pat ws dr) (x y z : Int32) : vx_Met l yX3_copy wsX3_copy ({ frames := 7, cells := 4, slots := 24, locals := 124 } : Room) (va_Pc [.ref (ad (0)), .int (x), .int (y), .int (z)] (zI D vwCl (zTy cI cR cL) B N ad cw)) (zQi D vwCl B N ad (fun (v : Int32) (cw' : Nat → va_E) => ∃ q k u, q + k ≤ (hs past).length ∧ u ≤ (hs past).length ∧ (hs past).length + k ≤ 240 ∧ x = nI q ∧ y = nI k ∧ z = nI u ∧ v = nI (sCopy (hs past) q k u).length ∧ zRX cI cR ad cw' (aPast past) 0 (aHs past hs (sCopy (hs past) q k u)) pat ws (sCopy (hs past) q k u) ∧ ∀ j, 37 ≤ j → cw' j = cw j)) (zXC D vwCl B N ad cw (fun E : String => (E = xIO ∧ ¬ ((∃ q, q ≤ (hs past).length ∧ x = nI q) ∧ (∃ u, u ≤ (hs past).length ∧ z = nI u))) ∨ (E = xIA ∧ (∃ u, u ≤ (hs past).length ∧ z = nI u) ∧ ∃ q, q ≤ (hs past).length ∧ x = nI q ∧ ¬ (∃ k, k ≤ (hs past).length - q ∧ y = nI k)) ∨ (E = xUO ∧ (∃ u, u ≤ (hs past).length ∧ z = nI u) ∧ ∃ q k, q + k ≤ (hs past).length ∧ x = nI q ∧ y = nI k ∧ ¬ ((hs past).length + k ≤ 240)))) 4 24 (zA B) := by
  obtain ⟨x0, ⟨now, hH⟩, ⟨fr, ht, hfr⟩, ⟨p1, p2, pf, p3, p4⟩, ⟨w1, w2, ⟨wf, w3, w4⟩, sf, w5⟩, ⟨d1, d2, g, d3, d4⟩, nf, x6⟩ := id hX
  obtain ⟨g1, g2, g3, g4, g5, g6⟩ := id hH
  obtain ⟨t1, t2, f, t3, t4⟩ := zHist_now hH
  refine z_ofX (cc := cX3_copy) (maxL := 5) (ret := (some .int)) (by decide) rfl (Nat.le_of_ble_eq_true rfl) ?_
  intro p e s m args below meth c C hr h0
  refine z_lv (lv' := [(0, .ref (ad (0))), (1, .int (x)), (2, .int (y)), (3, .int (z))]) [0, 1, 2, 3] rfl ?_
  refine z_aload_n C dX3_copy_0 0 rfl ?_
  refine z_get (Cn := RX3) (T := TX3) (NF := 5) (ci := 3) (v := .ref (ad (1))) C qX3_copy_0 rfl 0 (by decide) (C.2.2.2.2.1 _ qX3_copy_1) (fun _ h9 => h9) dX3_copy_1 (0) (by omega) x0 rfl ?_
  refine z_callr (z_runV (As := []) (rest := []) C (c_Hist_present l D cI cR cL B N ad cw (by omega) g3 (by omega) ht hfr g1) (cwV 0 C.2.2.2.2.1 gX3_copy_X0_present rfl rfl rfl (by decide +kernel) ⟨Nat.le_of_ble_eq_true rfl, Nat.le_of_ble_eq_true rfl⟩) (by omega) g3 rfl rfl rfl rfl (Nat.le_of_ble_eq_true rfl) dX3_copy_4 ⟨Nat.le_of_ble_eq_true rfl, Nat.le_of_ble_eq_true rfl⟩) (fun r1 cw2 hp3 => ?_)
  obtain ⟨rfl, hp3c⟩ := hp3
  refine z_cw hp3c ?_
  refine z_astore (lv' := [(4, .ref (ad (3 + 2 * now))), (0, .ref (ad (0))), (1, .int (x)), (2, .int (y)), (3, .int (z))]) C dX3_copy_7 (by decide) rfl ?_
  refine z_iload_n C dX3_copy_9 2 rfl ?_
  refine z_aload C dX3_copy_10 0 rfl ?_
  refine z_xcallv (z_xrunS (As := [.int (x), .ref (ad (3 + 2 * now))]) (rest := []) C (c_PT_noPlace l D cI cR cL B N ad cw hl8 (by omega) t1 (by omega) (x)) (va_cwS 2 C.2.2.2.2.1 gX3_copy_X3_refuseNoPlace rfl rfl rfl (by decide +kernel) ⟨Nat.le_of_ble_eq_true rfl, Nat.le_of_ble_eq_true rfl⟩) rfl rfl (Nat.le_of_ble_eq_true rfl) dX3_copy_12 ⟨Nat.le_of_ble_eq_true rfl, Nat.le_of_ble_eq_true rfl⟩) (fun E6 hx7 => ?_) (fun cw4 hp5 => ?_)
  · exact z_xout C h0 (Or.inl ⟨hx7.1, fun h9 => hx7.2 h9.1⟩) (Nat.le_of_ble_eq_true rfl) (Nat.le_of_ble_eq_true rfl)
  obtain ⟨⟨q, hq, rfl⟩, hp5c⟩ := hp5
  refine z_cw hp5c ?_
  refine z_iload_n C dX3_copy_15 4 rfl ?_
  refine z_aload C dX3_copy_16 0 rfl ?_
  refine z_xcallv (z_xrunS (As := [.int (z), .ref (ad (3 + 2 * now))]) (rest := []) C (c_PT_noPlace l D cI cR cL B N ad cw hl8 (by omega) t1 (by omega) (z)) (va_cwS 2 C.2.2.2.2.1 gX3_copy_X3_refuseNoPlace rfl rfl rfl (by decide +kernel) ⟨Nat.le_of_ble_eq_true rfl, Nat.le_of_ble_eq_true rfl⟩) rfl rfl (Nat.le_of_ble_eq_true rfl) dX3_copy_18 ⟨Nat.le_of_ble_eq_true rfl, Nat.le_of_ble_eq_true rfl⟩) (fun E10 hx11 => ?_) (fun cw8 hp9 => ?_)
  · exact z_xout C h0 (Or.inl ⟨hx11.1, fun h9 => hx11.2 h9.2⟩) (Nat.le_of_ble_eq_true rfl) (Nat.le_of_ble_eq_true rfl)
  obtain ⟨⟨u, hu, rfl⟩, hp9c⟩ := hp9
  refine z_cw hp9c ?_
  refine z_iload_n C dX3_copy_21 2 rfl ?_
  refine z_iload_n C dX3_copy_22 3 rfl ?_
  refine z_aload C dX3_copy_23 0 rfl ?_
  refine z_xcallv (z_xrunS (As := [.int (nI q), .int (y), .ref (ad (3 + 2 * now))]) (rest := []) C (c_PT_noPart l D cI cR cL B N ad cw hl8 (by omega) t1 (by omega) (pl := q) (hq) (y)) (va_cwS 3 C.2.2.2.2.1 gX3_copy_X3_refuseNoPart rfl rfl rfl (by decide +kernel) ⟨Nat.le_of_ble_eq_true rfl, Nat.le_of_ble_eq_true rfl⟩) rfl rfl (Nat.le_of_ble_eq_true rfl) dX3_copy_25 ⟨Nat.le_of_ble_eq_true rfl, Nat.le_of_ble_eq_true rfl⟩) (fun E14 hx15 => ?_) (fun cw12 hp13 => ?_)
  · exact z_xout C h0 (Or.inr (Or.inl ⟨hx15.1, ⟨u, hu, rfl⟩, q, hq, rfl, hx15.2⟩)) (Nat.le_of_ble_eq_true rfl) (Nat.le_of_ble_eq_true rfl)
  obtain ⟨⟨k, hk, rfl⟩, hp13c⟩ := hp13
  refine z_cw hp13c ?_
  refine z_iload_n C dX3_copy_28 3 rfl ?_
  refine z_aload C dX3_copy_29 0 rfl ?_
  refine z_xcallv (z_xrunS (As := [.int (nI k), .ref (ad (3 + 2 * now))]) (rest := []) C (c_PT_tooLong l D cI cR cL B N ad cw hl8 (by omega) t1 (by omega) (k := k) (by omega)) (va_cwS 2 C.2.2.2.2.1 gX3_copy_X3_refuseTooLong rfl rfl rfl (by decide +kernel) ⟨Nat.le_of_ble_eq_true rfl, Nat.le_of_ble_eq_true rfl⟩) rfl rfl (Nat.le_of_ble_eq_true rfl) dX3_copy_31 ⟨Nat.le_of_ble_eq_true rfl, Nat.le_of_ble_eq_true rfl⟩) (fun E18 hx19 => ?_) (fun cw16 hp17 => ?_)
  · exact z_xout C h0 (Or.inr (Or.inr ⟨hx19.1, ⟨u, hu, rfl⟩, q, k, by omega, rfl, rfl, hx19.2⟩)) (Nat.le_of_ble_eq_true rfl) (Nat.le_of_ble_eq_true rfl)
  obtain ⟨h240, hp17c⟩ := hp17
  refine z_cw hp17c ?_
  refine z_aload_n C dX3_copy_34 1 rfl ?_
  refine z_get (Cn := RX3) (T := TX3) (NF := 5) (ci := 3) (v := .ref (ad (34))) C qX3_copy_0 rfl 3 (by decide) (C.2.2.2.2.1 _ qX3_copy_2) (fun _ h9 => h9) dX3_copy_35 (0) (by omega) x0 rfl ?_
  refine z_callv (z_runV (As := []) (rest := []) C (c_Row_empty l D cI cR cL B N ad cw (by omega) d1) (cwV 0 C.2.2.2.2.1 gX3_copy_X2_empty rfl rfl rfl (by decide +kernel) ⟨Nat.le_of_ble_eq_true rfl, Nat.le_of_ble_eq_true rfl⟩) (by omega) d1 rfl rfl rfl rfl (Nat.le_of_ble_eq_true rfl) dX3_copy_38 ⟨Nat.le_of_ble_eq_true rfl, Nat.le_of_ble_eq_true rfl⟩) (fun cw20 hp21 => ?_)
  have hw_22 : cw20 (0) = .inr (3, [.ref (ad (1)), .ref (ad (29)), .ref (ad (31)), .ref (ad (34)), .ref (ad (36))]) := by rw [hp21, va_up_ne _ _ (by decide)]; exact x0
  have hw_23 : cw20 (1) = .inr (0, [.ref (ad (2)), .int (nI now), .int (nI past), .int (nI fut)]) := by rw [hp21, va_up_ne _ _ (by decide)]; exact g3
  have hw_24 : cw20 (2) = .inl (cR, 13, .inr (.inr (.inr (.inr (fr))))) := by rw [hp21, va_up_ne _ _ (by decide)]; exact ht
  have hw_25 : cw20 (3 + 2 * now) = .inr (2, [.ref (ad (4 + 2 * now)), .int (nI ((hs past).length))]) := by rw [hp21, va_up_ne _ _ (by omega)]; exact t1
  have hw_26 : cw20 (4 + 2 * now) = .inl (cI, 240, .inl (f)) := by rw [hp21, va_up_ne _ _ (by omega)]; exact t3
  have hw_27 : cw20 (34) = .inr (2, [.ref (ad (35)), .int (nI 0)]) := by rw [hp21, va_up_self]
  have hw_28 : cw20 (35) = .inl (cI, 240, .inl (g)) := by rw [hp21, va_up_ne _ _ (by decide)]; exact d3
  refine z_aload_n C dX3_copy_41 1 rfl ?_
  refine z_get (Cn := RX3) (T := TX3) (NF := 5) (ci := 3) (v := .ref (ad (34))) C qX3_copy_0 rfl 3 (by decide) (C.2.2.2.2.1 _ qX3_copy_2) (fun _ h9 => h9) dX3_copy_42 (0) (by omega) hw_22 rfl ?_
  refine z_aload C dX3_copy_45 0 rfl ?_
  refine z_iconst (v := nI 0) C dX3_copy_47 (by decide) ?_
  refine z_iload_n C dX3_copy_48 4 rfl ?_
  refine z_callv (z_runV (As := [.ref (ad (3 + 2 * now)), .int (nI (0)), .int (nI (u))]) (rest := []) C (c_Row_addPart l D cI cR cL B N ad cw20 (by omega) hw_27 (by decide) (by omega) hw_28 (by decide) (by omega) hw_25 (by omega) hw_26 (by decide) ⟨(by omega), (by omega), (by omega), (by omega)⟩ (b := 0) (k := u) (Nat.zero_le _) (by omega) (by omega)) (cwV 3 C.2.2.2.2.1 gX3_copy_X2_addPart rfl rfl rfl (by decide +kernel) ⟨Nat.le_of_ble_eq_true rfl, Nat.le_of_ble_eq_true rfl⟩) (by omega) hw_27 rfl rfl rfl rfl (Nat.le_of_ble_eq_true rfl) dX3_copy_49 ⟨Nat.le_of_ble_eq_true rfl, Nat.le_of_ble_eq_true rfl⟩) (fun cw29 hp30 => ?_)
  have hw_31 : cw29 (0) = .inr (3, [.ref (ad (1)), .ref (ad (29)), .ref (ad (31)), .ref (ad (34)), .ref (ad (36))]) := by rw [hp30, va_up_ne _ _ (by decide), va_up_ne _ _ (by decide)]; exact hw_22
  have hw_32 : cw29 (1) = .inr (0, [.ref (ad (2)), .int (nI now), .int (nI past), .int (nI fut)]) := by rw [hp30, va_up_ne _ _ (by decide), va_up_ne _ _ (by decide)]; exact hw_23
  have hw_33 : cw29 (2) = .inl (cR, 13, .inr (.inr (.inr (.inr (fr))))) := by rw [hp30, va_up_ne _ _ (by decide), va_up_ne _ _ (by decide)]; exact hw_24
  have hw_34 : cw29 (3 + 2 * now) = .inr (2, [.ref (ad (4 + 2 * now)), .int (nI ((hs past).length))]) := by rw [hp30, va_up_ne _ _ (by omega), va_up_ne _ _ (by omega)]; exact hw_25
  have hw_35 : cw29 (4 + 2 * now) = .inl (cI, 240, .inl (f)) := by rw [hp30, va_up_ne _ _ (by omega), va_up_ne _ _ (by omega)]; exact hw_26
  have hw_36 : cw29 (34) = .inr (2, [.ref (ad (35)), .int (nI (0 + (u - 0)))]) := by rw [hp30, va_up_self]
  have hw_37 : cw29 (35) = .inl (cI, 240, .inl (va_cpy (f) (g) (0) (0) (u - 0))) := by rw [hp30, va_up_ne _ _ (by decide), va_up_self]
  refine z_aload_n C dX3_copy_52 1 rfl ?_
  refine z_get (Cn := RX3) (T := TX3) (NF := 5) (ci := 3) (v := .ref (ad (34))) C qX3_copy_0 rfl 3 (by decide) (C.2.2.2.2.1 _ qX3_copy_2) (fun _ h9 => h9) dX3_copy_53 (0) (by omega) hw_31 rfl ?_
  refine z_aload C dX3_copy_56 0 rfl ?_
  refine z_iload_n C dX3_copy_58 2 rfl ?_
  refine z_iload_n C dX3_copy_59 2 rfl ?_
  refine z_iload_n C dX3_copy_60 3 rfl ?_
  refine z_iadd C dX3_copy_61 ?_
  refine z_top (y := nI (q + k)) (nI_add _ _) ?_
  refine z_callv (z_runV (As := [.ref (ad (3 + 2 * now)), .int (nI (q)), .int (nI (q + k))]) (rest := []) C (c_Row_addPart l D cI cR cL B N ad cw29 (by omega) hw_36 (by decide) (by omega) hw_37 (by decide) (by omega) hw_34 (by omega) hw_35 (by decide) ⟨(by omega), (by omega), (by omega), (by omega)⟩ (b := q) (k := q + k) (by omega) (by omega) (by omega)) (cwV 3 C.2.2.2.2.1 gX3_copy_X2_addPart rfl rfl rfl (by decide +kernel) ⟨Nat.le_of_ble_eq_true rfl, Nat.le_of_ble_eq_true rfl⟩) (by omega) hw_36 rfl rfl rfl rfl (Nat.le_of_ble_eq_true rfl) dX3_copy_62 ⟨Nat.le_of_ble_eq_true rfl, Nat.le_of_ble_eq_true rfl⟩) (fun cw38 hp39 => ?_)
  have hw_40 : cw38 (0) = .inr (3, [.ref (ad (1)), .ref (ad (29)), .ref (ad (31)), .ref (ad (34)), .ref (ad (36))]) := by rw [hp39, va_up_ne _ _ (by decide), va_up_ne _ _ (by decide)]; exact hw_31
  have hw_41 : cw38 (1) = .inr (0, [.ref (ad (2)), .int (nI now), .int (nI past), .int (nI fut)]) := by rw [hp39, va_up_ne _ _ (by decide), va_up_ne _ _ (by decide)]; exact hw_32
  have hw_42 : cw38 (2) = .inl (cR, 13, .inr (.inr (.inr (.inr (fr))))) := by rw [hp39, va_up_ne _ _ (by decide), va_up_ne _ _ (by decide)]; exact hw_33
  have hw_43 : cw38 (3 + 2 * now) = .inr (2, [.ref (ad (4 + 2 * now)), .int (nI ((hs past).length))]) := by rw [hp39, va_up_ne _ _ (by omega), va_up_ne _ _ (by omega)]; exact hw_34
  have hw_44 : cw38 (4 + 2 * now) = .inl (cI, 240, .inl (f)) := by rw [hp39, va_up_ne _ _ (by omega), va_up_ne _ _ (by omega)]; exact hw_35
  have hw_45 : cw38 (34) = .inr (2, [.ref (ad (35)), .int (nI (0 + (u - 0) + ((q + k) - q)))]) := by rw [hp39, va_up_self]
  have hw_46 : cw38 (35) = .inl (cI, 240, .inl (va_cpy (f) (va_cpy (f) (g) (0) (0) (u - 0)) (q) (0 + (u - 0)) ((q + k) - q))) := by rw [hp39, va_up_ne _ _ (by decide), va_up_self]
  refine z_aload_n C dX3_copy_65 1 rfl ?_
  refine z_get (Cn := RX3) (T := TX3) (NF := 5) (ci := 3) (v := .ref (ad (34))) C qX3_copy_0 rfl 3 (by decide) (C.2.2.2.2.1 _ qX3_copy_2) (fun _ h9 => h9) dX3_copy_66 (0) (by omega) hw_40 rfl ?_
  refine z_aload C dX3_copy_69 0 rfl ?_
  refine z_iload_n C dX3_copy_71 4 rfl ?_
  refine z_aload C dX3_copy_72 0 rfl ?_
  refine z_calli (z_runV (As := []) (rest := [.int (nI u), .ref (ad (3 + 2 * now)), .ref (ad (34))]) C (c_Row_size l D cI cR cL B N ad cw38 (by omega) hw_43) (cwV 0 C.2.2.2.2.1 gX3_copy_X2_size rfl rfl rfl (by decide +kernel) ⟨Nat.le_of_ble_eq_true rfl, Nat.le_of_ble_eq_true rfl⟩) (by omega) hw_43 rfl rfl rfl rfl (Nat.le_of_ble_eq_true rfl) dX3_copy_74 ⟨Nat.le_of_ble_eq_true rfl, Nat.le_of_ble_eq_true rfl⟩) (fun r47 cw48 hp49 => ?_)
  refine z_cw hp49.2 ?_
  refine z_top hp49.1 ?_
  refine z_callv (z_runV (As := [.ref (ad (3 + 2 * now)), .int (nI (u)), .int (nI ((hs past).length))]) (rest := []) C (c_Row_addPart l D cI cR cL B N ad cw38 (by omega) hw_45 (by decide) (by omega) hw_46 (by decide) (by omega) hw_43 (by omega) hw_44 (by decide) ⟨(by omega), (by omega), (by omega), (by omega)⟩ (b := u) (k := (hs past).length) (hu) (t2) (by omega)) (cwV 3 C.2.2.2.2.1 gX3_copy_X2_addPart rfl rfl rfl (by decide +kernel) ⟨Nat.le_of_ble_eq_true rfl, Nat.le_of_ble_eq_true rfl⟩) (by omega) hw_45 rfl rfl rfl rfl (Nat.le_of_ble_eq_true rfl) dX3_copy_77 ⟨Nat.le_of_ble_eq_true rfl, Nat.le_of_ble_eq_true rfl⟩) (fun cw50 hp51 => ?_)
  have hw_52 : cw50 (0) = .inr (3, [.ref (ad (1)), .ref (ad (29)), .ref (ad (31)), .ref (ad (34)), .ref (ad (36))]) := by rw [hp51, va_up_ne _ _ (by decide), va_up_ne _ _ (by decide)]; exact hw_40
  have hw_53 : cw50 (1) = .inr (0, [.ref (ad (2)), .int (nI now), .int (nI past), .int (nI fut)]) := by rw [hp51, va_up_ne _ _ (by decide), va_up_ne _ _ (by decide)]; exact hw_41
  have hw_54 : cw50 (2) = .inl (cR, 13, .inr (.inr (.inr (.inr (fr))))) := by rw [hp51, va_up_ne _ _ (by decide), va_up_ne _ _ (by decide)]; exact hw_42
  have hw_55 : cw50 (3 + 2 * now) = .inr (2, [.ref (ad (4 + 2 * now)), .int (nI ((hs past).length))]) := by rw [hp51, va_up_ne _ _ (by omega), va_up_ne _ _ (by omega)]; exact hw_43
  have hw_56 : cw50 (4 + 2 * now) = .inl (cI, 240, .inl (f)) := by rw [hp51, va_up_ne _ _ (by omega), va_up_ne _ _ (by omega)]; exact hw_44
  have hw_57 : cw50 (34) = .inr (2, [.ref (ad (35)), .int (nI (0 + (u - 0) + ((q + k) - q) + ((hs past).length - u)))]) := by rw [hp51, va_up_self]
  have hw_58 : cw50 (35) = .inl (cI, 240, .inl (va_cpy (f) (va_cpy (f) (va_cpy (f) (g) (0) (0) (u - 0)) (q) (0 + (u - 0)) ((q + k) - q)) (u) (0 + (u - 0) + ((q + k) - q)) ((hs past).length - u))) := by rw [hp51, va_up_ne _ _ (by decide), va_up_self]
  refine z_aload_n C dX3_copy_80 1 rfl ?_
  have hqk : q + k ≤ (hs past).length := by omega
  have hX59 : zRX cI cR ad cw50 past fut hs pat ws (sCopy (hs past) q k u) := zRX_draft hX (fun j hj => by rw [hp51, va_up_ne _ _ (by omega), va_up_ne _ _ (by omega)]; rw [hp39, va_up_ne _ _ (by omega), va_up_ne _ _ (by omega)]; rw [hp30, va_up_ne _ _ (by omega), va_up_ne _ _ (by omega)]; rw [hp21, va_up_ne _ _ (by omega)]) (⟨by rw [hw_57, sCopy_len hqk hu], by rw [sCopy_len hqk hu]; omega, _, hw_58, zIs_cpyN (zIs_cpyN (zIs_cpyN (zIs_nil _) rfl t4 hu) (by rw [List.nil_append, zPart_len hu]; omega) t4 hqk) (by rw [List.nil_append, List.length_append, zPart_len hu, zPart_len hqk]; omega) t4 (Nat.le_refl _)⟩)
  refine z_calli (z_runV (As := []) (rest := []) C (c_PT_keepDraft l D cI cR cL B N ad cw50 hN hX59 (sCopy_ch (g6 past (by omega)))) (cwV 0 C.2.2.2.2.1 gX3_copy_X3_keepDraft rfl rfl rfl (by decide +kernel) ⟨Nat.le_of_ble_eq_true rfl, Nat.le_of_ble_eq_true rfl⟩) (by omega) hw_52 rfl rfl rfl rfl (Nat.le_of_ble_eq_true rfl) dX3_copy_81 ⟨Nat.le_of_ble_eq_true rfl, Nat.le_of_ble_eq_true rfl⟩) (fun r60 cw61 hp62 => ?_)
  exact z_xiret C hr dX3_copy_84 (⟨q, k, u, hqk, hu, h240, rfl, rfl, rfl, hp62.1, hp62.2.1, fun j hj => (hp62.2.2 j hj).trans ((fun j hj => by rw [hp51, va_up_ne _ _ (by omega), va_up_ne _ _ (by omega)]; rw [hp39, va_up_ne _ _ (by omega), va_up_ne _ _ (by omega)]; rw [hp30, va_up_ne _ _ (by omega), va_up_ne _ _ (by omega)]; rw [hp21, va_up_ne _ _ (by omega)]) j (by omega))⟩) (Nat.le_of_ble_eq_true rfl) (Nat.le_of_ble_eq_true rfl)
end
section
theorem zRX_pat {cI cR : ClassId} {ad : Nat → Nat} {cw cw' : Nat → va_E} {past fut : Nat} {hs : Nat → List Int32} {pat pat' ws dr : List Int32} (h : zRX cI cR ad cw past fut hs pat ws dr) (hk : ∀ j, (j ≠ 29 ∧ j ≠ 30) → cw' j = cw j) (hd : zRow cI ad cw' 29 30 16 pat') : zRX cI cR ad cw' past fut hs pat' ws dr := by
  obtain ⟨h0, ⟨now, h1⟩, h2, h3, h4, h5, nf, h6⟩ := h
  exact ⟨(hk 0 (by omega)).trans h0, ⟨now, zHist_kept h1 (fun j _ _ => hk j (by omega))⟩, zTexts_kept h2 (hk 2 (by omega)), hd, zWords_kept h4 (hk _ (by omega)) (hk _ (by omega)) (hk _ (by omega)), zRow_kept h5 (hk _ (by omega)) (hk _ (by omega)), nf, (hk 36 (by omega)).trans h6⟩
theorem zRX_words {cI cR : ClassId} {ad : Nat → Nat} {cw cw' : Nat → va_E} {past fut : Nat} {hs : Nat → List Int32} {pat ws ws' dr : List Int32} (h : zRX cI cR ad cw past fut hs pat ws dr) (hk : ∀ j, (j ≠ 31 ∧ j ≠ 32 ∧ j ≠ 33) → cw' j = cw j) (hd : zWords cI ad cw' ws') : zRX cI cR ad cw' past fut hs pat ws' dr := by
  obtain ⟨h0, ⟨now, h1⟩, h2, h3, h4, h5, nf, h6⟩ := h
  exact ⟨(hk 0 (by omega)).trans h0, ⟨now, zHist_kept h1 (fun j _ _ => hk j (by omega))⟩, zTexts_kept h2 (hk 2 (by omega)), zRow_kept h3 (hk _ (by omega)) (hk _ (by omega)), hd, zRow_kept h5 (hk _ (by omega)) (hk _ (by omega)), nf, (hk 36 (by omega)).trans h6⟩
theorem zIs_set {f : Nat → Int32} {xs : List Int32} (h : zIs f xs) (k : Nat) (x : Int32) : zIs (upd f k x) (xs.set k x) := by
  intro i hi
  rw [List.length_set] at hi
  by_cases h1 : i = k
  · subst h1
    rw [List.getElem?_set_self hi, pk_us]
  · rw [List.getElem?_set_ne (Ne.symm h1), h i hi, pk_un h1]
theorem zHist_forget {cI : ClassId} {ad : Nat → Nat} {cw cw' : Nat → va_E} {now past fut : Nat} {hs : Nat → List Int32} (h : zHist cI ad cw now past fut hs)
    (h1 : cw' 1 = .inr (0, [.ref (ad (2)), .int (nI now), .int (nI 0), .int (nI 0)])) (h2 : cw' (3 + 2 * now) = .inr (2, [.ref (ad (4 + 2 * now)), .int (nI 0)])) (hk : ∀ j, (j ≠ 1 ∧ j ≠ 3 + 2 * now) → cw' j = cw j) : zHist cI ad cw' now 0 0 (fun _ => []) := by
  obtain ⟨g1, g2, g3, g4, g5, g6⟩ := h
  have hr : zRow cI ad cw' (3 + 2 * now) (4 + 2 * now) 240 [] := by
    obtain ⟨xs, e1, e2, f, e3, e4⟩ := g5 now g1
    exact ⟨h2, Nat.zero_le _, f, (hk _ (by omega)).trans e3, zIs_nil f⟩
  refine ⟨g1, by omega, h1, fun j hj => ?_, fun i hi => ?_, fun j hj => zCh_nil⟩
  · have e : (now + 13 - 0 + j) % 13 = now := by omega
    rw [e]
    exact hr
  · by_cases hne : i = now
    · rw [hne]; exact ⟨[], hr⟩
    · exact (g5 i hi).imp fun xs hx => zRow_kept hx (hk _ (by omega)) (hk _ (by omega))
theorem qX3_at_0 : ∀ w ∈ wsX30, w ∈ wsX3_at := by decide +kernel
theorem qX3_at_1 : Cond.fieldLink RX3 10 "PieceText" "history" "LPieceText$History;" ∈ wsX3_at := by decide +kernel
theorem qX3_at_2 : Cond.classLink RX3 74 "java/lang/IndexOutOfBoundsException" ∈ wsX3_at := by decide +kernel
theorem qX3_at_3 : Cond.initialized "java/lang/IndexOutOfBoundsException" ∈ wsX3_at := by decide +kernel
set_option maxHeartbeats 4000000 in
set_option maxRecDepth 100000 in
theorem c_PT_at (l : Launch) (D : va_G) (cI cR cL : ClassId) (B N : Nat) (ad : Nat → Nat) (cw : Nat → va_E) (hl8 : l.stackTraces = false) (hN : 45 < N) {past fut : Nat} {hs : Nat → List Int32} {pat ws dr : List Int32} (hX : zRX cI cR ad cw past fut hs pat ws dr) (x : Int32) : vx_Met l yX3_at wsX3_at ({ frames := 6, cells := 1, slots := 6, locals := 95 } : Room) (va_Pc [.ref (ad (0)), .int (x)] (zI D vwCl (zTy cI cR cL) B N ad cw)) (zQi D vwCl B N ad (fun (v : Int32) (cw' : Nat → va_E) => ∃ q, q < (hs past).length ∧ x = nI q ∧ (hs past)[q]? = some v ∧ cw' = cw)) (zXC D vwCl B N ad cw (fun E : String => E = xIO ∧ ¬ (∃ q, q < (hs past).length ∧ x = nI q))) 1 6 (zA B) := by
  obtain ⟨x0, ⟨now, hH⟩, ⟨fr, ht, hfr⟩, ⟨p1, p2, pf, p3, p4⟩, ⟨w1, w2, ⟨wf, w3, w4⟩, sf, w5⟩, ⟨d1, d2, g, d3, d4⟩, nf, x6⟩ := id hX
  obtain ⟨g1, g2, g3, g4, g5, g6⟩ := id hH
  obtain ⟨t1, t2, f, t3, t4⟩ := zHist_now hH
  refine z_ofX (cc := cX3_at) (maxL := 3) (ret := (some .int)) (by decide) rfl (Nat.le_of_ble_eq_true rfl) ?_
  intro p e s m args below meth c C hr h0
  refine z_lv (lv' := [(0, .ref (ad (0))), (1, .int (x))]) [0, 1] rfl ?_
  refine z_aload_n C dX3_at_0 0 rfl ?_
  refine z_get (Cn := RX3) (T := TX3) (NF := 5) (ci := 3) (v := .ref (ad (1))) C qX3_at_0 rfl 0 (by decide) (C.2.2.2.2.1 _ qX3_at_1) (fun _ h9 => h9) dX3_at_1 (0) (by omega) x0 rfl ?_
  refine z_callr (z_runV (As := []) (rest := []) C (c_Hist_present l D cI cR cL B N ad cw (by omega) g3 (by omega) ht hfr g1) (cwV 0 C.2.2.2.2.1 gX3_at_X0_present rfl rfl rfl (by decide +kernel) ⟨Nat.le_of_ble_eq_true rfl, Nat.le_of_ble_eq_true rfl⟩) (by omega) g3 rfl rfl rfl rfl (Nat.le_of_ble_eq_true rfl) dX3_at_4 ⟨Nat.le_of_ble_eq_true rfl, Nat.le_of_ble_eq_true rfl⟩) (fun r1 cw2 hp3 => ?_)
  obtain ⟨rfl, hp3c⟩ := hp3
  refine z_cw hp3c ?_
  refine z_astore_n (lv' := [(2, .ref (ad (3 + 2 * now))), (0, .ref (ad (0))), (1, .int (x))]) C dX3_at_7 rfl (by decide) rfl ?_
  refine z_iload_n C dX3_at_8 2 rfl ?_
  refine z_if_lt (tgt := 20) C dX3_at_9 (by decide) (fun c4 => ?_) (fun c4 => ?_)
  · skip
    exact z_throw (cls := xIO) (names := xNames) C hl8 h0 rfl (by decide) (by decide) (C.2.2.2.2.1 _ qX3_at_2) (C.2.2.2.2.1 _ qX3_at_3) (show (76, "no such character") ∈ zStrs by decide +kernel) (fun w h => List.mem_cons_of_mem _ (List.mem_append_right _ h)) zng_IO zgd_IO dX3_at_20 dX3_at_23 dX3_at_24 dX3_at_26 dX3_at_29 (Nat.le_of_ble_eq_true rfl) (Nat.le_of_ble_eq_true rfl) (Nat.le_of_ble_eq_true rfl) (Nat.le_of_ble_eq_true rfl) (⟨rfl, fun ⟨q, h1, h2⟩ => by rw [h2] at c4; exact nI_pos (by omega) c4⟩) (Nat.le_of_ble_eq_true rfl) (Nat.le_of_ble_eq_true rfl)
  · skip
    obtain ⟨u, hu, rfl⟩ := nI_of c4
    refine z_iload_n C dX3_at_12 2 rfl ?_
    refine z_aload_n C dX3_at_13 0 rfl ?_
    refine z_calli (z_runV (As := []) (rest := [.int (nI u)]) C (c_Row_size l D cI cR cL B N ad cw (by omega) t1) (cwV 0 C.2.2.2.2.1 gX3_at_X2_size rfl rfl rfl (by decide +kernel) ⟨Nat.le_of_ble_eq_true rfl, Nat.le_of_ble_eq_true rfl⟩) (by omega) t1 rfl rfl rfl rfl (Nat.le_of_ble_eq_true rfl) dX3_at_14 ⟨Nat.le_of_ble_eq_true rfl, Nat.le_of_ble_eq_true rfl⟩) (fun r5 cw6 hp7 => ?_)
    refine z_cw hp7.2 ?_
    refine z_top hp7.1 ?_
    refine z_icmp_lt (tgt := 30) C dX3_at_17 (by decide) (fun c8 => ?_) (fun c8 => ?_)
    · skip
      have hlt : u < (hs past).length := (nI_ltI hu (by omega)).mp c8
      refine z_aload_n C dX3_at_30 0 rfl ?_
      refine z_iload_n C dX3_at_31 2 rfl ?_
      refine z_calli (z_runV (As := [.int (nI (u))]) (rest := []) C (c_Row_get l D cI cR cL B N ad cw (by omega) t1 (by decide) (by omega) t3 (j := u) (by omega)) (cwV 1 C.2.2.2.2.1 gX3_at_X2_get rfl rfl rfl (by decide +kernel) ⟨Nat.le_of_ble_eq_true rfl, Nat.le_of_ble_eq_true rfl⟩) (by omega) t1 rfl rfl rfl rfl (Nat.le_of_ble_eq_true rfl) dX3_at_32 ⟨Nat.le_of_ble_eq_true rfl, Nat.le_of_ble_eq_true rfl⟩) (fun r9 cw10 hp11 => ?_)
      refine z_cw hp11.2 ?_
      refine z_top hp11.1 ?_
      exact z_xiret C hr dX3_at_35 (⟨u, hlt, rfl, t4 u hlt, rfl⟩) (Nat.le_of_ble_eq_true rfl) (Nat.le_of_ble_eq_true rfl)
    · skip
      exact z_throw (cls := xIO) (names := xNames) C hl8 h0 rfl (by decide) (by decide) (C.2.2.2.2.1 _ qX3_at_2) (C.2.2.2.2.1 _ qX3_at_3) (show (76, "no such character") ∈ zStrs by decide +kernel) (fun w h => List.mem_cons_of_mem _ (List.mem_append_right _ h)) zng_IO zgd_IO dX3_at_20 dX3_at_23 dX3_at_24 dX3_at_26 dX3_at_29 (Nat.le_of_ble_eq_true rfl) (Nat.le_of_ble_eq_true rfl) (Nat.le_of_ble_eq_true rfl) (Nat.le_of_ble_eq_true rfl) (⟨rfl, fun ⟨q, h1, h2⟩ => c8 (by rw [h2]; exact nI_lt h1 (by omega))⟩) (Nat.le_of_ble_eq_true rfl) (Nat.le_of_ble_eq_true rfl)

theorem qX3_undo_0 : ∀ w ∈ wsX30, w ∈ wsX3_undo := by decide +kernel
theorem qX3_undo_1 : Cond.fieldLink RX3 10 "PieceText" "history" "LPieceText$History;" ∈ wsX3_undo := by decide +kernel
theorem qX3_undo_2 : Cond.classLink RX3 88 "java/lang/IllegalStateException" ∈ wsX3_undo := by decide +kernel
theorem qX3_undo_3 : Cond.initialized "java/lang/IllegalStateException" ∈ wsX3_undo := by decide +kernel
set_option maxHeartbeats 4000000 in
set_option maxRecDepth 100000 in
theorem c_PT_undo (l : Launch) (D : va_G) (cI cR cL : ClassId) (B N : Nat) (ad : Nat → Nat) (cw : Nat → va_E) (hl8 : l.stackTraces = false) (hN : 45 < N) {past fut : Nat} {hs : Nat → List Int32} {pat ws dr : List Int32} (hX : zRX cI cR ad cw past fut hs pat ws dr) : vx_Met l yX3_undo wsX3_undo ({ frames := 6, cells := 1, slots := 6, locals := 95 } : Room) (va_Pc [.ref (ad (0))] (zI D vwCl (zTy cI cR cL) B N ad cw)) (zQi D vwCl B N ad (fun (v : Int32) (cw' : Nat → va_E) => ∃ pv, past = pv + 1 ∧ v = nI (hs pv).length ∧ zRX cI cR ad cw' pv (fut + 1) hs pat ws dr ∧ ∀ j, 37 ≤ j → cw' j = cw j)) (zXC D vwCl B N ad cw (fun E : String => E = xIS ∧ past = 0)) 1 6 (zA B) := by
  obtain ⟨x0, ⟨now, hH⟩, ⟨fr, ht, hfr⟩, ⟨p1, p2, pf, p3, p4⟩, ⟨w1, w2, ⟨wf, w3, w4⟩, sf, w5⟩, ⟨d1, d2, g, d3, d4⟩, nf, x6⟩ := id hX
  obtain ⟨g1, g2, g3, g4, g5, g6⟩ := id hH
  obtain ⟨t1, t2, f, t3, t4⟩ := zHist_now hH
  refine z_ofX (cc := cX3_undo) (maxL := 1) (ret := (some .int)) (by decide) rfl (Nat.le_of_ble_eq_true rfl) ?_
  intro p e s m args below meth c C hr h0
  refine z_lv (lv' := [(0, .ref (ad (0)))]) [0] rfl ?_
  refine z_aload_n C dX3_undo_0 0 rfl ?_
  refine z_get (Cn := RX3) (T := TX3) (NF := 5) (ci := 3) (v := .ref (ad (1))) C qX3_undo_0 rfl 0 (by decide) (C.2.2.2.2.1 _ qX3_undo_1) (fun _ h9 => h9) dX3_undo_1 (0) (by omega) x0 rfl ?_
  refine z_calli (z_runV (As := []) (rest := []) C (c_Hist_pastSize l D cI cR cL B N ad cw (by omega) g3) (cwV 0 C.2.2.2.2.1 gX3_undo_X0_pastSize rfl rfl rfl (by decide +kernel) ⟨Nat.le_of_ble_eq_true rfl, Nat.le_of_ble_eq_true rfl⟩) (by omega) g3 rfl rfl rfl rfl (Nat.le_of_ble_eq_true rfl) dX3_undo_4 ⟨Nat.le_of_ble_eq_true rfl, Nat.le_of_ble_eq_true rfl⟩) (fun r1 cw2 hp3 => ?_)
  refine z_cw hp3.2 ?_
  refine z_top hp3.1 ?_
  refine z_if_ne (tgt := 20) C dX3_undo_7 (by decide) (fun c4 => ?_) (fun c4 => ?_)
  · skip
    obtain ⟨pv, rfl⟩ : ∃ z, past = z + 1 := Nat.exists_eq_succ_of_ne_zero (fun h9 => c4 (by rw [h9]; decide))
    refine z_aload_n C dX3_undo_20 0 rfl ?_
    refine z_get (Cn := RX3) (T := TX3) (NF := 5) (ci := 3) (v := .ref (ad (1))) C qX3_undo_0 rfl 0 (by decide) (C.2.2.2.2.1 _ qX3_undo_1) (fun _ h9 => h9) dX3_undo_21 (0) (by omega) x0 rfl ?_
    refine z_callv (z_runV (As := []) (rest := []) C (c_Hist_stepBack l D cI cR cL B N ad cw (by omega) g3 g1) (cwV 0 C.2.2.2.2.1 gX3_undo_X0_stepBack rfl rfl rfl (by decide +kernel) ⟨Nat.le_of_ble_eq_true rfl, Nat.le_of_ble_eq_true rfl⟩) (by omega) g3 rfl rfl rfl rfl (Nat.le_of_ble_eq_true rfl) dX3_undo_24 ⟨Nat.le_of_ble_eq_true rfl, Nat.le_of_ble_eq_true rfl⟩) (fun cw5 hp6 => ?_)
    have hw_7 : cw5 (0) = .inr (3, [.ref (ad (1)), .ref (ad (29)), .ref (ad (31)), .ref (ad (34)), .ref (ad (36))]) := by rw [hp6.2 (0) (by omega)]; exact x0
    have hw_8 : cw5 (1) = .inr (0, [.ref (ad (2)), .int (nI ((now + 12) % 13)), .int (nI (pv)), .int (nI (fut + 1))]) := hp6.1
    have hw_9 : cw5 (2) = .inl (cR, 13, .inr (.inr (.inr (.inr (fr))))) := by rw [hp6.2 (2) (by omega)]; exact ht
    have hH2 := zHist_back hH hp6.1 hp6.2
    refine z_aload_n C dX3_undo_27 0 rfl ?_
    refine z_get (Cn := RX3) (T := TX3) (NF := 5) (ci := 3) (v := .ref (ad (1))) C qX3_undo_0 rfl 0 (by decide) (C.2.2.2.2.1 _ qX3_undo_1) (fun _ h9 => h9) dX3_undo_28 (0) (by omega) hw_7 rfl ?_
    obtain ⟨k1, k2, kf, k3, k4⟩ := zHist_now hH2
    have kn := hH2.1
    refine z_callr (z_runV (As := []) (rest := []) C (c_Hist_present l D cI cR cL B N ad cw5 (by omega) hw_8 (by omega) hw_9 hfr kn) (cwV 0 C.2.2.2.2.1 gX3_undo_X0_present rfl rfl rfl (by decide +kernel) ⟨Nat.le_of_ble_eq_true rfl, Nat.le_of_ble_eq_true rfl⟩) (by omega) hw_8 rfl rfl rfl rfl (Nat.le_of_ble_eq_true rfl) dX3_undo_31 ⟨Nat.le_of_ble_eq_true rfl, Nat.le_of_ble_eq_true rfl⟩) (fun r10 cw11 hp12 => ?_)
    obtain ⟨rfl, hp12c⟩ := hp12
    refine z_cw hp12c ?_
    refine z_calli (z_runV (As := []) (rest := []) C (c_Row_size l D cI cR cL B N ad cw5 (by omega) k1) (cwV 0 C.2.2.2.2.1 gX3_undo_X2_size rfl rfl rfl (by decide +kernel) ⟨Nat.le_of_ble_eq_true rfl, Nat.le_of_ble_eq_true rfl⟩) (by omega) k1 rfl rfl rfl rfl (Nat.le_of_ble_eq_true rfl) dX3_undo_34 ⟨Nat.le_of_ble_eq_true rfl, Nat.le_of_ble_eq_true rfl⟩) (fun r13 cw14 hp15 => ?_)
    refine z_cw hp15.2 ?_
    refine z_top hp15.1 ?_
    exact z_xiret C hr dX3_undo_37 (⟨pv, rfl, rfl, zRX_hist hX (fun j hj => hp6.2 j (by omega)) hH2, fun j hj => hp6.2 j (by omega)⟩) (Nat.le_of_ble_eq_true rfl) (Nat.le_of_ble_eq_true rfl)
  · skip
    exact z_throw (cls := xIS) (names := xNames) C hl8 h0 rfl (by decide) (by decide) (C.2.2.2.2.1 _ qX3_undo_2) (C.2.2.2.2.1 _ qX3_undo_3) (show (90, "the past has no action") ∈ zStrs by decide +kernel) (fun w h => List.mem_cons_of_mem _ (List.mem_append_right _ h)) zng_IS zgd_IS dX3_undo_10 dX3_undo_13 dX3_undo_14 dX3_undo_16 dX3_undo_19 (Nat.le_of_ble_eq_true rfl) (Nat.le_of_ble_eq_true rfl) (Nat.le_of_ble_eq_true rfl) (Nat.le_of_ble_eq_true rfl) (⟨rfl, (nI_eq (by omega) (by omega)).mp c4⟩) (Nat.le_of_ble_eq_true rfl) (Nat.le_of_ble_eq_true rfl)

theorem qX3_redo_0 : ∀ w ∈ wsX30, w ∈ wsX3_redo := by decide +kernel
theorem qX3_redo_1 : Cond.fieldLink RX3 10 "PieceText" "history" "LPieceText$History;" ∈ wsX3_redo := by decide +kernel
theorem qX3_redo_2 : Cond.classLink RX3 88 "java/lang/IllegalStateException" ∈ wsX3_redo := by decide +kernel
theorem qX3_redo_3 : Cond.initialized "java/lang/IllegalStateException" ∈ wsX3_redo := by decide +kernel
set_option maxHeartbeats 4000000 in
set_option maxRecDepth 100000 in
theorem c_PT_redo (l : Launch) (D : va_G) (cI cR cL : ClassId) (B N : Nat) (ad : Nat → Nat) (cw : Nat → va_E) (hl8 : l.stackTraces = false) (hN : 45 < N) {past fut : Nat} {hs : Nat → List Int32} {pat ws dr : List Int32} (hX : zRX cI cR ad cw past fut hs pat ws dr) : vx_Met l yX3_redo wsX3_redo ({ frames := 6, cells := 1, slots := 6, locals := 95 } : Room) (va_Pc [.ref (ad (0))] (zI D vwCl (zTy cI cR cL) B N ad cw)) (zQi D vwCl B N ad (fun (v : Int32) (cw' : Nat → va_E) => ∃ qv, fut = qv + 1 ∧ v = nI (hs (past + 1)).length ∧ zRX cI cR ad cw' (past + 1) qv hs pat ws dr ∧ ∀ j, 37 ≤ j → cw' j = cw j)) (zXC D vwCl B N ad cw (fun E : String => E = xIS ∧ fut = 0)) 1 6 (zA B) := by
  obtain ⟨x0, ⟨now, hH⟩, ⟨fr, ht, hfr⟩, ⟨p1, p2, pf, p3, p4⟩, ⟨w1, w2, ⟨wf, w3, w4⟩, sf, w5⟩, ⟨d1, d2, g, d3, d4⟩, nf, x6⟩ := id hX
  obtain ⟨g1, g2, g3, g4, g5, g6⟩ := id hH
  obtain ⟨t1, t2, f, t3, t4⟩ := zHist_now hH
  refine z_ofX (cc := cX3_redo) (maxL := 1) (ret := (some .int)) (by decide) rfl (Nat.le_of_ble_eq_true rfl) ?_
  intro p e s m args below meth c C hr h0
  refine z_lv (lv' := [(0, .ref (ad (0)))]) [0] rfl ?_
  refine z_aload_n C dX3_redo_0 0 rfl ?_
  refine z_get (Cn := RX3) (T := TX3) (NF := 5) (ci := 3) (v := .ref (ad (1))) C qX3_redo_0 rfl 0 (by decide) (C.2.2.2.2.1 _ qX3_redo_1) (fun _ h9 => h9) dX3_redo_1 (0) (by omega) x0 rfl ?_
  refine z_calli (z_runV (As := []) (rest := []) C (c_Hist_futureSize l D cI cR cL B N ad cw (by omega) g3) (cwV 0 C.2.2.2.2.1 gX3_redo_X0_futureSize rfl rfl rfl (by decide +kernel) ⟨Nat.le_of_ble_eq_true rfl, Nat.le_of_ble_eq_true rfl⟩) (by omega) g3 rfl rfl rfl rfl (Nat.le_of_ble_eq_true rfl) dX3_redo_4 ⟨Nat.le_of_ble_eq_true rfl, Nat.le_of_ble_eq_true rfl⟩) (fun r1 cw2 hp3 => ?_)
  refine z_cw hp3.2 ?_
  refine z_top hp3.1 ?_
  refine z_if_ne (tgt := 20) C dX3_redo_7 (by decide) (fun c4 => ?_) (fun c4 => ?_)
  · skip
    obtain ⟨qv, rfl⟩ : ∃ z, fut = z + 1 := Nat.exists_eq_succ_of_ne_zero (fun h9 => c4 (by rw [h9]; decide))
    refine z_aload_n C dX3_redo_20 0 rfl ?_
    refine z_get (Cn := RX3) (T := TX3) (NF := 5) (ci := 3) (v := .ref (ad (1))) C qX3_redo_0 rfl 0 (by decide) (C.2.2.2.2.1 _ qX3_redo_1) (fun _ h9 => h9) dX3_redo_21 (0) (by omega) x0 rfl ?_
    refine z_callv (z_runV (As := []) (rest := []) C (c_Hist_stepOn l D cI cR cL B N ad cw (by omega) g3 g1) (cwV 0 C.2.2.2.2.1 gX3_redo_X0_stepOn rfl rfl rfl (by decide +kernel) ⟨Nat.le_of_ble_eq_true rfl, Nat.le_of_ble_eq_true rfl⟩) (by omega) g3 rfl rfl rfl rfl (Nat.le_of_ble_eq_true rfl) dX3_redo_24 ⟨Nat.le_of_ble_eq_true rfl, Nat.le_of_ble_eq_true rfl⟩) (fun cw5 hp6 => ?_)
    have hw_7 : cw5 (0) = .inr (3, [.ref (ad (1)), .ref (ad (29)), .ref (ad (31)), .ref (ad (34)), .ref (ad (36))]) := by rw [hp6.2 (0) (by omega)]; exact x0
    have hw_8 : cw5 (1) = .inr (0, [.ref (ad (2)), .int (nI ((now + 1) % 13)), .int (nI (past + 1)), .int (nI (qv))]) := hp6.1
    have hw_9 : cw5 (2) = .inl (cR, 13, .inr (.inr (.inr (.inr (fr))))) := by rw [hp6.2 (2) (by omega)]; exact ht
    have hH2 := zHist_on hH hp6.1 hp6.2
    refine z_aload_n C dX3_redo_27 0 rfl ?_
    refine z_get (Cn := RX3) (T := TX3) (NF := 5) (ci := 3) (v := .ref (ad (1))) C qX3_redo_0 rfl 0 (by decide) (C.2.2.2.2.1 _ qX3_redo_1) (fun _ h9 => h9) dX3_redo_28 (0) (by omega) hw_7 rfl ?_
    obtain ⟨k1, k2, kf, k3, k4⟩ := zHist_now hH2
    have kn := hH2.1
    refine z_callr (z_runV (As := []) (rest := []) C (c_Hist_present l D cI cR cL B N ad cw5 (by omega) hw_8 (by omega) hw_9 hfr kn) (cwV 0 C.2.2.2.2.1 gX3_redo_X0_present rfl rfl rfl (by decide +kernel) ⟨Nat.le_of_ble_eq_true rfl, Nat.le_of_ble_eq_true rfl⟩) (by omega) hw_8 rfl rfl rfl rfl (Nat.le_of_ble_eq_true rfl) dX3_redo_31 ⟨Nat.le_of_ble_eq_true rfl, Nat.le_of_ble_eq_true rfl⟩) (fun r10 cw11 hp12 => ?_)
    obtain ⟨rfl, hp12c⟩ := hp12
    refine z_cw hp12c ?_
    refine z_calli (z_runV (As := []) (rest := []) C (c_Row_size l D cI cR cL B N ad cw5 (by omega) k1) (cwV 0 C.2.2.2.2.1 gX3_redo_X2_size rfl rfl rfl (by decide +kernel) ⟨Nat.le_of_ble_eq_true rfl, Nat.le_of_ble_eq_true rfl⟩) (by omega) k1 rfl rfl rfl rfl (Nat.le_of_ble_eq_true rfl) dX3_redo_34 ⟨Nat.le_of_ble_eq_true rfl, Nat.le_of_ble_eq_true rfl⟩) (fun r13 cw14 hp15 => ?_)
    refine z_cw hp15.2 ?_
    refine z_top hp15.1 ?_
    exact z_xiret C hr dX3_redo_37 (⟨qv, rfl, rfl, zRX_hist hX (fun j hj => hp6.2 j (by omega)) hH2, fun j hj => hp6.2 j (by omega)⟩) (Nat.le_of_ble_eq_true rfl) (Nat.le_of_ble_eq_true rfl)
  · skip
    exact z_throw (cls := xIS) (names := xNames) C hl8 h0 rfl (by decide) (by decide) (C.2.2.2.2.1 _ qX3_redo_2) (C.2.2.2.2.1 _ qX3_redo_3) (show (99, "the future has no action") ∈ zStrs by decide +kernel) (fun w h => List.mem_cons_of_mem _ (List.mem_append_right _ h)) zng_IS zgd_IS dX3_redo_10 dX3_redo_13 dX3_redo_14 dX3_redo_16 dX3_redo_19 (Nat.le_of_ble_eq_true rfl) (Nat.le_of_ble_eq_true rfl) (Nat.le_of_ble_eq_true rfl) (Nat.le_of_ble_eq_true rfl) (⟨rfl, (nI_eq (by omega) (by omega)).mp c4⟩) (Nat.le_of_ble_eq_true rfl) (Nat.le_of_ble_eq_true rfl)

theorem qX3_pattern_0 : ∀ w ∈ wsX30, w ∈ wsX3_pattern := by decide +kernel
theorem qX3_pattern_1 : Cond.fieldLink RX3 21 "PieceText" "sought" "LPieceText$Row;" ∈ wsX3_pattern := by decide +kernel
theorem qX3_pattern_2 : Cond.classLink RX3 104 "java/lang/UnsupportedOperationException" ∈ wsX3_pattern := by decide +kernel
theorem qX3_pattern_3 : Cond.initialized "java/lang/UnsupportedOperationException" ∈ wsX3_pattern := by decide +kernel
set_option maxHeartbeats 4000000 in
set_option maxRecDepth 100000 in
theorem c_PT_pattern (l : Launch) (D : va_G) (cI cR cL : ClassId) (B N : Nat) (ad : Nat → Nat) (cw : Nat → va_E) (hl8 : l.stackTraces = false) (hN : 45 < N) {past fut : Nat} {hs : Nat → List Int32} {pat ws dr : List Int32} (hX : zRX cI cR ad cw past fut hs pat ws dr) (x : Int32) : vx_Met l yX3_pattern wsX3_pattern ({ frames := 7, cells := 2, slots := 12, locals := 115 } : Room) (va_Pc [.ref (ad (0)), .int (x)] (zI D vwCl (zTy cI cR cL) B N ad cw)) (zQi D vwCl B N ad (fun (v : Int32) (cw' : Nat → va_E) => (∃ q, q < 256 ∧ x = nI q) ∧ pat.length < 16 ∧ v = nI (pat ++ [x]).length ∧ zRX cI cR ad cw' past fut hs (pat ++ [x]) ws dr ∧ ∀ j, 37 ≤ j → cw' j = cw j)) (zXC D vwCl B N ad cw (fun E : String => (E = xIA ∧ ¬ (∃ q, q < 256 ∧ x = nI q)) ∨ (E = xUO ∧ (∃ q, q < 256 ∧ x = nI q) ∧ ¬ (pat.length < 16)))) 2 12 (zA B) := by
  obtain ⟨x0, ⟨now, hH⟩, ⟨fr, ht, hfr⟩, ⟨p1, p2, pf, p3, p4⟩, ⟨w1, w2, ⟨wf, w3, w4⟩, sf, w5⟩, ⟨d1, d2, g, d3, d4⟩, nf, x6⟩ := id hX
  obtain ⟨g1, g2, g3, g4, g5, g6⟩ := id hH
  obtain ⟨t1, t2, f, t3, t4⟩ := zHist_now hH
  refine z_ofX (cc := cX3_pattern) (maxL := 2) (ret := (some .int)) (by decide) rfl (Nat.le_of_ble_eq_true rfl) ?_
  intro p e s m args below meth c C hr h0
  refine z_lv (lv' := [(0, .ref (ad (0))), (1, .int (x))]) [0, 1] rfl ?_
  refine z_iload_n C dX3_pattern_0 1 rfl ?_
  refine z_xcallv (z_xrunS (As := [.int (x)]) (rest := []) C (c_PT_noChar l D cI cR cL B N ad cw hl8 (x)) (va_cwS 1 C.2.2.2.2.1 gX3_pattern_X3_refuseNoCharacter rfl rfl rfl (by decide +kernel) ⟨Nat.le_of_ble_eq_true rfl, Nat.le_of_ble_eq_true rfl⟩) rfl rfl (Nat.le_of_ble_eq_true rfl) dX3_pattern_1 ⟨Nat.le_of_ble_eq_true rfl, Nat.le_of_ble_eq_true rfl⟩) (fun E3 hx4 => ?_) (fun cw1 hp2 => ?_)
  · exact z_xout C h0 (Or.inl hx4) (Nat.le_of_ble_eq_true rfl) (Nat.le_of_ble_eq_true rfl)
  obtain ⟨⟨u, hu, rfl⟩, hp2c⟩ := hp2
  refine z_cw hp2c ?_
  refine z_aload_n C dX3_pattern_4 0 rfl ?_
  refine z_get (Cn := RX3) (T := TX3) (NF := 5) (ci := 3) (v := .ref (ad (29))) C qX3_pattern_0 rfl 1 (by decide) (C.2.2.2.2.1 _ qX3_pattern_1) (fun _ h9 => h9) dX3_pattern_5 (0) (by omega) x0 rfl ?_
  refine z_calli (z_runV (As := []) (rest := []) C (c_Row_size l D cI cR cL B N ad cw (by omega) p1) (cwV 0 C.2.2.2.2.1 gX3_pattern_X2_size rfl rfl rfl (by decide +kernel) ⟨Nat.le_of_ble_eq_true rfl, Nat.le_of_ble_eq_true rfl⟩) (by omega) p1 rfl rfl rfl rfl (Nat.le_of_ble_eq_true rfl) dX3_pattern_8 ⟨Nat.le_of_ble_eq_true rfl, Nat.le_of_ble_eq_true rfl⟩) (fun r5 cw6 hp7 => ?_)
  refine z_cw hp7.2 ?_
  refine z_top hp7.1 ?_
  refine z_bipush (v := nI 16) C dX3_pattern_11 (by decide) ?_
  refine z_icmp_lt (tgt := 26) C dX3_pattern_13 (by decide) (fun c8 => ?_) (fun c8 => ?_)
  · skip
    have hlt : pat.length < 16 := (nI_ltI (by omega) (by omega)).mp c8
    refine z_aload_n C dX3_pattern_26 0 rfl ?_
    refine z_get (Cn := RX3) (T := TX3) (NF := 5) (ci := 3) (v := .ref (ad (29))) C qX3_pattern_0 rfl 1 (by decide) (C.2.2.2.2.1 _ qX3_pattern_1) (fun _ h9 => h9) dX3_pattern_27 (0) (by omega) x0 rfl ?_
    refine z_iload_n C dX3_pattern_30 1 rfl ?_
    refine z_callv (z_runV (As := [.int (nI u)]) (rest := []) C (c_Row_add l D cI cR cL B N ad cw (by omega) p1 (by decide) (by omega) p3 (by decide) (hlt) (nI u)) (cwV 1 C.2.2.2.2.1 gX3_pattern_X2_add rfl rfl rfl (by decide +kernel) ⟨Nat.le_of_ble_eq_true rfl, Nat.le_of_ble_eq_true rfl⟩) (by omega) p1 rfl rfl rfl rfl (Nat.le_of_ble_eq_true rfl) dX3_pattern_31 ⟨Nat.le_of_ble_eq_true rfl, Nat.le_of_ble_eq_true rfl⟩) (fun cw9 hp10 => ?_)
    have hw_11 : cw9 (0) = .inr (3, [.ref (ad (1)), .ref (ad (29)), .ref (ad (31)), .ref (ad (34)), .ref (ad (36))]) := by rw [hp10, va_up_ne _ _ (by decide), va_up_ne _ _ (by decide)]; exact x0
    have hw_12 : cw9 (29) = .inr (2, [.ref (ad (30)), .int (nI (pat.length + 1))]) := by rw [hp10, va_up_self]
    have hw_13 : cw9 (30) = .inl (cI, 16, .inl (upd (pf) (pat.length) (nI u))) := by rw [hp10, va_up_ne _ _ (by decide), va_up_self]
    refine z_aload_n C dX3_pattern_34 0 rfl ?_
    refine z_get (Cn := RX3) (T := TX3) (NF := 5) (ci := 3) (v := .ref (ad (29))) C qX3_pattern_0 rfl 1 (by decide) (C.2.2.2.2.1 _ qX3_pattern_1) (fun _ h9 => h9) dX3_pattern_35 (0) (by omega) hw_11 rfl ?_
    refine z_calli (z_runV (As := []) (rest := []) C (c_Row_size l D cI cR cL B N ad cw9 (by omega) hw_12) (cwV 0 C.2.2.2.2.1 gX3_pattern_X2_size rfl rfl rfl (by decide +kernel) ⟨Nat.le_of_ble_eq_true rfl, Nat.le_of_ble_eq_true rfl⟩) (by omega) hw_12 rfl rfl rfl rfl (Nat.le_of_ble_eq_true rfl) dX3_pattern_38 ⟨Nat.le_of_ble_eq_true rfl, Nat.le_of_ble_eq_true rfl⟩) (fun r14 cw15 hp16 => ?_)
    refine z_cw hp16.2 ?_
    refine z_top hp16.1 ?_
    refine z_top (y := nI (pat ++ [nI u]).length) (by rw [List.length_append]; rfl) ?_
    exact z_xiret C hr dX3_pattern_41 (⟨⟨u, hu, rfl⟩, hlt, rfl, zRX_pat hX (fun j hj => by rw [hp10, va_up_ne _ _ (by omega), va_up_ne _ _ (by omega)]) ⟨by rw [hw_12, List.length_append]; rfl, by rw [List.length_append]; exact hlt, _, hw_13, zIs_add p4 _⟩, fun j hj => by rw [hp10, va_up_ne _ _ (by omega), va_up_ne _ _ (by omega)]⟩) (Nat.le_of_ble_eq_true rfl) (Nat.le_of_ble_eq_true rfl)
  · skip
    exact z_throw (cls := xUO) (names := xNames) C hl8 h0 rfl (by decide) (by decide) (C.2.2.2.2.1 _ qX3_pattern_2) (C.2.2.2.2.1 _ qX3_pattern_3) (show (106, "the pattern would be too long") ∈ zStrs by decide +kernel) (fun w h => List.mem_cons_of_mem _ (List.mem_append_left _ (List.mem_append_right _ h))) zng_UO zgd_UO dX3_pattern_16 dX3_pattern_19 dX3_pattern_20 dX3_pattern_22 dX3_pattern_25 (Nat.le_of_ble_eq_true rfl) (Nat.le_of_ble_eq_true rfl) (Nat.le_of_ble_eq_true rfl) (Nat.le_of_ble_eq_true rfl) (Or.inr ⟨rfl, ⟨u, hu, rfl⟩, fun h9 => c8 (nI_lt h9 (by omega))⟩) (Nat.le_of_ble_eq_true rfl) (Nat.le_of_ble_eq_true rfl)

theorem qX3_noPattern_0 : ∀ w ∈ wsX30, w ∈ wsX3_noPattern := by decide +kernel
theorem qX3_noPattern_1 : Cond.fieldLink RX3 21 "PieceText" "sought" "LPieceText$Row;" ∈ wsX3_noPattern := by decide +kernel
set_option maxHeartbeats 4000000 in
set_option maxRecDepth 100000 in
theorem c_PT_noPattern (l : Launch) (D : va_G) (cI cR cL : ClassId) (B N : Nat) (ad : Nat → Nat) (cw : Nat → va_E) (hN : 45 < N) {past fut : Nat} {hs : Nat → List Int32} {pat ws dr : List Int32} (hX : zRX cI cR ad cw past fut hs pat ws dr) : Met l yX3_noPattern wsX3_noPattern ({ frames := 1, cells := 0, slots := 0, locals := 20 } : Room) (va_Pc [.ref (ad (0))] (zI D vwCl (zTy cI cR cL) B N ad cw)) (zQi D vwCl B N ad (fun (v : Int32) (cw' : Nat → va_E) => v = nI pat.length ∧ zRX cI cR ad cw' past fut hs [] ws dr ∧ ∀ j, 37 ≤ j → cw' j = cw j)) 0 0 (zA B) := by
  obtain ⟨x0, ⟨now, hH⟩, ⟨fr, ht, hfr⟩, ⟨p1, p2, pf, p3, p4⟩, ⟨w1, w2, ⟨wf, w3, w4⟩, sf, w5⟩, ⟨d1, d2, g, d3, d4⟩, nf, x6⟩ := id hX
  obtain ⟨g1, g2, g3, g4, g5, g6⟩ := id hH
  obtain ⟨t1, t2, f, t3, t4⟩ := zHist_now hH
  refine z_ofW (cc := cX3_noPattern) (maxL := 2) (ret := (some .int)) (by decide) rfl (Nat.le_of_ble_eq_true rfl) ?_
  intro p e s m args below meth c C hr hnm
  refine z_lv (lv' := [(0, .ref (ad (0)))]) [0] rfl ?_
  refine z_aload_n C dX3_noPattern_0 0 rfl ?_
  refine z_get (Cn := RX3) (T := TX3) (NF := 5) (ci := 3) (v := .ref (ad (29))) C qX3_noPattern_0 rfl 1 (by decide) (C.2.2.2.2.1 _ qX3_noPattern_1) (fun _ h9 => h9) dX3_noPattern_1 (0) (by omega) x0 rfl ?_
  refine z_calli (z_runV (As := []) (rest := []) C (c_Row_size l D cI cR cL B N ad cw (by omega) p1) (cwV 0 C.2.2.2.2.1 gX3_noPattern_X2_size rfl rfl rfl (by decide +kernel) ⟨Nat.le_of_ble_eq_true rfl, Nat.le_of_ble_eq_true rfl⟩) (by omega) p1 rfl rfl rfl rfl (Nat.le_of_ble_eq_true rfl) dX3_noPattern_4 ⟨Nat.le_of_ble_eq_true rfl, Nat.le_of_ble_eq_true rfl⟩) (fun r1 cw2 hp3 => ?_)
  refine z_cw hp3.2 ?_
  refine z_top hp3.1 ?_
  refine z_istore_n (lv' := [(1, .int (nI (pat.length))), (0, .ref (ad (0)))]) C dX3_noPattern_7 rfl (by decide) rfl ?_
  refine z_aload_n C dX3_noPattern_8 1 rfl ?_
  refine z_get (Cn := RX3) (T := TX3) (NF := 5) (ci := 3) (v := .ref (ad (29))) C qX3_noPattern_0 rfl 1 (by decide) (C.2.2.2.2.1 _ qX3_noPattern_1) (fun _ h9 => h9) dX3_noPattern_9 (0) (by omega) x0 rfl ?_
  refine z_callv (z_runV (As := []) (rest := []) C (c_Row_empty l D cI cR cL B N ad cw (by omega) p1) (cwV 0 C.2.2.2.2.1 gX3_noPattern_X2_empty rfl rfl rfl (by decide +kernel) ⟨Nat.le_of_ble_eq_true rfl, Nat.le_of_ble_eq_true rfl⟩) (by omega) p1 rfl rfl rfl rfl (Nat.le_of_ble_eq_true rfl) dX3_noPattern_12 ⟨Nat.le_of_ble_eq_true rfl, Nat.le_of_ble_eq_true rfl⟩) (fun cw4 hp5 => ?_)
  have hw_6 : cw4 (0) = .inr (3, [.ref (ad (1)), .ref (ad (29)), .ref (ad (31)), .ref (ad (34)), .ref (ad (36))]) := by rw [hp5, va_up_ne _ _ (by decide)]; exact x0
  have hw_7 : cw4 (29) = .inr (2, [.ref (ad (30)), .int (nI 0)]) := by rw [hp5, va_up_self]
  have hw_8 : cw4 (30) = .inl (cI, 16, .inl (pf)) := by rw [hp5, va_up_ne _ _ (by decide)]; exact p3
  refine z_iload_n C dX3_noPattern_15 0 rfl ?_
  exact z_iret C hr dX3_noPattern_16 (⟨rfl, zRX_pat hX (fun j hj => by rw [hp5, va_up_ne _ _ (by omega)]) ⟨hw_7, Nat.zero_le _, _, hw_8, zIs_nil _⟩, fun j hj => by rw [hp5, va_up_ne _ _ (by omega)]⟩) (Nat.le_of_ble_eq_true rfl) (Nat.le_of_ble_eq_true rfl)

theorem qX3_word_0 : ∀ w ∈ wsX30, w ∈ wsX3_word := by decide +kernel
theorem qX3_word_1 : Cond.fieldLink RX3 28 "PieceText" "written" "LPieceText$Phrases;" ∈ wsX3_word := by decide +kernel
set_option maxHeartbeats 4000000 in
set_option maxRecDepth 100000 in
theorem c_PT_word (l : Launch) (D : va_G) (cI cR cL : ClassId) (B N : Nat) (ad : Nat → Nat) (cw : Nat → va_E) (hl8 : l.stackTraces = false) (hN : 45 < N) {past fut : Nat} {hs : Nat → List Int32} {pat ws dr : List Int32} (hX : zRX cI cR ad cw past fut hs pat ws dr) (x : Int32) : vx_Met l yX3_word wsX3_word ({ frames := 7, cells := 1, slots := 6, locals := 116 } : Room) (va_Pc [.ref (ad (0)), .int (x)] (zI D vwCl (zTy cI cR cL) B N ad cw)) (zQi D vwCl B N ad (fun (v : Int32) (cw' : Nat → va_E) => ∃ q, q < ws.length ∧ x = nI q ∧ ws[q]? = some v ∧ cw' = cw)) (zXC D vwCl B N ad cw (fun E : String => E = xIO ∧ ¬ (∃ q, q < ws.length ∧ x = nI q))) 1 6 (zA B) := by
  obtain ⟨x0, ⟨now, hH⟩, ⟨fr, ht, hfr⟩, ⟨p1, p2, pf, p3, p4⟩, ⟨w1, w2, ⟨wf, w3, w4⟩, sf, w5⟩, ⟨d1, d2, g, d3, d4⟩, nf, x6⟩ := id hX
  obtain ⟨g1, g2, g3, g4, g5, g6⟩ := id hH
  obtain ⟨t1, t2, f, t3, t4⟩ := zHist_now hH
  refine z_ofX (cc := cX3_word) (maxL := 2) (ret := (some .int)) (by decide) rfl (Nat.le_of_ble_eq_true rfl) ?_
  intro p e s m args below meth c C hr h0
  refine z_lv (lv' := [(0, .ref (ad (0))), (1, .int (x))]) [0, 1] rfl ?_
  refine z_aload_n C dX3_word_0 0 rfl ?_
  refine z_iload_n C dX3_word_1 1 rfl ?_
  refine z_xcallv (z_xrunV (As := [.int (x)]) (rest := []) C (c_PT_noWord l D cI cR cL B N ad cw hl8 (by omega) x0 w1 w2 (x)) (cwV 1 C.2.2.2.2.1 gX3_word_X3_refuseNoWord rfl rfl rfl (by decide +kernel) ⟨Nat.le_of_ble_eq_true rfl, Nat.le_of_ble_eq_true rfl⟩) (by omega) x0 rfl rfl rfl rfl (Nat.le_of_ble_eq_true rfl) dX3_word_2 ⟨Nat.le_of_ble_eq_true rfl, Nat.le_of_ble_eq_true rfl⟩) (fun E3 hx4 => ?_) (fun cw1 hp2 => ?_)
  · exact z_xout C h0 (hx4) (Nat.le_of_ble_eq_true rfl) (Nat.le_of_ble_eq_true rfl)
  obtain ⟨⟨q, hq, rfl⟩, hp2c⟩ := hp2
  refine z_cw hp2c ?_
  refine z_aload_n C dX3_word_5 0 rfl ?_
  refine z_get (Cn := RX3) (T := TX3) (NF := 5) (ci := 3) (v := .ref (ad (31))) C qX3_word_0 rfl 2 (by decide) (C.2.2.2.2.1 _ qX3_word_1) (fun _ h9 => h9) dX3_word_6 (0) (by omega) x0 rfl ?_
  refine z_iload_n C dX3_word_9 1 rfl ?_
  refine z_calli (z_runV (As := [.int (nI q)]) (rest := []) C (c_Phr_get l D cI cR cL B N ad cw (by omega) w1 w3 (j := q) (by omega)) (cwV 1 C.2.2.2.2.1 gX3_word_X1_get rfl rfl rfl (by decide +kernel) ⟨Nat.le_of_ble_eq_true rfl, Nat.le_of_ble_eq_true rfl⟩) (by omega) w1 rfl rfl rfl rfl (Nat.le_of_ble_eq_true rfl) dX3_word_10 ⟨Nat.le_of_ble_eq_true rfl, Nat.le_of_ble_eq_true rfl⟩) (fun r5 cw6 hp7 => ?_)
  refine z_cw hp7.2 ?_
  refine z_top hp7.1 ?_
  exact z_xiret C hr dX3_word_13 (⟨q, hq, rfl, w4 q hq, rfl⟩) (Nat.le_of_ble_eq_true rfl) (Nat.le_of_ble_eq_true rfl)

theorem qX3_poke_0 : ∀ w ∈ wsX30, w ∈ wsX3_poke := by decide +kernel
theorem qX3_poke_1 : Cond.fieldLink RX3 28 "PieceText" "written" "LPieceText$Phrases;" ∈ wsX3_poke := by decide +kernel
set_option maxHeartbeats 4000000 in
set_option maxRecDepth 100000 in
theorem c_PT_poke (l : Launch) (D : va_G) (cI cR cL : ClassId) (B N : Nat) (ad : Nat → Nat) (cw : Nat → va_E) (hl8 : l.stackTraces = false) (hN : 45 < N) {past fut : Nat} {hs : Nat → List Int32} {pat ws dr : List Int32} (hX : zRX cI cR ad cw past fut hs pat ws dr) (x y : Int32) : vx_Met l yX3_poke wsX3_poke ({ frames := 7, cells := 1, slots := 6, locals := 116 } : Room) (va_Pc [.ref (ad (0)), .int (x), .int (y)] (zI D vwCl (zTy cI cR cL) B N ad cw)) (zQi D vwCl B N ad (fun (v : Int32) (cw' : Nat → va_E) => ∃ q, q < ws.length ∧ x = nI q ∧ ws[q]? = some v ∧ zRX cI cR ad cw' past fut hs pat (ws.set q y) dr ∧ ∀ j, 37 ≤ j → cw' j = cw j)) (zXC D vwCl B N ad cw (fun E : String => E = xIO ∧ ¬ (∃ q, q < ws.length ∧ x = nI q))) 1 6 (zA B) := by
  obtain ⟨x0, ⟨now, hH⟩, ⟨fr, ht, hfr⟩, ⟨p1, p2, pf, p3, p4⟩, ⟨w1, w2, ⟨wf, w3, w4⟩, sf, w5⟩, ⟨d1, d2, g, d3, d4⟩, nf, x6⟩ := id hX
  obtain ⟨g1, g2, g3, g4, g5, g6⟩ := id hH
  obtain ⟨t1, t2, f, t3, t4⟩ := zHist_now hH
  refine z_ofX (cc := cX3_poke) (maxL := 4) (ret := (some .int)) (by decide) rfl (Nat.le_of_ble_eq_true rfl) ?_
  intro p e s m args below meth c C hr h0
  refine z_lv (lv' := [(0, .ref (ad (0))), (1, .int (x)), (2, .int (y))]) [0, 1, 2] rfl ?_
  refine z_aload_n C dX3_poke_0 0 rfl ?_
  refine z_iload_n C dX3_poke_1 1 rfl ?_
  refine z_xcallv (z_xrunV (As := [.int (x)]) (rest := []) C (c_PT_noWord l D cI cR cL B N ad cw hl8 (by omega) x0 w1 w2 (x)) (cwV 1 C.2.2.2.2.1 gX3_poke_X3_refuseNoWord rfl rfl rfl (by decide +kernel) ⟨Nat.le_of_ble_eq_true rfl, Nat.le_of_ble_eq_true rfl⟩) (by omega) x0 rfl rfl rfl rfl (Nat.le_of_ble_eq_true rfl) dX3_poke_2 ⟨Nat.le_of_ble_eq_true rfl, Nat.le_of_ble_eq_true rfl⟩) (fun E3 hx4 => ?_) (fun cw1 hp2 => ?_)
  · exact z_xout C h0 (hx4) (Nat.le_of_ble_eq_true rfl) (Nat.le_of_ble_eq_true rfl)
  obtain ⟨⟨q, hq, rfl⟩, hp2c⟩ := hp2
  refine z_cw hp2c ?_
  refine z_aload_n C dX3_poke_5 0 rfl ?_
  refine z_get (Cn := RX3) (T := TX3) (NF := 5) (ci := 3) (v := .ref (ad (31))) C qX3_poke_0 rfl 2 (by decide) (C.2.2.2.2.1 _ qX3_poke_1) (fun _ h9 => h9) dX3_poke_6 (0) (by omega) x0 rfl ?_
  refine z_iload_n C dX3_poke_9 1 rfl ?_
  refine z_calli (z_runV (As := [.int (nI q)]) (rest := []) C (c_Phr_get l D cI cR cL B N ad cw (by omega) w1 w3 (j := q) (by omega)) (cwV 1 C.2.2.2.2.1 gX3_poke_X1_get rfl rfl rfl (by decide +kernel) ⟨Nat.le_of_ble_eq_true rfl, Nat.le_of_ble_eq_true rfl⟩) (by omega) w1 rfl rfl rfl rfl (Nat.le_of_ble_eq_true rfl) dX3_poke_10 ⟨Nat.le_of_ble_eq_true rfl, Nat.le_of_ble_eq_true rfl⟩) (fun r5 cw6 hp7 => ?_)
  refine z_cw hp7.2 ?_
  refine z_top hp7.1 ?_
  refine z_istore_n (lv' := [(3, .int (wf q)), (0, .ref (ad (0))), (1, .int (nI q)), (2, .int (y))]) C dX3_poke_13 rfl (by decide) rfl ?_
  refine z_aload_n C dX3_poke_14 1 rfl ?_
  refine z_get (Cn := RX3) (T := TX3) (NF := 5) (ci := 3) (v := .ref (ad (31))) C qX3_poke_0 rfl 2 (by decide) (C.2.2.2.2.1 _ qX3_poke_1) (fun _ h9 => h9) dX3_poke_15 (0) (by omega) x0 rfl ?_
  refine z_iload_n C dX3_poke_18 2 rfl ?_
  refine z_iload_n C dX3_poke_19 3 rfl ?_
  refine z_callv (z_runV (As := [.int (nI q), .int (y)]) (rest := []) C (c_Phr_set l D cI cR cL B N ad cw (by omega) w1 w3 (j := q) (by omega) y) (cwV 2 C.2.2.2.2.1 gX3_poke_X1_set rfl rfl rfl (by decide +kernel) ⟨Nat.le_of_ble_eq_true rfl, Nat.le_of_ble_eq_true rfl⟩) (by omega) w1 rfl rfl rfl rfl (Nat.le_of_ble_eq_true rfl) dX3_poke_20 ⟨Nat.le_of_ble_eq_true rfl, Nat.le_of_ble_eq_true rfl⟩) (fun cw8 hp9 => ?_)
  have hw_10 : cw8 (0) = .inr (3, [.ref (ad (1)), .ref (ad (29)), .ref (ad (31)), .ref (ad (34)), .ref (ad (36))]) := by rw [hp9, va_up_ne _ _ (by decide)]; exact x0
  have hw_11 : cw8 (31) = .inr (1, [.ref (ad (32)), .ref (ad (33)), .int (nI (ws.length))]) := by rw [hp9, va_up_ne _ _ (by decide)]; exact w1
  have hw_12 : cw8 (32) = .inl (cI, 240, .inl (upd wf q y)) := by rw [hp9, va_up_self]
  have hw_13 : cw8 (33) = .inl (cI, 241, .inl (sf)) := by rw [hp9, va_up_ne _ _ (by decide)]; exact w5
  refine z_iload_n C dX3_poke_23 0 rfl ?_
  exact z_xiret C hr dX3_poke_24 (⟨q, hq, rfl, w4 q hq, zRX_words hX (fun j hj => by rw [hp9, va_up_ne _ _ (by omega)]) ⟨by rw [hw_11, List.length_set], by rw [List.length_set]; exact w2, ⟨_, hw_12, zIs_set w4 q y⟩, _, hw_13⟩, fun j hj => by rw [hp9, va_up_ne _ _ (by omega)]⟩) (Nat.le_of_ble_eq_true rfl) (Nat.le_of_ble_eq_true rfl)

theorem qX3_clear_0 : ∀ w ∈ wsX30, w ∈ wsX3_clear := by decide +kernel
theorem qX3_clear_1 : Cond.fieldLink RX3 10 "PieceText" "history" "LPieceText$History;" ∈ wsX3_clear := by decide +kernel
theorem qX3_clear_2 : Cond.fieldLink RX3 21 "PieceText" "sought" "LPieceText$Row;" ∈ wsX3_clear := by decide +kernel
theorem qX3_clear_3 : Cond.fieldLink RX3 28 "PieceText" "written" "LPieceText$Phrases;" ∈ wsX3_clear := by decide +kernel
set_option maxHeartbeats 4000000 in
set_option maxRecDepth 100000 in
theorem c_PT_clear (l : Launch) (D : va_G) (cI cR cL : ClassId) (B N : Nat) (ad : Nat → Nat) (cw : Nat → va_E) (hN : 45 < N) {past fut : Nat} {hs : Nat → List Int32} {pat ws dr : List Int32} (hX : zRX cI cR ad cw past fut hs pat ws dr) : Met l yX3_clear wsX3_clear ({ frames := 2, cells := 0, slots := 0, locals := 40 } : Room) (va_Pc [.ref (ad (0))] (zI D vwCl (zTy cI cR cL) B N ad cw)) (zQv D vwCl B N ad (fun (cw' : Nat → va_E) => zRX cI cR ad cw' 0 0 (fun _ => []) [] [] dr ∧ ∀ j, 37 ≤ j → cw' j = cw j)) 0 0 (zA B) := by
  obtain ⟨x0, ⟨now, hH⟩, ⟨fr, ht, hfr⟩, ⟨p1, p2, pf, p3, p4⟩, ⟨w1, w2, ⟨wf, w3, w4⟩, sf, w5⟩, ⟨d1, d2, g, d3, d4⟩, nf, x6⟩ := id hX
  obtain ⟨g1, g2, g3, g4, g5, g6⟩ := id hH
  obtain ⟨t1, t2, f, t3, t4⟩ := zHist_now hH
  refine z_ofW (cc := cX3_clear) (maxL := 1) (ret := none) (by decide) rfl (Nat.le_of_ble_eq_true rfl) ?_
  intro p e s m args below meth c C hr hnm
  refine z_lv (lv' := [(0, .ref (ad (0)))]) [0] rfl ?_
  refine z_aload_n C dX3_clear_0 0 rfl ?_
  refine z_get (Cn := RX3) (T := TX3) (NF := 5) (ci := 3) (v := .ref (ad (1))) C qX3_clear_0 rfl 0 (by decide) (C.2.2.2.2.1 _ qX3_clear_1) (fun _ h9 => h9) dX3_clear_1 (0) (by omega) x0 rfl ?_
  refine z_callv (z_runV (As := []) (rest := []) C (c_Hist_forget l D cI cR cL B N ad cw (by omega) g3 (by omega) ht hfr g1 (by omega) t1 t3) (cwV 0 C.2.2.2.2.1 gX3_clear_X0_forget rfl rfl rfl (by decide +kernel) ⟨Nat.le_of_ble_eq_true rfl, Nat.le_of_ble_eq_true rfl⟩) (by omega) g3 rfl rfl rfl rfl (Nat.le_of_ble_eq_true rfl) dX3_clear_4 ⟨Nat.le_of_ble_eq_true rfl, Nat.le_of_ble_eq_true rfl⟩) (fun cw1 hp2 => ?_)
  have hw_3 : cw1 (0) = .inr (3, [.ref (ad (1)), .ref (ad (29)), .ref (ad (31)), .ref (ad (34)), .ref (ad (36))]) := by rw [hp2.2.2 (0) (by omega)]; exact x0
  have hw_4 : cw1 (1) = .inr (0, [.ref (ad (2)), .int (nI now), .int (nI 0), .int (nI 0)]) := hp2.1
  have hw_5 : cw1 (2) = .inl (cR, 13, .inr (.inr (.inr (.inr (fr))))) := by rw [hp2.2.2 (2) (by omega)]; exact ht
  have hw_6 : cw1 (3 + 2 * now) = .inr (2, [.ref (ad (4 + 2 * now)), .int (nI 0)]) := hp2.2.1
  have hw_7 : cw1 (29) = .inr (2, [.ref (ad (30)), .int (nI (pat.length))]) := by rw [hp2.2.2 (29) (by omega)]; exact p1
  have hw_8 : cw1 (30) = .inl (cI, 16, .inl (pf)) := by rw [hp2.2.2 (30) (by omega)]; exact p3
  have hw_9 : cw1 (31) = .inr (1, [.ref (ad (32)), .ref (ad (33)), .int (nI (ws.length))]) := by rw [hp2.2.2 (31) (by omega)]; exact w1
  have hw_10 : cw1 (32) = .inl (cI, 240, .inl (wf)) := by rw [hp2.2.2 (32) (by omega)]; exact w3
  have hw_11 : cw1 (33) = .inl (cI, 241, .inl (sf)) := by rw [hp2.2.2 (33) (by omega)]; exact w5
  have hX1 := zRX_hist hX (fun j hj => hp2.2.2 j (by omega)) (zHist_forget hH hp2.1 hp2.2.1 hp2.2.2)
  refine z_aload_n C dX3_clear_7 0 rfl ?_
  refine z_get (Cn := RX3) (T := TX3) (NF := 5) (ci := 3) (v := .ref (ad (29))) C qX3_clear_0 rfl 1 (by decide) (C.2.2.2.2.1 _ qX3_clear_2) (fun _ h9 => h9) dX3_clear_8 (0) (by omega) hw_3 rfl ?_
  refine z_callv (z_runV (As := []) (rest := []) C (c_Row_empty l D cI cR cL B N ad cw1 (by omega) hw_7) (cwV 0 C.2.2.2.2.1 gX3_clear_X2_empty rfl rfl rfl (by decide +kernel) ⟨Nat.le_of_ble_eq_true rfl, Nat.le_of_ble_eq_true rfl⟩) (by omega) hw_7 rfl rfl rfl rfl (Nat.le_of_ble_eq_true rfl) dX3_clear_11 ⟨Nat.le_of_ble_eq_true rfl, Nat.le_of_ble_eq_true rfl⟩) (fun cw12 hp13 => ?_)
  have hw_14 : cw12 (0) = .inr (3, [.ref (ad (1)), .ref (ad (29)), .ref (ad (31)), .ref (ad (34)), .ref (ad (36))]) := by rw [hp13, va_up_ne _ _ (by decide)]; exact hw_3
  have hw_15 : cw12 (1) = .inr (0, [.ref (ad (2)), .int (nI now), .int (nI 0), .int (nI 0)]) := by rw [hp13, va_up_ne _ _ (by decide)]; exact hw_4
  have hw_16 : cw12 (2) = .inl (cR, 13, .inr (.inr (.inr (.inr (fr))))) := by rw [hp13, va_up_ne _ _ (by decide)]; exact hw_5
  have hw_17 : cw12 (3 + 2 * now) = .inr (2, [.ref (ad (4 + 2 * now)), .int (nI 0)]) := by rw [hp13, va_up_ne _ _ (by omega)]; exact hw_6
  have hw_18 : cw12 (29) = .inr (2, [.ref (ad (30)), .int (nI 0)]) := by rw [hp13, va_up_self]
  have hw_19 : cw12 (30) = .inl (cI, 16, .inl (pf)) := by rw [hp13, va_up_ne _ _ (by decide)]; exact hw_8
  have hw_20 : cw12 (31) = .inr (1, [.ref (ad (32)), .ref (ad (33)), .int (nI (ws.length))]) := by rw [hp13, va_up_ne _ _ (by decide)]; exact hw_9
  have hw_21 : cw12 (32) = .inl (cI, 240, .inl (wf)) := by rw [hp13, va_up_ne _ _ (by decide)]; exact hw_10
  have hw_22 : cw12 (33) = .inl (cI, 241, .inl (sf)) := by rw [hp13, va_up_ne _ _ (by decide)]; exact hw_11
  have hX2 := zRX_pat (pat' := []) hX1 (fun j hj => by rw [hp13, va_up_ne _ _ (by omega)]) ⟨hw_18, Nat.zero_le _, _, hw_19, zIs_nil _⟩
  refine z_aload_n C dX3_clear_14 0 rfl ?_
  refine z_get (Cn := RX3) (T := TX3) (NF := 5) (ci := 3) (v := .ref (ad (31))) C qX3_clear_0 rfl 2 (by decide) (C.2.2.2.2.1 _ qX3_clear_3) (fun _ h9 => h9) dX3_clear_15 (0) (by omega) hw_14 rfl ?_
  refine z_callv (z_runV (As := []) (rest := []) C (c_Phr_forget l D cI cR cL B N ad cw12 (by omega) hw_20) (cwV 0 C.2.2.2.2.1 gX3_clear_X1_forget rfl rfl rfl (by decide +kernel) ⟨Nat.le_of_ble_eq_true rfl, Nat.le_of_ble_eq_true rfl⟩) (by omega) hw_20 rfl rfl rfl rfl (Nat.le_of_ble_eq_true rfl) dX3_clear_18 ⟨Nat.le_of_ble_eq_true rfl, Nat.le_of_ble_eq_true rfl⟩) (fun cw23 hp24 => ?_)
  have hw_25 : cw23 (0) = .inr (3, [.ref (ad (1)), .ref (ad (29)), .ref (ad (31)), .ref (ad (34)), .ref (ad (36))]) := by rw [hp24, va_up_ne _ _ (by decide)]; exact hw_14
  have hw_26 : cw23 (1) = .inr (0, [.ref (ad (2)), .int (nI now), .int (nI 0), .int (nI 0)]) := by rw [hp24, va_up_ne _ _ (by decide)]; exact hw_15
  have hw_27 : cw23 (2) = .inl (cR, 13, .inr (.inr (.inr (.inr (fr))))) := by rw [hp24, va_up_ne _ _ (by decide)]; exact hw_16
  have hw_28 : cw23 (3 + 2 * now) = .inr (2, [.ref (ad (4 + 2 * now)), .int (nI 0)]) := by rw [hp24, va_up_ne _ _ (by omega)]; exact hw_17
  have hw_29 : cw23 (29) = .inr (2, [.ref (ad (30)), .int (nI 0)]) := by rw [hp24, va_up_ne _ _ (by decide)]; exact hw_18
  have hw_30 : cw23 (30) = .inl (cI, 16, .inl (pf)) := by rw [hp24, va_up_ne _ _ (by decide)]; exact hw_19
  have hw_31 : cw23 (31) = .inr (1, [.ref (ad (32)), .ref (ad (33)), .int (nI 0)]) := by rw [hp24, va_up_self]
  have hw_32 : cw23 (32) = .inl (cI, 240, .inl (wf)) := by rw [hp24, va_up_ne _ _ (by decide)]; exact hw_21
  have hw_33 : cw23 (33) = .inl (cI, 241, .inl (sf)) := by rw [hp24, va_up_ne _ _ (by decide)]; exact hw_22
  exact z_vret C hr dX3_clear_21 (⟨zRX_words (ws' := []) hX2 (fun j hj => by rw [hp24, va_up_ne _ _ (by omega)]) ⟨hw_31, Nat.zero_le _, ⟨_, hw_32, zIs_nil _⟩, _, hw_33⟩, fun j hj => by rw [hp24, va_up_ne _ _ (by omega)]; rw [hp13, va_up_ne _ _ (by omega)]; rw [hp2.2.2 j (by omega)]⟩) (Nat.le_of_ble_eq_true rfl) (Nat.le_of_ble_eq_true rfl)
end
section
def lOcc (xs pat : List Int32) (q : Nat) : Prop := zPart xs q (q + pat.length) = pat
theorem lOcc_iff {f g : Nat → Int32} {xs pat : List Int32} (h1 : zIs f xs) (h2 : zIs g pat) {q : Nat} (hq : q ≤ xs.length) : zOcc f g xs.length pat.length q ↔ lOcc xs pat q := by
  unfold lOcc
  constructor
  · rintro ⟨hle, he⟩
    apply List.ext_getElem?
    intro i
    by_cases hi : i < pat.length
    · rw [zPart_get (by omega), h1 _ (by omega), h2 i hi, he i hi]
    · rw [List.getElem?_eq_none (by rw [zPart_len hle]; omega), List.getElem?_eq_none (by omega)]
  · intro he
    have hl : (zPart xs q (q + pat.length)).length = pat.length := by rw [he]
    have hle : q + pat.length ≤ xs.length := by
      unfold zPart at hl
      rw [List.length_drop, List.length_take] at hl
      omega
    refine ⟨hle, fun i hi => ?_⟩
    have h3 : (zPart xs q (q + pat.length))[i]? = pat[i]? := by rw [he]
    rw [zPart_get (by omega), h1 _ (by omega), h2 i hi] at h3
    exact Option.some.inj h3
theorem lOcc_le {xs pat : List Int32} {q : Nat} (h : lOcc xs pat q) (hq : q ≤ xs.length) : q + pat.length ≤ xs.length := by
  have hl : (zPart xs q (q + pat.length)).length = pat.length := by rw [h]
  unfold zPart at hl
  rw [List.length_drop, List.length_take] at hl
  omega
def sFind (xs pat : List Int32) (q : Nat) (v : Int32) : Prop :=
  (∃ k, q ≤ k ∧ k ≤ xs.length ∧ lOcc xs pat k ∧ (∀ j, q ≤ j → j < k → ¬ lOcc xs pat j) ∧ v = nI k) ∨ ((∀ j, q ≤ j → j ≤ xs.length → ¬ lOcc xs pat j) ∧ v = -1)
theorem sFind_one {xs pat : List Int32} {q : Nat} {v u : Int32} (h : sFind xs pat q v) (h2 : sFind xs pat q u) : v = u := by
  rcases h with ⟨k, a1, a2, a3, a4, a5⟩ | ⟨a1, a2⟩
  · rcases h2 with ⟨j, b1, b2, b3, b4, b5⟩ | ⟨b1, b2⟩
    · have : k = j := by
        rcases Nat.lt_trichotomy k j with h | h | h
        · exact absurd a3 (b4 k a1 h)
        · exact h
        · exact absurd b3 (a4 j b1 h)
      rw [a5, b5, this]
    · exact absurd a3 (b1 k a1 a2)
  · rcases h2 with ⟨j, b1, b2, b3, b4, b5⟩ | ⟨b1, b2⟩
    · exact absurd b3 (a1 j b1 b2)
    · rw [a2, b2]
theorem qX3_find_0 : ∀ w ∈ wsX30, w ∈ wsX3_find := by decide +kernel
theorem qX3_find_1 : Cond.fieldLink RX3 10 "PieceText" "history" "LPieceText$History;" ∈ wsX3_find := by decide +kernel
theorem qX3_find_2 : Cond.fieldLink RX3 21 "PieceText" "sought" "LPieceText$Row;" ∈ wsX3_find := by decide +kernel
set_option maxHeartbeats 4000000 in
set_option maxRecDepth 100000 in
theorem c_PT_find (l : Launch) (D : va_G) (cI cR cL : ClassId) (B N : Nat) (ad : Nat → Nat) (cw : Nat → va_E) (hl8 : l.stackTraces = false) (hN : 45 < N) {past fut : Nat} {hs : Nat → List Int32} {pat ws dr : List Int32} (hX : zRX cI cR ad cw past fut hs pat ws dr) (x : Int32) : vx_Met l yX3_find wsX3_find ({ frames := 7, cells := 1, slots := 6, locals := 116 } : Room) (va_Pc [.ref (ad (0)), .int (x)] (zI D vwCl (zTy cI cR cL) B N ad cw)) (zQi D vwCl B N ad (fun (v : Int32) (cw' : Nat → va_E) => ∃ q, q ≤ (hs past).length ∧ x = nI q ∧ sFind (hs past) pat q v ∧ cw' = cw)) (zXC D vwCl B N ad cw (fun E : String => E = xIO ∧ ¬ (∃ q, q ≤ (hs past).length ∧ x = nI q))) 1 6 (zA B) := by
  obtain ⟨x0, ⟨now, hH⟩, ⟨fr, ht, hfr⟩, ⟨p1, p2, pf, p3, p4⟩, ⟨w1, w2, ⟨wf, w3, w4⟩, sf, w5⟩, ⟨d1, d2, g, d3, d4⟩, nf, x6⟩ := id hX
  obtain ⟨g1, g2, g3, g4, g5, g6⟩ := id hH
  obtain ⟨t1, t2, f, t3, t4⟩ := zHist_now hH
  refine z_ofX (cc := cX3_find) (maxL := 4) (ret := (some .int)) (by decide) rfl (Nat.le_of_ble_eq_true rfl) ?_
  intro p e s m args below meth c C hr h0
  refine z_lv (lv' := [(0, .ref (ad (0))), (1, .int (x))]) [0, 1] rfl ?_
  refine z_aload_n C dX3_find_0 0 rfl ?_
  refine z_get (Cn := RX3) (T := TX3) (NF := 5) (ci := 3) (v := .ref (ad (1))) C qX3_find_0 rfl 0 (by decide) (C.2.2.2.2.1 _ qX3_find_1) (fun _ h9 => h9) dX3_find_1 (0) (by omega) x0 rfl ?_
  refine z_callr (z_runV (As := []) (rest := []) C (c_Hist_present l D cI cR cL B N ad cw (by omega) g3 (by omega) ht hfr g1) (cwV 0 C.2.2.2.2.1 gX3_find_X0_present rfl rfl rfl (by decide +kernel) ⟨Nat.le_of_ble_eq_true rfl, Nat.le_of_ble_eq_true rfl⟩) (by omega) g3 rfl rfl rfl rfl (Nat.le_of_ble_eq_true rfl) dX3_find_4 ⟨Nat.le_of_ble_eq_true rfl, Nat.le_of_ble_eq_true rfl⟩) (fun r1 cw2 hp3 => ?_)
  obtain ⟨rfl, hp3c⟩ := hp3
  refine z_cw hp3c ?_
  refine z_astore_n (lv' := [(2, .ref (ad (3 + 2 * now))), (0, .ref (ad (0))), (1, .int (x))]) C dX3_find_7 rfl (by decide) rfl ?_
  refine z_iload_n C dX3_find_8 2 rfl ?_
  refine z_aload_n C dX3_find_9 0 rfl ?_
  refine z_xcallv (z_xrunS (As := [.int (x), .ref (ad (3 + 2 * now))]) (rest := []) C (c_PT_noPlace l D cI cR cL B N ad cw hl8 (by omega) t1 (by omega) (x)) (va_cwS 2 C.2.2.2.2.1 gX3_find_X3_refuseNoPlace rfl rfl rfl (by decide +kernel) ⟨Nat.le_of_ble_eq_true rfl, Nat.le_of_ble_eq_true rfl⟩) rfl rfl (Nat.le_of_ble_eq_true rfl) dX3_find_10 ⟨Nat.le_of_ble_eq_true rfl, Nat.le_of_ble_eq_true rfl⟩) (fun E6 hx7 => ?_) (fun cw4 hp5 => ?_)
  · exact z_xout C h0 (hx7) (Nat.le_of_ble_eq_true rfl) (Nat.le_of_ble_eq_true rfl)
  obtain ⟨⟨q0, hq0, rfl⟩, hp5c⟩ := hp5
  refine z_cw hp5c ?_
  refine z_iload_n C dX3_find_13 2 rfl ?_
  refine z_istore_n (lv' := [(3, .int (nI q0)), (2, .ref (ad (3 + 2 * now))), (0, .ref (ad (0))), (1, .int (nI q0))]) C dX3_find_14 rfl (by decide) rfl ?_
  refine z_lv (lv' := [(3, .int (nI q0)), (0, .ref (ad (0))), (1, .int (nI q0)), (2, .ref (ad (3 + 2 * now)))]) [0, 2, 3, 1] rfl ?_
  suffices loop : ∀ (t i : Nat), (hs past).length + 1 = i + t → q0 ≤ i → (∀ j, q0 ≤ j → j < i → ¬ lOcc (hs past) pat j) → zG p l e (headSpec wsX3_find ({ frames := 7, cells := 1, slots := 6, locals := 116 } : Room)).room s m args below meth c (vx_MQ below (zQi D vwCl B N ad (fun (v : Int32) (cw' : Nat → va_E) => ∃ q, q ≤ (hs past).length ∧ (nI q0) = nI q ∧ sFind (hs past) pat q v ∧ cw' = cw)) (zXC D vwCl B N ad cw (fun E : String => E = xIO ∧ ¬ (∃ q, q ≤ (hs past).length ∧ (nI q0) = nI q))) args s 1 6 (zA B)) D vwCl B 4 N ad cw (0 + 1) (0 + 6) [(3, .int (nI i)), (0, .ref (ad (0))), (1, .int (nI q0)), (2, .ref (ad (3 + 2 * now)))] 15 [] from loop ((hs past).length + 1 - q0) q0 (by omega) (Nat.le_refl _) (fun j h1 h2 => absurd h1 (by omega))
  intro t
  induction t with
  | zero =>
    intro i hi hqi hpre
    refine z_iload_n C dX3_find_15 0 rfl ?_
    refine z_aload_n C dX3_find_16 3 rfl ?_
    refine z_calli (z_runV (As := []) (rest := [.int (nI i)]) C (c_Row_size l D cI cR cL B N ad cw (by omega) t1) (cwV 0 C.2.2.2.2.1 gX3_find_X2_size rfl rfl rfl (by decide +kernel) ⟨Nat.le_of_ble_eq_true rfl, Nat.le_of_ble_eq_true rfl⟩) (by omega) t1 rfl rfl rfl rfl (Nat.le_of_ble_eq_true rfl) dX3_find_17 ⟨Nat.le_of_ble_eq_true rfl, Nat.le_of_ble_eq_true rfl⟩) (fun r8 cw9 hp10 => ?_)
    refine z_cw hp10.2 ?_
    refine z_top hp10.1 ?_
    refine z_icmp_gt (tgt := 43) C dX3_find_20 (by decide) (fun c11 => ?_) (fun c11 => ?_)
    · skip
      refine z_iconst (v := -1) C dX3_find_43 (by decide) ?_
      exact z_xiret C hr dX3_find_44 (⟨q0, hq0, rfl, Or.inr ⟨fun j h1 h2 => hpre j h1 (by omega), rfl⟩, rfl⟩) (Nat.le_of_ble_eq_true rfl) (Nat.le_of_ble_eq_true rfl)
    · skip
      exact absurd (nI_lt (by omega) (by omega)) c11
  | succ t ih =>
    intro i hi hqi hpre
    refine z_iload_n C dX3_find_15 0 rfl ?_
    refine z_aload_n C dX3_find_16 3 rfl ?_
    refine z_calli (z_runV (As := []) (rest := [.int (nI i)]) C (c_Row_size l D cI cR cL B N ad cw (by omega) t1) (cwV 0 C.2.2.2.2.1 gX3_find_X2_size rfl rfl rfl (by decide +kernel) ⟨Nat.le_of_ble_eq_true rfl, Nat.le_of_ble_eq_true rfl⟩) (by omega) t1 rfl rfl rfl rfl (Nat.le_of_ble_eq_true rfl) dX3_find_17 ⟨Nat.le_of_ble_eq_true rfl, Nat.le_of_ble_eq_true rfl⟩) (fun r12 cw13 hp14 => ?_)
    refine z_cw hp14.2 ?_
    refine z_top hp14.1 ?_
    refine z_icmp_gt (tgt := 43) C dX3_find_20 (by decide) (fun c15 => ?_) (fun c15 => ?_)
    · skip
      exact absurd ((nI_ltI (by omega) (by omega)).mp c15) (by omega)
    · skip
      refine z_aload_n C dX3_find_23 3 rfl ?_
      refine z_iload_n C dX3_find_24 0 rfl ?_
      refine z_aload_n C dX3_find_25 1 rfl ?_
      refine z_get (Cn := RX3) (T := TX3) (NF := 5) (ci := 3) (v := .ref (ad (29))) C qX3_find_0 rfl 1 (by decide) (C.2.2.2.2.1 _ qX3_find_2) (fun _ h9 => h9) dX3_find_26 (0) (by omega) x0 rfl ?_
      refine z_calli (z_runV (As := [.int (nI i), .ref (ad (29))]) (rest := []) C (c_Row_hasAt l D cI cR cL B N ad cw (by omega) t1 (by decide) (by omega) t3 (by decide) (by omega) p1 (by omega) p3 (q := i) (by omega) (t2) (p2) (by decide)) (cwV 2 C.2.2.2.2.1 gX3_find_X2_hasAt rfl rfl rfl (by decide +kernel) ⟨Nat.le_of_ble_eq_true rfl, Nat.le_of_ble_eq_true rfl⟩) (by omega) t1 rfl rfl rfl rfl (Nat.le_of_ble_eq_true rfl) dX3_find_29 ⟨Nat.le_of_ble_eq_true rfl, Nat.le_of_ble_eq_true rfl⟩) (fun r16 cw17 hp18 => ?_)
      refine z_cw hp18.2 ?_
      refine z_if_eq (tgt := 37) C dX3_find_32 (by decide) (fun c19 => ?_) (fun c19 => ?_)
      · skip
        have hno : ¬ lOcc (hs past) pat i := by rcases hp18.1 with ⟨h1, h2⟩ | ⟨h1, h2⟩; exact absurd (h1.symm.trans c19) (by decide); exact fun h3 => h2 ((lOcc_iff t4 p4 (by omega)).mpr h3)
        refine z_iinc (x := nI (i + 1)) (lv' := [(3, .int (nI (i + 1))), (0, .ref (ad (0))), (1, .int (nI q0)), (2, .ref (ad (3 + 2 * now)))]) C dX3_find_37 0 rfl (nI_1 i) (by decide) rfl ?_
        refine z_goto (tgt := 15) C dX3_find_40 (by decide) ?_
        refine z_lv (lv' := [(3, .int (nI (i + 1))), (0, .ref (ad (0))), (1, .int (nI q0)), (2, .ref (ad (3 + 2 * now)))]) [0, 1, 2, 3] rfl ?_
        exact ih (i + 1) (by omega) (by omega) (fun j h1 h2 => by rcases Nat.lt_succ_iff_lt_or_eq.mp h2 with h | h; exact hpre j h1 h; rw [h]; exact hno)
      · skip
        have hyes : lOcc (hs past) pat i := by rcases hp18.1 with ⟨h1, h2⟩ | ⟨h1, h2⟩; exact (lOcc_iff t4 p4 (by omega)).mp h2; exact absurd h1 c19
        refine z_iload_n C dX3_find_35 0 rfl ?_
        exact z_xiret C hr dX3_find_36 (⟨q0, hq0, rfl, Or.inl ⟨i, hqi, by omega, hyes, hpre, rfl⟩, rfl⟩) (Nat.le_of_ble_eq_true rfl) (Nat.le_of_ble_eq_true rfl)

def sRep (xs pat : List Int32) (x : Int32) : Nat → Nat → List Int32 → Nat → List Int32 × Nat
  | 0, _, o, t => (o, t)
  | n + 1, q, o, t => if xs.length ≤ q then (o, t) else if zPart xs q (q + pat.length) = pat then sRep xs pat x n (q + pat.length) (o ++ [x]) (t + 1) else sRep xs pat x n (q + 1) (o ++ [xs.getD q 0]) t
theorem sRep_end {xs pat : List Int32} {x : Int32} {n q : Nat} {o : List Int32} {t : Nat} (h : xs.length ≤ q) : sRep xs pat x n q o t = (o, t) := by
  cases n with
  | zero => rfl
  | succ n => unfold sRep; rw [if_pos h]
theorem sRep_yes {xs pat : List Int32} {x : Int32} {n q : Nat} {o : List Int32} {t : Nat} (h : q < xs.length) (h2 : lOcc xs pat q) : sRep xs pat x (n + 1) q o t = sRep xs pat x n (q + pat.length) (o ++ [x]) (t + 1) := by
  rw [sRep, if_neg (by omega), if_pos (show zPart xs q (q + pat.length) = pat from h2)]
theorem sRep_no {xs pat : List Int32} {x : Int32} {n q : Nat} {o : List Int32} {t : Nat} (h : q < xs.length) (h2 : ¬ lOcc xs pat q) : sRep xs pat x (n + 1) q o t = sRep xs pat x n (q + 1) (o ++ [xs.getD q 0]) t := by
  rw [sRep, if_neg (by omega), if_neg (show ¬ zPart xs q (q + pat.length) = pat from h2)]
theorem zIs_getD {f : Nat → Int32} {xs : List Int32} (h : zIs f xs) {i : Nat} (hi : i < xs.length) : xs.getD i 0 = f i := by
  rw [List.getD_eq_getElem?_getD, h i hi]
  rfl
theorem qX3_draftReplaced_0 : ∀ w ∈ wsX30, w ∈ wsX3_draftReplaced := by decide +kernel
theorem qX3_draftReplaced_1 : Cond.fieldLink RX3 10 "PieceText" "history" "LPieceText$History;" ∈ wsX3_draftReplaced := by decide +kernel
theorem qX3_draftReplaced_2 : Cond.fieldLink RX3 32 "PieceText" "draft" "LPieceText$Row;" ∈ wsX3_draftReplaced := by decide +kernel
theorem qX3_draftReplaced_3 : Cond.fieldLink RX3 21 "PieceText" "sought" "LPieceText$Row;" ∈ wsX3_draftReplaced := by decide +kernel
set_option maxHeartbeats 4000000 in
set_option maxRecDepth 100000 in
theorem c_PT_draftReplaced (l : Launch) (D : va_G) (cI cR cL : ClassId) (B N : Nat) (ad : Nat → Nat) (cw : Nat → va_E) (hN : 45 < N) {past fut : Nat} {hs : Nat → List Int32} {pat ws dr : List Int32} (hX : zRX cI cR ad cw past fut hs pat ws dr) (hp0 : 0 < pat.length) (x : Int32) (hx : ∃ q, q < 256 ∧ x = nI q) : Met l yX3_draftReplaced wsX3_draftReplaced ({ frames := 1, cells := 0, slots := 0, locals := 23 } : Room) (va_Pc [.ref (ad (0)), .int (x)] (zI D vwCl (zTy cI cR cL) B N ad cw)) (zQi D vwCl B N ad (fun (v : Int32) (cw' : Nat → va_E) => v = nI (sRep (hs past) pat x (hs past).length 0 [] 0).2 ∧ zRow cI ad cw' 34 35 240 (sRep (hs past) pat x (hs past).length 0 [] 0).1 ∧ zCh (sRep (hs past) pat x (hs past).length 0 [] 0).1 ∧ ∀ j, (j ≠ 34 ∧ j ≠ 35) → cw' j = cw j)) 0 0 (zA B) := by
  obtain ⟨x0, ⟨now, hH⟩, ⟨fr, ht, hfr⟩, ⟨p1, p2, pf, p3, p4⟩, ⟨w1, w2, ⟨wf, w3, w4⟩, sf, w5⟩, ⟨d1, d2, g, d3, d4⟩, nf, x6⟩ := id hX
  obtain ⟨g1, g2, g3, g4, g5, g6⟩ := id hH
  obtain ⟨t1, t2, f, t3, t4⟩ := zHist_now hH
  refine z_ofW (cc := cX3_draftReplaced) (maxL := 6) (ret := (some .int)) (by decide) rfl (Nat.le_of_ble_eq_true rfl) ?_
  intro p e s m args below meth c C hr hnm
  refine z_lv (lv' := [(0, .ref (ad (0))), (1, .int (x))]) [0, 1] rfl ?_
  refine z_aload_n C dX3_draftReplaced_0 0 rfl ?_
  refine z_get (Cn := RX3) (T := TX3) (NF := 5) (ci := 3) (v := .ref (ad (1))) C qX3_draftReplaced_0 rfl 0 (by decide) (C.2.2.2.2.1 _ qX3_draftReplaced_1) (fun _ h9 => h9) dX3_draftReplaced_1 (0) (by omega) x0 rfl ?_
  refine z_callr (z_runV (As := []) (rest := []) C (c_Hist_present l D cI cR cL B N ad cw (by omega) g3 (by omega) ht hfr g1) (cwV 0 C.2.2.2.2.1 gX3_draftReplaced_X0_present rfl rfl rfl (by decide +kernel) ⟨Nat.le_of_ble_eq_true rfl, Nat.le_of_ble_eq_true rfl⟩) (by omega) g3 rfl rfl rfl rfl (Nat.le_of_ble_eq_true rfl) dX3_draftReplaced_4 ⟨Nat.le_of_ble_eq_true rfl, Nat.le_of_ble_eq_true rfl⟩) (fun r1 cw2 hp3 => ?_)
  obtain ⟨rfl, hp3c⟩ := hp3
  refine z_cw hp3c ?_
  refine z_astore_n (lv' := [(2, .ref (ad (3 + 2 * now))), (0, .ref (ad (0))), (1, .int (x))]) C dX3_draftReplaced_7 rfl (by decide) rfl ?_
  refine z_aload_n C dX3_draftReplaced_8 1 rfl ?_
  refine z_get (Cn := RX3) (T := TX3) (NF := 5) (ci := 3) (v := .ref (ad (34))) C qX3_draftReplaced_0 rfl 3 (by decide) (C.2.2.2.2.1 _ qX3_draftReplaced_2) (fun _ h9 => h9) dX3_draftReplaced_9 (0) (by omega) x0 rfl ?_
  refine z_callv (z_runV (As := []) (rest := []) C (c_Row_empty l D cI cR cL B N ad cw (by omega) d1) (cwV 0 C.2.2.2.2.1 gX3_draftReplaced_X2_empty rfl rfl rfl (by decide +kernel) ⟨Nat.le_of_ble_eq_true rfl, Nat.le_of_ble_eq_true rfl⟩) (by omega) d1 rfl rfl rfl rfl (Nat.le_of_ble_eq_true rfl) dX3_draftReplaced_12 ⟨Nat.le_of_ble_eq_true rfl, Nat.le_of_ble_eq_true rfl⟩) (fun cw4 hp5 => ?_)
  have hw_6 : cw4 (0) = .inr (3, [.ref (ad (1)), .ref (ad (29)), .ref (ad (31)), .ref (ad (34)), .ref (ad (36))]) := by rw [hp5, va_up_ne _ _ (by decide)]; exact x0
  have hw_7 : cw4 (1) = .inr (0, [.ref (ad (2)), .int (nI now), .int (nI past), .int (nI fut)]) := by rw [hp5, va_up_ne _ _ (by decide)]; exact g3
  have hw_8 : cw4 (2) = .inl (cR, 13, .inr (.inr (.inr (.inr (fr))))) := by rw [hp5, va_up_ne _ _ (by decide)]; exact ht
  have hw_9 : cw4 (3 + 2 * now) = .inr (2, [.ref (ad (4 + 2 * now)), .int (nI ((hs past).length))]) := by rw [hp5, va_up_ne _ _ (by omega)]; exact t1
  have hw_10 : cw4 (4 + 2 * now) = .inl (cI, 240, .inl (f)) := by rw [hp5, va_up_ne _ _ (by omega)]; exact t3
  have hw_11 : cw4 (29) = .inr (2, [.ref (ad (30)), .int (nI (pat.length))]) := by rw [hp5, va_up_ne _ _ (by decide)]; exact p1
  have hw_12 : cw4 (30) = .inl (cI, 16, .inl (pf)) := by rw [hp5, va_up_ne _ _ (by decide)]; exact p3
  have hw_13 : cw4 (34) = .inr (2, [.ref (ad (35)), .int (nI 0)]) := by rw [hp5, va_up_self]
  have hw_14 : cw4 (35) = .inl (cI, 240, .inl (g)) := by rw [hp5, va_up_ne _ _ (by decide)]; exact d3
  refine z_iconst (v := nI 0) C dX3_draftReplaced_15 (by decide) ?_
  refine z_istore_n (lv' := [(3, .int (nI 0)), (2, .ref (ad (3 + 2 * now))), (0, .ref (ad (0))), (1, .int (x))]) C dX3_draftReplaced_16 rfl (by decide) rfl ?_
  refine z_iconst (v := nI 0) C dX3_draftReplaced_17 (by decide) ?_
  refine z_istore (lv' := [(4, .int (nI 0)), (3, .int (nI 0)), (2, .ref (ad (3 + 2 * now))), (0, .ref (ad (0))), (1, .int (x))]) C dX3_draftReplaced_18 (by decide) rfl ?_
  refine z_iconst (v := nI 0) C dX3_draftReplaced_20 (by decide) ?_
  refine z_istore (lv' := [(5, .int (nI 0)), (4, .int (nI 0)), (3, .int (nI 0)), (2, .ref (ad (3 + 2 * now))), (0, .ref (ad (0))), (1, .int (x))]) C dX3_draftReplaced_21 (by decide) rfl ?_
  refine z_lv (lv' := [(5, .int (nI 0)), (4, .int (nI 0)), (3, .int (nI 0)), (0, .ref (ad (0))), (1, .int (x)), (2, .ref (ad (3 + 2 * now)))]) [0, 1, 2, 4, 5, 3] rfl ?_
  suffices loop : ∀ (mm i b t : Nat) (o : List Int32) (cwk : Nat → va_E), (hs past).length = i + mm → b ≤ (hs past).length → o.length ≤ i → t ≤ i → zCh o → (∃ n, (hs past).length ≤ n + max i b ∧ sRep (hs past) pat x n (max i b) o t = sRep (hs past) pat x (hs past).length 0 [] 0) → zRow cI ad cwk 34 35 240 o → (∀ j, (j ≠ 34 ∧ j ≠ 35) → cwk j = cw j) → zG p l e (headSpec wsX3_draftReplaced ({ frames := 1, cells := 0, slots := 0, locals := 23 } : Room)).room s m args below meth c (MQ below (zQi D vwCl B N ad (fun (v : Int32) (cw' : Nat → va_E) => v = nI (sRep (hs past) pat x (hs past).length 0 [] 0).2 ∧ zRow cI ad cw' 34 35 240 (sRep (hs past) pat x (hs past).length 0 [] 0).1 ∧ zCh (sRep (hs past) pat x (hs past).length 0 [] 0).1 ∧ ∀ j, (j ≠ 34 ∧ j ≠ 35) → cw' j = cw j)) args s 0 0 (zA B)) D vwCl B 6 N ad cwk 0 0 [(5, .int (nI i)), (4, .int (nI b)), (3, .int (nI t)), (0, .ref (ad (0))), (1, .int (x)), (2, .ref (ad (3 + 2 * now)))] 23 [] from loop (hs past).length 0 0 0 [] cw4 (by omega) (Nat.zero_le _) (Nat.le_refl _) (Nat.le_refl _) zCh_nil ⟨(hs past).length, by omega, rfl⟩ ⟨hw_13, Nat.zero_le _, _, hw_14, zIs_nil _⟩ (fun j hj => by rw [hp5, va_up_ne _ _ (by omega)])
  intro mm
  induction mm with
  | zero =>
    intro i b t o cwk hi hb ho ht2 hch hrep hrow hfrm
    obtain ⟨r1, r2, h8, r3, r4⟩ := id hrow
    have hk_15 : cwk (0) = .inr (3, [.ref (ad (1)), .ref (ad (29)), .ref (ad (31)), .ref (ad (34)), .ref (ad (36))]) := (hfrm (0) (by omega)).trans x0
    have hk_16 : cwk (1) = .inr (0, [.ref (ad (2)), .int (nI now), .int (nI past), .int (nI fut)]) := (hfrm (1) (by omega)).trans g3
    have hk_17 : cwk (2) = .inl (cR, 13, .inr (.inr (.inr (.inr (fr))))) := (hfrm (2) (by omega)).trans ht
    have hk_18 : cwk (3 + 2 * now) = .inr (2, [.ref (ad (4 + 2 * now)), .int (nI ((hs past).length))]) := (hfrm (3 + 2 * now) (by omega)).trans t1
    have hk_19 : cwk (4 + 2 * now) = .inl (cI, 240, .inl (f)) := (hfrm (4 + 2 * now) (by omega)).trans t3
    have hk_20 : cwk (29) = .inr (2, [.ref (ad (30)), .int (nI (pat.length))]) := (hfrm (29) (by omega)).trans p1
    have hk_21 : cwk (30) = .inl (cI, 16, .inl (pf)) := (hfrm (30) (by omega)).trans p3
    refine z_iload C dX3_draftReplaced_23 0 rfl ?_
    refine z_aload_n C dX3_draftReplaced_25 5 rfl ?_
    refine z_calli (z_runV (As := []) (rest := [.int (nI i)]) C (c_Row_size l D cI cR cL B N ad cwk (by omega) hk_18) (cwV 0 C.2.2.2.2.1 gX3_draftReplaced_X2_size rfl rfl rfl (by decide +kernel) ⟨Nat.le_of_ble_eq_true rfl, Nat.le_of_ble_eq_true rfl⟩) (by omega) hk_18 rfl rfl rfl rfl (Nat.le_of_ble_eq_true rfl) dX3_draftReplaced_26 ⟨Nat.le_of_ble_eq_true rfl, Nat.le_of_ble_eq_true rfl⟩) (fun r22 cw23 hp24 => ?_)
    refine z_cw hp24.2 ?_
    refine z_top hp24.1 ?_
    refine z_icmp_ge (tgt := 100) C dX3_draftReplaced_29 (by decide) (fun c25 => ?_) (fun c25 => ?_)
    · skip
      obtain ⟨n, hn1, hn2⟩ := hrep
      rw [sRep_end (by omega)] at hn2
      refine z_iload_n C dX3_draftReplaced_100 2 rfl ?_
      exact z_iret C hr dX3_draftReplaced_101 (⟨by rw [← hn2], by rw [← hn2]; exact hrow, by rw [← hn2]; exact hch, hfrm⟩) (Nat.le_of_ble_eq_true rfl) (Nat.le_of_ble_eq_true rfl)
    · skip
      exact absurd (nI_le (by omega) (by omega)) c25
  | succ mm ih =>
    intro i b t o cwk hi hb ho ht2 hch hrep hrow hfrm
    obtain ⟨r1, r2, h8, r3, r4⟩ := id hrow
    have hk_26 : cwk (0) = .inr (3, [.ref (ad (1)), .ref (ad (29)), .ref (ad (31)), .ref (ad (34)), .ref (ad (36))]) := (hfrm (0) (by omega)).trans x0
    have hk_27 : cwk (1) = .inr (0, [.ref (ad (2)), .int (nI now), .int (nI past), .int (nI fut)]) := (hfrm (1) (by omega)).trans g3
    have hk_28 : cwk (2) = .inl (cR, 13, .inr (.inr (.inr (.inr (fr))))) := (hfrm (2) (by omega)).trans ht
    have hk_29 : cwk (3 + 2 * now) = .inr (2, [.ref (ad (4 + 2 * now)), .int (nI ((hs past).length))]) := (hfrm (3 + 2 * now) (by omega)).trans t1
    have hk_30 : cwk (4 + 2 * now) = .inl (cI, 240, .inl (f)) := (hfrm (4 + 2 * now) (by omega)).trans t3
    have hk_31 : cwk (29) = .inr (2, [.ref (ad (30)), .int (nI (pat.length))]) := (hfrm (29) (by omega)).trans p1
    have hk_32 : cwk (30) = .inl (cI, 16, .inl (pf)) := (hfrm (30) (by omega)).trans p3
    refine z_iload C dX3_draftReplaced_23 0 rfl ?_
    refine z_aload_n C dX3_draftReplaced_25 5 rfl ?_
    refine z_calli (z_runV (As := []) (rest := [.int (nI i)]) C (c_Row_size l D cI cR cL B N ad cwk (by omega) hk_29) (cwV 0 C.2.2.2.2.1 gX3_draftReplaced_X2_size rfl rfl rfl (by decide +kernel) ⟨Nat.le_of_ble_eq_true rfl, Nat.le_of_ble_eq_true rfl⟩) (by omega) hk_29 rfl rfl rfl rfl (Nat.le_of_ble_eq_true rfl) dX3_draftReplaced_26 ⟨Nat.le_of_ble_eq_true rfl, Nat.le_of_ble_eq_true rfl⟩) (fun r33 cw34 hp35 => ?_)
    refine z_cw hp35.2 ?_
    refine z_top hp35.1 ?_
    refine z_icmp_ge (tgt := 100) C dX3_draftReplaced_29 (by decide) (fun c36 => ?_) (fun c36 => ?_)
    · skip
      exact absurd ((nI_leI (by omega) (by omega)).mp c36) (by omega)
    · skip
      refine z_iload C dX3_draftReplaced_32 0 rfl ?_
      refine z_iload C dX3_draftReplaced_34 1 rfl ?_
      refine z_icmp_ge (tgt := 42) C dX3_draftReplaced_36 (by decide) (fun c37 => ?_) (fun c37 => ?_)
      · skip
        have hbi : b ≤ i := (nI_leI (by omega) (by omega)).mp c37
        rw [Nat.max_eq_left hbi] at hrep
        obtain ⟨n0, hn1, hn2⟩ := hrep
        obtain ⟨n, rfl⟩ : ∃ z, n0 = z + 1 := Nat.exists_eq_succ_of_ne_zero (by omega)
        refine z_aload_n C dX3_draftReplaced_42 5 rfl ?_
        refine z_iload C dX3_draftReplaced_43 0 rfl ?_
        refine z_aload_n C dX3_draftReplaced_45 3 rfl ?_
        refine z_get (Cn := RX3) (T := TX3) (NF := 5) (ci := 3) (v := .ref (ad (29))) C qX3_draftReplaced_0 rfl 1 (by decide) (C.2.2.2.2.1 _ qX3_draftReplaced_3) (fun _ h9 => h9) dX3_draftReplaced_46 (0) (by omega) hk_26 rfl ?_
        refine z_calli (z_runV (As := [.int (nI i), .ref (ad (29))]) (rest := []) C (c_Row_hasAt l D cI cR cL B N ad cwk (by omega) hk_29 (by decide) (by omega) hk_30 (by decide) (by omega) hk_31 (by omega) hk_32 (q := i) (by omega) (t2) (p2) (by decide)) (cwV 2 C.2.2.2.2.1 gX3_draftReplaced_X2_hasAt rfl rfl rfl (by decide +kernel) ⟨Nat.le_of_ble_eq_true rfl, Nat.le_of_ble_eq_true rfl⟩) (by omega) hk_29 rfl rfl rfl rfl (Nat.le_of_ble_eq_true rfl) dX3_draftReplaced_49 ⟨Nat.le_of_ble_eq_true rfl, Nat.le_of_ble_eq_true rfl⟩) (fun r38 cw39 hp40 => ?_)
        refine z_cw hp40.2 ?_
        refine z_if_eq (tgt := 81) C dX3_draftReplaced_52 (by decide) (fun c41 => ?_) (fun c41 => ?_)
        · skip
          have hno : ¬ lOcc (hs past) pat i := by rcases hp40.1 with ⟨h1, h2⟩ | ⟨h1, h2⟩; exact absurd (h1.symm.trans c41) (by decide); exact fun h3 => h2 ((lOcc_iff t4 p4 (by omega)).mpr h3)
          rw [sRep_no (by omega) hno, zIs_getD t4 (by omega)] at hn2
          refine z_aload_n C dX3_draftReplaced_81 3 rfl ?_
          refine z_get (Cn := RX3) (T := TX3) (NF := 5) (ci := 3) (v := .ref (ad (34))) C qX3_draftReplaced_0 rfl 3 (by decide) (C.2.2.2.2.1 _ qX3_draftReplaced_2) (fun _ h9 => h9) dX3_draftReplaced_82 (0) (by omega) hk_26 rfl ?_
          refine z_aload_n C dX3_draftReplaced_85 5 rfl ?_
          refine z_iload C dX3_draftReplaced_86 0 rfl ?_
          refine z_calli (z_runV (As := [.int (nI (i))]) (rest := [.ref (ad (34))]) C (c_Row_get l D cI cR cL B N ad cwk (by omega) hk_29 (by decide) (by omega) hk_30 (j := i) (by omega)) (cwV 1 C.2.2.2.2.1 gX3_draftReplaced_X2_get rfl rfl rfl (by decide +kernel) ⟨Nat.le_of_ble_eq_true rfl, Nat.le_of_ble_eq_true rfl⟩) (by omega) hk_29 rfl rfl rfl rfl (Nat.le_of_ble_eq_true rfl) dX3_draftReplaced_88 ⟨Nat.le_of_ble_eq_true rfl, Nat.le_of_ble_eq_true rfl⟩) (fun r42 cw43 hp44 => ?_)
          refine z_cw hp44.2 ?_
          refine z_top hp44.1 ?_
          refine z_callv (z_runV (As := [.int (f (i))]) (rest := []) C (c_Row_add l D cI cR cL B N ad cwk (by omega) r1 (by decide) (by omega) r3 (by decide) (by omega) (f (i))) (cwV 1 C.2.2.2.2.1 gX3_draftReplaced_X2_add rfl rfl rfl (by decide +kernel) ⟨Nat.le_of_ble_eq_true rfl, Nat.le_of_ble_eq_true rfl⟩) (by omega) r1 rfl rfl rfl rfl (Nat.le_of_ble_eq_true rfl) dX3_draftReplaced_91 ⟨Nat.le_of_ble_eq_true rfl, Nat.le_of_ble_eq_true rfl⟩) (fun cw45 hp46 => ?_)
          have hw_47 : cw45 (0) = .inr (3, [.ref (ad (1)), .ref (ad (29)), .ref (ad (31)), .ref (ad (34)), .ref (ad (36))]) := by rw [hp46, va_up_ne _ _ (by decide), va_up_ne _ _ (by decide)]; exact hk_26
          have hw_48 : cw45 (1) = .inr (0, [.ref (ad (2)), .int (nI now), .int (nI past), .int (nI fut)]) := by rw [hp46, va_up_ne _ _ (by decide), va_up_ne _ _ (by decide)]; exact hk_27
          have hw_49 : cw45 (2) = .inl (cR, 13, .inr (.inr (.inr (.inr (fr))))) := by rw [hp46, va_up_ne _ _ (by decide), va_up_ne _ _ (by decide)]; exact hk_28
          have hw_50 : cw45 (3 + 2 * now) = .inr (2, [.ref (ad (4 + 2 * now)), .int (nI ((hs past).length))]) := by rw [hp46, va_up_ne _ _ (by omega), va_up_ne _ _ (by omega)]; exact hk_29
          have hw_51 : cw45 (4 + 2 * now) = .inl (cI, 240, .inl (f)) := by rw [hp46, va_up_ne _ _ (by omega), va_up_ne _ _ (by omega)]; exact hk_30
          have hw_52 : cw45 (29) = .inr (2, [.ref (ad (30)), .int (nI (pat.length))]) := by rw [hp46, va_up_ne _ _ (by decide), va_up_ne _ _ (by decide)]; exact hk_31
          have hw_53 : cw45 (30) = .inl (cI, 16, .inl (pf)) := by rw [hp46, va_up_ne _ _ (by decide), va_up_ne _ _ (by decide)]; exact hk_32
          have hw_54 : cw45 (34) = .inr (2, [.ref (ad (35)), .int (nI (o.length + 1))]) := by rw [hp46, va_up_self]
          have hw_55 : cw45 (35) = .inl (cI, 240, .inl (upd (h8) (o.length) (f (i)))) := by rw [hp46, va_up_ne _ _ (by decide), va_up_self]
          refine z_iinc (x := nI (i + 1)) (lv' := [(5, .int (nI (i + 1))), (4, .int (nI b)), (3, .int (nI t)), (0, .ref (ad (0))), (1, .int (x)), (2, .ref (ad (3 + 2 * now)))]) C dX3_draftReplaced_94 0 rfl (nI_1 i) (by decide) rfl ?_
          refine z_goto (tgt := 23) C dX3_draftReplaced_97 (by decide) ?_
          refine z_lv (lv' := [(5, .int (nI (i + 1))), (4, .int (nI b)), (3, .int (nI t)), (0, .ref (ad (0))), (1, .int (x)), (2, .ref (ad (3 + 2 * now)))]) [0, 1, 2, 3, 4, 5] rfl ?_
          exact ih (i + 1) b t (o ++ [f i]) _ (by omega) hb (by rw [List.length_append]; show o.length + 1 ≤ _; omega) (by omega) (zCh_app hch (zCh_one (g6 past (by omega) _ (zIs_get t4 (by omega))))) ⟨n, by omega, by rw [Nat.max_eq_left (by omega)]; exact hn2⟩ ⟨by rw [hw_54, List.length_append]; rfl, by rw [List.length_append]; show o.length + 1 ≤ _; omega, _, hw_55, zIs_add r4 _⟩ (fun j hj => ((fun j hj => by rw [hp46, va_up_ne _ _ (by omega), va_up_ne _ _ (by omega)]) : ∀ j, (j ≠ 34 ∧ j ≠ 35) → _ = cwk j) j hj |>.trans (hfrm j hj))
        · skip
          have hyes : lOcc (hs past) pat i := by rcases hp40.1 with ⟨h1, h2⟩ | ⟨h1, h2⟩; exact (lOcc_iff t4 p4 (by omega)).mp h2; exact absurd h1 c41
          have hle := lOcc_le hyes (by omega)
          rw [sRep_yes (by omega) hyes] at hn2
          refine z_aload_n C dX3_draftReplaced_55 3 rfl ?_
          refine z_get (Cn := RX3) (T := TX3) (NF := 5) (ci := 3) (v := .ref (ad (34))) C qX3_draftReplaced_0 rfl 3 (by decide) (C.2.2.2.2.1 _ qX3_draftReplaced_2) (fun _ h9 => h9) dX3_draftReplaced_56 (0) (by omega) hk_26 rfl ?_
          refine z_iload_n C dX3_draftReplaced_59 4 rfl ?_
          refine z_callv (z_runV (As := [.int (x)]) (rest := []) C (c_Row_add l D cI cR cL B N ad cwk (by omega) r1 (by decide) (by omega) r3 (by decide) (by omega) (x)) (cwV 1 C.2.2.2.2.1 gX3_draftReplaced_X2_add rfl rfl rfl (by decide +kernel) ⟨Nat.le_of_ble_eq_true rfl, Nat.le_of_ble_eq_true rfl⟩) (by omega) r1 rfl rfl rfl rfl (Nat.le_of_ble_eq_true rfl) dX3_draftReplaced_60 ⟨Nat.le_of_ble_eq_true rfl, Nat.le_of_ble_eq_true rfl⟩) (fun cw56 hp57 => ?_)
          have hw_58 : cw56 (0) = .inr (3, [.ref (ad (1)), .ref (ad (29)), .ref (ad (31)), .ref (ad (34)), .ref (ad (36))]) := by rw [hp57, va_up_ne _ _ (by decide), va_up_ne _ _ (by decide)]; exact hk_26
          have hw_59 : cw56 (1) = .inr (0, [.ref (ad (2)), .int (nI now), .int (nI past), .int (nI fut)]) := by rw [hp57, va_up_ne _ _ (by decide), va_up_ne _ _ (by decide)]; exact hk_27
          have hw_60 : cw56 (2) = .inl (cR, 13, .inr (.inr (.inr (.inr (fr))))) := by rw [hp57, va_up_ne _ _ (by decide), va_up_ne _ _ (by decide)]; exact hk_28
          have hw_61 : cw56 (3 + 2 * now) = .inr (2, [.ref (ad (4 + 2 * now)), .int (nI ((hs past).length))]) := by rw [hp57, va_up_ne _ _ (by omega), va_up_ne _ _ (by omega)]; exact hk_29
          have hw_62 : cw56 (4 + 2 * now) = .inl (cI, 240, .inl (f)) := by rw [hp57, va_up_ne _ _ (by omega), va_up_ne _ _ (by omega)]; exact hk_30
          have hw_63 : cw56 (29) = .inr (2, [.ref (ad (30)), .int (nI (pat.length))]) := by rw [hp57, va_up_ne _ _ (by decide), va_up_ne _ _ (by decide)]; exact hk_31
          have hw_64 : cw56 (30) = .inl (cI, 16, .inl (pf)) := by rw [hp57, va_up_ne _ _ (by decide), va_up_ne _ _ (by decide)]; exact hk_32
          have hw_65 : cw56 (34) = .inr (2, [.ref (ad (35)), .int (nI (o.length + 1))]) := by rw [hp57, va_up_self]
          have hw_66 : cw56 (35) = .inl (cI, 240, .inl (upd (h8) (o.length) (x))) := by rw [hp57, va_up_ne _ _ (by decide), va_up_self]
          refine z_iinc (x := nI (t + 1)) (lv' := [(3, .int (nI (t + 1))), (5, .int (nI i)), (4, .int (nI b)), (0, .ref (ad (0))), (1, .int (x)), (2, .ref (ad (3 + 2 * now)))]) C dX3_draftReplaced_63 2 rfl (nI_1 t) (by decide) rfl ?_
          refine z_iload C dX3_draftReplaced_66 1 rfl ?_
          refine z_aload_n C dX3_draftReplaced_68 3 rfl ?_
          refine z_get (Cn := RX3) (T := TX3) (NF := 5) (ci := 3) (v := .ref (ad (29))) C qX3_draftReplaced_0 rfl 1 (by decide) (C.2.2.2.2.1 _ qX3_draftReplaced_3) (fun _ h9 => h9) dX3_draftReplaced_69 (0) (by omega) hw_58 rfl ?_
          refine z_calli (z_runV (As := []) (rest := [.int (nI i)]) C (c_Row_size l D cI cR cL B N ad cw56 (by omega) hw_63) (cwV 0 C.2.2.2.2.1 gX3_draftReplaced_X2_size rfl rfl rfl (by decide +kernel) ⟨Nat.le_of_ble_eq_true rfl, Nat.le_of_ble_eq_true rfl⟩) (by omega) hw_63 rfl rfl rfl rfl (Nat.le_of_ble_eq_true rfl) dX3_draftReplaced_72 ⟨Nat.le_of_ble_eq_true rfl, Nat.le_of_ble_eq_true rfl⟩) (fun r67 cw68 hp69 => ?_)
          refine z_cw hp69.2 ?_
          refine z_top hp69.1 ?_
          refine z_iadd C dX3_draftReplaced_75 ?_
          refine z_top (y := nI (i + pat.length)) (nI_add _ _) ?_
          refine z_istore (lv' := [(4, .int (nI (i + pat.length))), (3, .int (nI (t + 1))), (5, .int (nI i)), (0, .ref (ad (0))), (1, .int (x)), (2, .ref (ad (3 + 2 * now)))]) C dX3_draftReplaced_76 (by decide) rfl ?_
          refine z_goto (tgt := 94) C dX3_draftReplaced_78 (by decide) ?_
          refine z_iinc (x := nI (i + 1)) (lv' := [(5, .int (nI (i + 1))), (4, .int (nI (i + pat.length))), (3, .int (nI (t + 1))), (0, .ref (ad (0))), (1, .int (x)), (2, .ref (ad (3 + 2 * now)))]) C dX3_draftReplaced_94 2 rfl (nI_1 i) (by decide) rfl ?_
          refine z_goto (tgt := 23) C dX3_draftReplaced_97 (by decide) ?_
          refine z_lv (lv' := [(5, .int (nI (i + 1))), (4, .int (nI (i + pat.length))), (3, .int (nI (t + 1))), (0, .ref (ad (0))), (1, .int (x)), (2, .ref (ad (3 + 2 * now)))]) [0, 1, 2, 3, 4, 5] rfl ?_
          exact ih (i + 1) (i + pat.length) (t + 1) (o ++ [x]) _ (by omega) hle (by rw [List.length_append]; show o.length + 1 ≤ _; omega) (by omega) (zCh_app hch (zCh_one hx)) ⟨n, by omega, by rw [Nat.max_eq_right (by omega)]; exact hn2⟩ ⟨by rw [hw_65, List.length_append]; rfl, by rw [List.length_append]; show o.length + 1 ≤ _; omega, _, hw_66, zIs_add r4 _⟩ (fun j hj => ((fun j hj => by rw [hp57, va_up_ne _ _ (by omega), va_up_ne _ _ (by omega)]) : ∀ j, (j ≠ 34 ∧ j ≠ 35) → _ = cwk j) j hj |>.trans (hfrm j hj))
      · skip
        have hbi : i < b := Nat.lt_of_not_le (fun h9 => c37 (nI_le h9 (by omega)))
        refine z_goto (tgt := 94) C dX3_draftReplaced_39 (by decide) ?_
        refine z_iinc (x := nI (i + 1)) (lv' := [(5, .int (nI (i + 1))), (4, .int (nI b)), (3, .int (nI t)), (0, .ref (ad (0))), (1, .int (x)), (2, .ref (ad (3 + 2 * now)))]) C dX3_draftReplaced_94 0 rfl (nI_1 i) (by decide) rfl ?_
        refine z_goto (tgt := 23) C dX3_draftReplaced_97 (by decide) ?_
        refine z_lv (lv' := [(5, .int (nI (i + 1))), (4, .int (nI b)), (3, .int (nI t)), (0, .ref (ad (0))), (1, .int (x)), (2, .ref (ad (3 + 2 * now)))]) [0, 1, 2, 3, 4, 5] rfl ?_
        exact ih (i + 1) b t o _ (by omega) hb (by omega) (by omega) hch (by rw [Nat.max_eq_right (by omega)] at hrep ⊢; exact hrep) hrow hfrm

theorem qX3_replace_0 : ∀ w ∈ wsX30, w ∈ wsX3_replace := by decide +kernel
theorem qX3_replace_1 : Cond.fieldLink RX3 21 "PieceText" "sought" "LPieceText$Row;" ∈ wsX3_replace := by decide +kernel
theorem qX3_replace_2 : Cond.classLink RX3 88 "java/lang/IllegalStateException" ∈ wsX3_replace := by decide +kernel
theorem qX3_replace_3 : Cond.initialized "java/lang/IllegalStateException" ∈ wsX3_replace := by decide +kernel
set_option maxHeartbeats 4000000 in
set_option maxRecDepth 100000 in
theorem c_PT_replace (l : Launch) (D : va_G) (cI cR cL : ClassId) (B N : Nat) (ad : Nat → Nat) (cw : Nat → va_E) (hl8 : l.stackTraces = false) (hN : 45 < N) {past fut : Nat} {hs : Nat → List Int32} {pat ws dr : List Int32} (hX : zRX cI cR ad cw past fut hs pat ws dr) (x : Int32) : vx_Met l yX3_replace wsX3_replace ({ frames := 7, cells := 2, slots := 12, locals := 124 } : Room) (va_Pc [.ref (ad (0)), .int (x)] (zI D vwCl (zTy cI cR cL) B N ad cw)) (zQi D vwCl B N ad (fun (v : Int32) (cw' : Nat → va_E) => (∃ q, q < 256 ∧ x = nI q) ∧ 0 < pat.length ∧ v = nI (sRep (hs past) pat x (hs past).length 0 [] 0).2 ∧ zRX cI cR ad cw' (aPast past) 0 (aHs past hs (sRep (hs past) pat x (hs past).length 0 [] 0).1) pat ws (sRep (hs past) pat x (hs past).length 0 [] 0).1 ∧ ∀ j, 37 ≤ j → cw' j = cw j)) (zXC D vwCl B N ad cw (fun E : String => (E = xIA ∧ ¬ (∃ q, q < 256 ∧ x = nI q)) ∨ (E = xIS ∧ (∃ q, q < 256 ∧ x = nI q) ∧ ¬ (0 < pat.length)))) 2 12 (zA B) := by
  obtain ⟨x0, ⟨now, hH⟩, ⟨fr, ht, hfr⟩, ⟨p1, p2, pf, p3, p4⟩, ⟨w1, w2, ⟨wf, w3, w4⟩, sf, w5⟩, ⟨d1, d2, g, d3, d4⟩, nf, x6⟩ := id hX
  obtain ⟨g1, g2, g3, g4, g5, g6⟩ := id hH
  obtain ⟨t1, t2, f, t3, t4⟩ := zHist_now hH
  refine z_ofX (cc := cX3_replace) (maxL := 3) (ret := (some .int)) (by decide) rfl (Nat.le_of_ble_eq_true rfl) ?_
  intro p e s m args below meth c C hr h0
  refine z_lv (lv' := [(0, .ref (ad (0))), (1, .int (x))]) [0, 1] rfl ?_
  refine z_iload_n C dX3_replace_0 1 rfl ?_
  refine z_xcallv (z_xrunS (As := [.int (x)]) (rest := []) C (c_PT_noChar l D cI cR cL B N ad cw hl8 (x)) (va_cwS 1 C.2.2.2.2.1 gX3_replace_X3_refuseNoCharacter rfl rfl rfl (by decide +kernel) ⟨Nat.le_of_ble_eq_true rfl, Nat.le_of_ble_eq_true rfl⟩) rfl rfl (Nat.le_of_ble_eq_true rfl) dX3_replace_1 ⟨Nat.le_of_ble_eq_true rfl, Nat.le_of_ble_eq_true rfl⟩) (fun E3 hx4 => ?_) (fun cw1 hp2 => ?_)
  · exact z_xout C h0 (Or.inl hx4) (Nat.le_of_ble_eq_true rfl) (Nat.le_of_ble_eq_true rfl)
  obtain ⟨⟨u, hu, rfl⟩, hp2c⟩ := hp2
  refine z_cw hp2c ?_
  refine z_aload_n C dX3_replace_4 0 rfl ?_
  refine z_get (Cn := RX3) (T := TX3) (NF := 5) (ci := 3) (v := .ref (ad (29))) C qX3_replace_0 rfl 1 (by decide) (C.2.2.2.2.1 _ qX3_replace_1) (fun _ h9 => h9) dX3_replace_5 (0) (by omega) x0 rfl ?_
  refine z_calli (z_runV (As := []) (rest := []) C (c_Row_size l D cI cR cL B N ad cw (by omega) p1) (cwV 0 C.2.2.2.2.1 gX3_replace_X2_size rfl rfl rfl (by decide +kernel) ⟨Nat.le_of_ble_eq_true rfl, Nat.le_of_ble_eq_true rfl⟩) (by omega) p1 rfl rfl rfl rfl (Nat.le_of_ble_eq_true rfl) dX3_replace_8 ⟨Nat.le_of_ble_eq_true rfl, Nat.le_of_ble_eq_true rfl⟩) (fun r5 cw6 hp7 => ?_)
  refine z_cw hp7.2 ?_
  refine z_top hp7.1 ?_
  refine z_if_ne (tgt := 24) C dX3_replace_11 (by decide) (fun c8 => ?_) (fun c8 => ?_)
  · skip
    have hp0 : 0 < pat.length := Nat.pos_of_ne_zero (fun h9 => c8 (by rw [h9]; decide))
    refine z_aload_n C dX3_replace_24 0 rfl ?_
    refine z_iload_n C dX3_replace_25 1 rfl ?_
    refine z_calli (z_runV (As := [.int (nI u)]) (rest := []) C (c_PT_draftReplaced l D cI cR cL B N ad cw hN hX hp0 (nI u) ⟨u, hu, rfl⟩) (cwV 1 C.2.2.2.2.1 gX3_replace_X3_draftReplaced rfl rfl rfl (by decide +kernel) ⟨Nat.le_of_ble_eq_true rfl, Nat.le_of_ble_eq_true rfl⟩) (by omega) x0 rfl rfl rfl rfl (Nat.le_of_ble_eq_true rfl) dX3_replace_26 ⟨Nat.le_of_ble_eq_true rfl, Nat.le_of_ble_eq_true rfl⟩) (fun r9 cw10 hp11 => ?_)
    have hw_12 : cw10 (0) = .inr (3, [.ref (ad (1)), .ref (ad (29)), .ref (ad (31)), .ref (ad (34)), .ref (ad (36))]) := by rw [hp11.2.2.2 (0) (by omega)]; exact x0
    have hw_13 : cw10 (29) = .inr (2, [.ref (ad (30)), .int (nI (pat.length))]) := by rw [hp11.2.2.2 (29) (by omega)]; exact p1
    refine z_istore_n (lv' := [(2, .int (r9)), (0, .ref (ad (0))), (1, .int (nI u))]) C dX3_replace_29 rfl (by decide) rfl ?_
    refine z_aload_n C dX3_replace_30 1 rfl ?_
    have hX14 : zRX cI cR ad cw10 past fut hs pat ws ((sRep (hs past) pat (nI u) (hs past).length 0 [] 0).1) := zRX_draft hX (hp11.2.2.2) (hp11.2.1)
    refine z_calli (z_runV (As := []) (rest := []) C (c_PT_keepDraft l D cI cR cL B N ad cw10 hN hX14 (hp11.2.2.1)) (cwV 0 C.2.2.2.2.1 gX3_replace_X3_keepDraft rfl rfl rfl (by decide +kernel) ⟨Nat.le_of_ble_eq_true rfl, Nat.le_of_ble_eq_true rfl⟩) (by omega) hw_12 rfl rfl rfl rfl (Nat.le_of_ble_eq_true rfl) dX3_replace_31 ⟨Nat.le_of_ble_eq_true rfl, Nat.le_of_ble_eq_true rfl⟩) (fun r15 cw16 hp17 => ?_)
    refine z_pop C dX3_replace_34 rfl ?_
    refine z_iload_n C dX3_replace_35 0 rfl ?_
    exact z_xiret C hr dX3_replace_36 (⟨⟨u, hu, rfl⟩, hp0, hp11.1, hp17.2.1, fun j hj => (hp17.2.2 j hj).trans (hp11.2.2.2 j (by omega))⟩) (Nat.le_of_ble_eq_true rfl) (Nat.le_of_ble_eq_true rfl)
  · skip
    exact z_throw (cls := xIS) (names := xNames) C hl8 h0 rfl (by decide) (by decide) (C.2.2.2.2.1 _ qX3_replace_2) (C.2.2.2.2.1 _ qX3_replace_3) (show (113, "the pattern has no characters") ∈ zStrs by decide +kernel) (fun w h => List.mem_cons_of_mem _ (List.mem_append_left _ (List.mem_append_right _ h))) zng_IS zgd_IS dX3_replace_14 dX3_replace_17 dX3_replace_18 dX3_replace_20 dX3_replace_23 (Nat.le_of_ble_eq_true rfl) (Nat.le_of_ble_eq_true rfl) (Nat.le_of_ble_eq_true rfl) (Nat.le_of_ble_eq_true rfl) (Or.inr ⟨rfl, ⟨u, hu, rfl⟩, fun h9 => nI_ne0 h9 (by omega) c8⟩) (Nat.le_of_ble_eq_true rfl) (Nat.le_of_ble_eq_true rfl)
end
section
section Z4
variable {p : Program} {l : Launch} {e : Env} {R : Room} {s : State} {m : MethodId} {args : Array Value} {below : List Frame} {meth : Method} {c : Code} {cells slots : Nat} {Q : State → Prop}
variable {D : va_G} {cl : List vw_C} {tys : List (ClassId × FieldType)} {B N nL : Nat} {ad : Nat → Nat} {cw : Nat → va_E} {lv : List (Nat × Value)} {pc : Nat} {st : List Value} {cc : ByteArray} {own : String} {Ts : List Cond}
theorem z_dup2 {va vb : Value} (C : zC p s m args meth c cc nL own Ts D cl tys B) (d : decode cc pc = .ok (.dup2, 1)) (hva : va.category = 1) (hvb : vb.category = 1) (kk : zG p l e R s m args below meth c Q D cl B nL N ad cw cells slots lv (pc + 1) (va :: vb :: va :: vb :: st)) : zG p l e R s m args below meth c Q D cl B nL N ad cw cells slots lv pc (va :: vb :: st) := fun H locs ls hW hS hl => lv_dup2_11 C.1 C.2.1 d hva hvb (kk H locs ls hW hS hl)
theorem z_tableIn {dflt lo hi : Int} {offs : Array Int} {len : Nat} {x : Int32} {off : Int} {tgt : Nat} (C : zC p s m args meth c cc nL own Ts D cl tys B) (d : decode cc pc = .ok (.tableswitch dflt lo hi offs, len)) (h1 : ¬ x.toInt < lo) (h2 : ¬ hi < x.toInt) (ho : offs[(x.toInt - lo).toNat]? = some off) (ht : (pc : Int) + off = (tgt : Int)) (kk : zG p l e R s m args below meth c Q D cl B nL N ad cw cells slots lv tgt st) : zG p l e R s m args below meth c Q D cl B nL N ad cw cells slots lv pc (.int x :: st) := fun H locs ls hW hS hl => lv_tableIn C.1 C.2.1 d h1 h2 ho ht (kk H locs ls hW hS hl)
theorem z_tableOut {dflt lo hi : Int} {offs : Array Int} {len : Nat} {x : Int32} {tgt : Nat} (C : zC p s m args meth c cc nL own Ts D cl tys B) (d : decode cc pc = .ok (.tableswitch dflt lo hi offs, len)) (h : x.toInt < lo ∨ hi < x.toInt) (ht : (pc : Int) + dflt = (tgt : Int)) (kk : zG p l e R s m args below meth c Q D cl B nL N ad cw cells slots lv tgt st) : zG p l e R s m args below meth c Q D cl B nL N ad cw cells slots lv pc (.int x :: st) := fun H locs ls hW hS hl => lv_tableOut C.1 C.2.1 d h ht (kk H locs ls hW hS hl)
end Z4

set_option maxHeartbeats 4000000 in
set_option maxRecDepth 100000 in
theorem c_fill (l : Launch) (D : va_G) (cI cR cL : ClassId) (B N : Nat) (ad : Nat → Nat) (cw : Nat → va_E) {a n : Nat} {f : Nat → Int32} (ha9 : a < N) (hn9 : n < 2 ^ 30) (ea : cw a = .inl (cI, n, .inl (f))) (x : Int32) : Met l yJ7_fill_53178 wsJ7_fill_53178 ({ frames := 0, cells := 0, slots := 0, locals := 0 } : Room) (va_Pc [.ref (ad (a)), .int (x)] (zI D vwCl (zTy cI cR cL) B N ad cw)) (zQv D vwCl B N ad (fun (cw' : Nat → va_E) => (∃ f', cw' a = .inl (cI, n, .inl (f')) ∧ ∀ i, i < n → f' i = x) ∧ ∀ j, (j ≠ a) → cw' j = cw j)) 0 0 (zA B) := by
  refine z_ofW (cc := cJ7_fill_53178) (maxL := 4) (ret := none) (by decide) rfl (Nat.le_of_ble_eq_true rfl) ?_
  intro p e s m args below meth c C hr hnm
  refine z_lv (lv' := [(0, .ref (ad (a))), (1, .int (x))]) [0, 1] rfl ?_
  refine z_iconst (v := nI 0) C dJ7_fill_53178_0 (by decide) ?_
  refine z_istore_n (lv' := [(2, .int (nI 0)), (0, .ref (ad (a))), (1, .int (x))]) C dJ7_fill_53178_1 rfl (by decide) rfl ?_
  refine z_aload_n C dJ7_fill_53178_2 1 rfl ?_
  refine z_alen (v := nI (n)) C 0 rfl dJ7_fill_53178_3 (a) ha9 ea rfl ?_
  refine z_istore_n (lv' := [(3, .int (nI (n))), (2, .int (nI 0)), (0, .ref (ad (a))), (1, .int (x))]) C dJ7_fill_53178_4 rfl (by decide) rfl ?_
  refine z_lv (lv' := [(2, .int (nI 0)), (3, .int (nI n)), (0, .ref (ad (a))), (1, .int (x))]) [1, 0, 2, 3] rfl ?_
  suffices loop : ∀ (mm i : Nat) (cwk : Nat → va_E), n = i + mm → (∃ f', cwk a = .inl (cI, n, .inl (f')) ∧ ∀ j, j < i → f' j = x) → (∀ j, (j ≠ a) → cwk j = cw j) → zG p l e (headSpec wsJ7_fill_53178 ({ frames := 0, cells := 0, slots := 0, locals := 0 } : Room)).room s m args below meth c (MQ below (zQv D vwCl B N ad (fun (cw' : Nat → va_E) => (∃ f', cw' a = .inl (cI, n, .inl (f')) ∧ ∀ i, i < n → f' i = x) ∧ ∀ j, (j ≠ a) → cw' j = cw j)) args s 0 0 (zA B)) D vwCl B 4 N ad cwk 0 0 [(2, .int (nI i)), (3, .int (nI n)), (0, .ref (ad (a))), (1, .int (x))] 5 [] from loop n 0 cw (by omega) ⟨f, ea, fun j hj => absurd hj (by omega)⟩ (fun j _ => rfl)
  intro mm
  induction mm with
  | zero =>
    intro i cwk hi hf hfrm
    obtain ⟨f2, e2, hx2⟩ := id hf
    refine z_iload_n C dJ7_fill_53178_5 0 rfl ?_
    refine z_iload_n C dJ7_fill_53178_6 1 rfl ?_
    refine z_icmp_ge (tgt := 20) C dJ7_fill_53178_7 (by decide) (fun c1 => ?_) (fun c1 => ?_)
    · skip
      exact z_vret C hr dJ7_fill_53178_20 (⟨⟨f2, e2, fun j hj => hx2 j (by omega)⟩, hfrm⟩) (Nat.le_of_ble_eq_true rfl) (Nat.le_of_ble_eq_true rfl)
    · skip
      exact absurd (nI_le (by omega) (by omega)) c1
  | succ mm ih =>
    intro i cwk hi hf hfrm
    obtain ⟨f2, e2, hx2⟩ := id hf
    refine z_iload_n C dJ7_fill_53178_5 0 rfl ?_
    refine z_iload_n C dJ7_fill_53178_6 1 rfl ?_
    refine z_icmp_ge (tgt := 20) C dJ7_fill_53178_7 (by decide) (fun c2 => ?_) (fun c2 => ?_)
    · skip
      exact absurd ((nI_leI (by omega) (by omega)).mp c2) (by omega)
    · skip
      refine z_aload_n C dJ7_fill_53178_10 2 rfl ?_
      refine z_iload_n C dJ7_fill_53178_11 0 rfl ?_
      refine z_iload_n C dJ7_fill_53178_12 3 rfl ?_
      obtain ⟨cw3, ecw3⟩ : ∃ z : Nat → va_E, z = va_up (cwk) (a) (.inl (cI, n, .inl (upd (f2) (i) ((x))))) := ⟨_, rfl⟩
      refine z_iast C 0 rfl dJ7_fill_53178_13 (a) ha9 e2 (i) (rfl) (by omega) (by omega) ?_
      refine z_cw ecw3.symm ?_
      have hw_4 : cw3 (a) = .inl (cI, n, .inl (upd (f2) (i) ((x)))) := by rw [ecw3, va_up_self]
      refine z_iinc (x := nI (i + 1)) (lv' := [(2, .int (nI (i + 1))), (3, .int (nI n)), (0, .ref (ad (a))), (1, .int (x))]) C dJ7_fill_53178_14 0 rfl (nI_1 i) (by decide) rfl ?_
      refine z_goto (tgt := 5) C dJ7_fill_53178_17 (by decide) ?_
      refine z_lv (lv' := [(2, .int (nI (i + 1))), (3, .int (nI n)), (0, .ref (ad (a))), (1, .int (x))]) [0, 1, 2, 3] rfl ?_
      exact ih (i + 1) _ (by omega) ⟨_, hw_4, fun j hj => by rcases Nat.lt_succ_iff_lt_or_eq.mp hj with h | h; rw [pk_un (by omega)]; exact hx2 j h; rw [h]; exact pk_us⟩ (fun j hj => by rw [ecw3, va_up_ne _ _ hj]; exact hfrm j hj)

def dif (xs : List Int32) : Nat → Nat
  | 0 => 0
  | k + 1 => dif xs k + (if xs.getD k 0 ∈ xs.take k then 0 else 1)
theorem dif_le (xs : List Int32) (k : Nat) : dif xs k ≤ k := by
  induction k with
  | zero => exact Nat.le_refl _
  | succ k ih => unfold dif; split <;> omega
theorem take_next {f : Nat → Int32} {xs : List Int32} (h : zIs f xs) {i : Nat} (hi : i < xs.length) : xs.take (i + 1) = xs.take i ++ [f i] := by
  rw [List.take_succ, h i hi]
  rfl
def zCnt (sf : Nat → Int32) (xs : List Int32) (i : Nat) : Prop := ∀ u, u < 256 → sf u = nI ((xs.take i).count (nI u))
theorem zCnt_next {sf f : Nat → Int32} {xs : List Int32} (h : zIs f xs) {i u : Nat} (hi : i < xs.length) (hu : u < 256) (hf : f i = nI u) (hc : zCnt sf xs i) : zCnt (upd sf u (nI ((xs.take i).count (nI u) + 1))) xs (i + 1) := by
  intro k hk
  rw [take_next h hi, List.count_append, hf]
  by_cases hku : k = u
  · subst hku
    rw [pk_us, List.count_singleton_self]
  · rw [pk_un hku, hc k hk]
    have hne : ¬ nI u = nI k := fun e => hku ((nI_eq (by omega) (by omega)).mp e).symm
    have h0 : List.count (nI k) [nI u] = 0 := List.count_eq_zero.mpr (fun hm => hne (List.mem_singleton.mp hm).symm)
    rw [h0, Nat.add_zero]
theorem qX3_differentCharacters_0 : ∀ w ∈ wsX30, w ∈ wsX3_differentCharacters := by decide +kernel
theorem qX3_differentCharacters_1 : Cond.fieldLink RX3 10 "PieceText" "history" "LPieceText$History;" ∈ wsX3_differentCharacters := by decide +kernel
theorem qX3_differentCharacters_2 : Cond.fieldLink RX3 35 "PieceText" "seen" "[I" ∈ wsX3_differentCharacters := by decide +kernel
set_option maxHeartbeats 4000000 in
set_option maxRecDepth 100000 in
theorem c_PT_different (l : Launch) (D : va_G) (cI cR cL : ClassId) (B N : Nat) (ad : Nat → Nat) (cw : Nat → va_E) (hN : 45 < N) {past fut : Nat} {hs : Nat → List Int32} {pat ws dr : List Int32} (hX : zRX cI cR ad cw past fut hs pat ws dr) : Met l yX3_differentCharacters wsX3_differentCharacters ({ frames := 1, cells := 0, slots := 0, locals := 23 } : Room) (va_Pc [.ref (ad (0))] (zI D vwCl (zTy cI cR cL) B N ad cw)) (zQi D vwCl B N ad (fun (v : Int32) (cw' : Nat → va_E) => v = nI (dif (hs past) (hs past).length) ∧ (∃ nf, cw' 36 = .inl (cI, 256, .inl (nf))) ∧ ∀ j, (j ≠ 36) → cw' j = cw j)) 0 0 (zA B) := by
  obtain ⟨x0, ⟨now, hH⟩, ⟨fr, ht, hfr⟩, ⟨p1, p2, pf, p3, p4⟩, ⟨w1, w2, ⟨wf, w3, w4⟩, sf, w5⟩, ⟨d1, d2, g, d3, d4⟩, nf, x6⟩ := id hX
  obtain ⟨g1, g2, g3, g4, g5, g6⟩ := id hH
  obtain ⟨t1, t2, f, t3, t4⟩ := zHist_now hH
  refine z_ofW (cc := cX3_differentCharacters) (maxL := 5) (ret := (some .int)) (by decide) rfl (Nat.le_of_ble_eq_true rfl) ?_
  intro p e s m args below meth c C hr hnm
  refine z_lv (lv' := [(0, .ref (ad (0)))]) [0] rfl ?_
  refine z_aload_n C dX3_differentCharacters_0 0 rfl ?_
  refine z_get (Cn := RX3) (T := TX3) (NF := 5) (ci := 3) (v := .ref (ad (1))) C qX3_differentCharacters_0 rfl 0 (by decide) (C.2.2.2.2.1 _ qX3_differentCharacters_1) (fun _ h9 => h9) dX3_differentCharacters_1 (0) (by omega) x0 rfl ?_
  refine z_callr (z_runV (As := []) (rest := []) C (c_Hist_present l D cI cR cL B N ad cw (by omega) g3 (by omega) ht hfr g1) (cwV 0 C.2.2.2.2.1 gX3_differentCharacters_X0_present rfl rfl rfl (by decide +kernel) ⟨Nat.le_of_ble_eq_true rfl, Nat.le_of_ble_eq_true rfl⟩) (by omega) g3 rfl rfl rfl rfl (Nat.le_of_ble_eq_true rfl) dX3_differentCharacters_4 ⟨Nat.le_of_ble_eq_true rfl, Nat.le_of_ble_eq_true rfl⟩) (fun r1 cw2 hp3 => ?_)
  obtain ⟨rfl, hp3c⟩ := hp3
  refine z_cw hp3c ?_
  refine z_astore_n (lv' := [(1, .ref (ad (3 + 2 * now))), (0, .ref (ad (0)))]) C dX3_differentCharacters_7 rfl (by decide) rfl ?_
  refine z_aload_n C dX3_differentCharacters_8 1 rfl ?_
  refine z_get (Cn := RX3) (T := TX3) (NF := 5) (ci := 3) (v := .ref (ad (36))) C qX3_differentCharacters_0 rfl 4 (by decide) (C.2.2.2.2.1 _ qX3_differentCharacters_2) (fun _ h9 => h9) dX3_differentCharacters_9 (0) (by omega) x0 rfl ?_
  refine z_iconst (v := nI 0) C dX3_differentCharacters_12 (by decide) ?_
  refine z_callv (z_runS (As := [.ref (ad (36)), .int (nI 0)]) (rest := []) C (c_fill l D cI cR cL B N ad cw (by omega) (by decide) x6 (nI 0)) (va_cwS 2 C.2.2.2.2.1 gX3_differentCharacters_J7_fill_53178 rfl rfl rfl (by decide +kernel) ⟨Nat.le_of_ble_eq_true rfl, Nat.le_of_ble_eq_true rfl⟩) rfl rfl (Nat.le_of_ble_eq_true rfl) dX3_differentCharacters_13 ⟨Nat.le_of_ble_eq_true rfl, Nat.le_of_ble_eq_true rfl⟩) (fun cw4 hp5 => ?_)
  obtain ⟨⟨fz, ez, hz⟩, hfz⟩ := hp5
  refine z_iconst (v := nI 0) C dX3_differentCharacters_16 (by decide) ?_
  refine z_istore_n (lv' := [(2, .int (nI 0)), (1, .ref (ad (3 + 2 * now))), (0, .ref (ad (0)))]) C dX3_differentCharacters_17 rfl (by decide) rfl ?_
  refine z_iconst (v := nI 0) C dX3_differentCharacters_18 (by decide) ?_
  refine z_istore_n (lv' := [(3, .int (nI 0)), (2, .int (nI 0)), (1, .ref (ad (3 + 2 * now))), (0, .ref (ad (0)))]) C dX3_differentCharacters_19 rfl (by decide) rfl ?_
  refine z_lv (lv' := [(3, .int (nI 0)), (2, .int (nI 0)), (0, .ref (ad (0))), (1, .ref (ad (3 + 2 * now)))]) [0, 1, 3, 2] rfl ?_
  suffices loop : ∀ (mm i : Nat) (cwk : Nat → va_E), (hs past).length = i + mm → (∃ f', cwk 36 = .inl (cI, 256, .inl (f')) ∧ zCnt f' (hs past) i) → (∀ j, (j ≠ 36) → cwk j = cw j) → zG p l e (headSpec wsX3_differentCharacters ({ frames := 1, cells := 0, slots := 0, locals := 23 } : Room)).room s m args below meth c (MQ below (zQi D vwCl B N ad (fun (v : Int32) (cw' : Nat → va_E) => v = nI (dif (hs past) (hs past).length) ∧ (∃ nf, cw' 36 = .inl (cI, 256, .inl (nf))) ∧ ∀ j, (j ≠ 36) → cw' j = cw j)) args s 0 0 (zA B)) D vwCl B 5 N ad cwk 0 0 [(3, .int (nI i)), (2, .int (nI (dif (hs past) i))), (0, .ref (ad (0))), (1, .ref (ad (3 + 2 * now)))] 20 [] from loop (hs past).length 0 cw4 (by omega) ⟨fz, ez, fun u hu => by rw [hz u hu]; rfl⟩ hfz
  intro mm
  induction mm with
  | zero =>
    intro i cwk hi hf hfrm
    obtain ⟨f2, e2, hx2⟩ := id hf
    have hk_6 : cwk (0) = .inr (3, [.ref (ad (1)), .ref (ad (29)), .ref (ad (31)), .ref (ad (34)), .ref (ad (36))]) := (hfrm (0) (by omega)).trans x0
    have hk_7 : cwk (1) = .inr (0, [.ref (ad (2)), .int (nI now), .int (nI past), .int (nI fut)]) := (hfrm (1) (by omega)).trans g3
    have hk_8 : cwk (2) = .inl (cR, 13, .inr (.inr (.inr (.inr (fr))))) := (hfrm (2) (by omega)).trans ht
    have hk_9 : cwk (3 + 2 * now) = .inr (2, [.ref (ad (4 + 2 * now)), .int (nI ((hs past).length))]) := (hfrm (3 + 2 * now) (by omega)).trans t1
    have hk_10 : cwk (4 + 2 * now) = .inl (cI, 240, .inl (f)) := (hfrm (4 + 2 * now) (by omega)).trans t3
    refine z_iload_n C dX3_differentCharacters_20 0 rfl ?_
    refine z_aload_n C dX3_differentCharacters_21 3 rfl ?_
    refine z_calli (z_runV (As := []) (rest := [.int (nI i)]) C (c_Row_size l D cI cR cL B N ad cwk (by omega) hk_9) (cwV 0 C.2.2.2.2.1 gX3_differentCharacters_X2_size rfl rfl rfl (by decide +kernel) ⟨Nat.le_of_ble_eq_true rfl, Nat.le_of_ble_eq_true rfl⟩) (by omega) hk_9 rfl rfl rfl rfl (Nat.le_of_ble_eq_true rfl) dX3_differentCharacters_22 ⟨Nat.le_of_ble_eq_true rfl, Nat.le_of_ble_eq_true rfl⟩) (fun r11 cw12 hp13 => ?_)
    refine z_cw hp13.2 ?_
    refine z_top hp13.1 ?_
    refine z_icmp_ge (tgt := 65) C dX3_differentCharacters_25 (by decide) (fun c14 => ?_) (fun c14 => ?_)
    · skip
      refine z_iload_n C dX3_differentCharacters_65 1 rfl ?_
      exact z_iret C hr dX3_differentCharacters_66 (⟨by rw [show (hs past).length = i by omega], ⟨f2, e2⟩, hfrm⟩) (Nat.le_of_ble_eq_true rfl) (Nat.le_of_ble_eq_true rfl)
    · skip
      exact absurd (nI_le (by omega) (by omega)) c14
  | succ mm ih =>
    intro i cwk hi hf hfrm
    obtain ⟨f2, e2, hx2⟩ := id hf
    have hk_15 : cwk (0) = .inr (3, [.ref (ad (1)), .ref (ad (29)), .ref (ad (31)), .ref (ad (34)), .ref (ad (36))]) := (hfrm (0) (by omega)).trans x0
    have hk_16 : cwk (1) = .inr (0, [.ref (ad (2)), .int (nI now), .int (nI past), .int (nI fut)]) := (hfrm (1) (by omega)).trans g3
    have hk_17 : cwk (2) = .inl (cR, 13, .inr (.inr (.inr (.inr (fr))))) := (hfrm (2) (by omega)).trans ht
    have hk_18 : cwk (3 + 2 * now) = .inr (2, [.ref (ad (4 + 2 * now)), .int (nI ((hs past).length))]) := (hfrm (3 + 2 * now) (by omega)).trans t1
    have hk_19 : cwk (4 + 2 * now) = .inl (cI, 240, .inl (f)) := (hfrm (4 + 2 * now) (by omega)).trans t3
    refine z_iload_n C dX3_differentCharacters_20 0 rfl ?_
    refine z_aload_n C dX3_differentCharacters_21 3 rfl ?_
    refine z_calli (z_runV (As := []) (rest := [.int (nI i)]) C (c_Row_size l D cI cR cL B N ad cwk (by omega) hk_18) (cwV 0 C.2.2.2.2.1 gX3_differentCharacters_X2_size rfl rfl rfl (by decide +kernel) ⟨Nat.le_of_ble_eq_true rfl, Nat.le_of_ble_eq_true rfl⟩) (by omega) hk_18 rfl rfl rfl rfl (Nat.le_of_ble_eq_true rfl) dX3_differentCharacters_22 ⟨Nat.le_of_ble_eq_true rfl, Nat.le_of_ble_eq_true rfl⟩) (fun r20 cw21 hp22 => ?_)
    refine z_cw hp22.2 ?_
    refine z_top hp22.1 ?_
    refine z_icmp_ge (tgt := 65) C dX3_differentCharacters_25 (by decide) (fun c23 => ?_) (fun c23 => ?_)
    · skip
      exact absurd ((nI_leI (by omega) (by omega)).mp c23) (by omega)
    · skip
      obtain ⟨u, hu, hfu⟩ := g6 past (by omega) _ (zIs_get t4 (show i < _ by omega))
      have hd : (hs past).getD i 0 = nI u := (zIs_getD t4 (by omega)).trans hfu
      have hcl : (List.take i (hs past)).count (nI u) ≤ 240 := Nat.le_trans List.count_le_length (by rw [List.length_take]; omega)
      refine z_aload_n C dX3_differentCharacters_28 3 rfl ?_
      refine z_iload_n C dX3_differentCharacters_29 0 rfl ?_
      refine z_calli (z_runV (As := [.int (nI (i))]) (rest := []) C (c_Row_get l D cI cR cL B N ad cwk (by omega) hk_18 (by decide) (by omega) hk_19 (j := i) (by omega)) (cwV 1 C.2.2.2.2.1 gX3_differentCharacters_X2_get rfl rfl rfl (by decide +kernel) ⟨Nat.le_of_ble_eq_true rfl, Nat.le_of_ble_eq_true rfl⟩) (by omega) hk_18 rfl rfl rfl rfl (Nat.le_of_ble_eq_true rfl) dX3_differentCharacters_30 ⟨Nat.le_of_ble_eq_true rfl, Nat.le_of_ble_eq_true rfl⟩) (fun r24 cw25 hp26 => ?_)
      refine z_cw hp26.2 ?_
      refine z_top hp26.1 ?_
      refine z_top (y := nI u) (hfu) ?_
      refine z_istore (lv' := [(4, .int (nI u)), (3, .int (nI i)), (2, .int (nI (dif (hs past) i))), (0, .ref (ad (0))), (1, .ref (ad (3 + 2 * now)))]) C dX3_differentCharacters_33 (by decide) rfl ?_
      refine z_aload_n C dX3_differentCharacters_35 3 rfl ?_
      refine z_get (Cn := RX3) (T := TX3) (NF := 5) (ci := 3) (v := .ref (ad (36))) C qX3_differentCharacters_0 rfl 4 (by decide) (C.2.2.2.2.1 _ qX3_differentCharacters_2) (fun _ h9 => h9) dX3_differentCharacters_36 (0) (by omega) hk_15 rfl ?_
      refine z_iload C dX3_differentCharacters_39 0 rfl ?_
      refine z_iald C 0 rfl dX3_differentCharacters_41 (36) (by omega) e2 (u) (rfl) (hu) (by decide) ?_
      refine z_top (y := nI ((List.take i (hs past)).count (nI u))) (hx2 u hu) ?_
      refine z_if_ne (tgt := 48) C dX3_differentCharacters_42 (by decide) (fun c27 => ?_) (fun c27 => ?_)
      · skip
        have h0 : nI u ∈ List.take i (hs past) := by apply Classical.byContradiction; intro h9; exact c27 (by rw [List.count_eq_zero.mpr h9]; decide)
        refine z_lv (lv' := [(4, .int (nI u)), (3, .int (nI i)), (2, .int (nI (dif (hs past) i))), (0, .ref (ad (0))), (1, .ref (ad (3 + 2 * now)))]) [0, 1, 2, 3, 4] rfl ?_
        refine z_aload_n C dX3_differentCharacters_48 3 rfl ?_
        refine z_get (Cn := RX3) (T := TX3) (NF := 5) (ci := 3) (v := .ref (ad (36))) C qX3_differentCharacters_0 rfl 4 (by decide) (C.2.2.2.2.1 _ qX3_differentCharacters_2) (fun _ h9 => h9) dX3_differentCharacters_49 (0) (by omega) hk_15 rfl ?_
        refine z_iload C dX3_differentCharacters_52 0 rfl ?_
        refine z_dup2 C dX3_differentCharacters_54 rfl rfl ?_
        refine z_iald C 0 rfl dX3_differentCharacters_55 (36) (by omega) e2 (u) (rfl) (hu) (by decide) ?_
        refine z_top (y := nI ((List.take i (hs past)).count (nI u))) (hx2 u hu) ?_
        refine z_iconst (v := nI 1) C dX3_differentCharacters_56 (by decide) ?_
        refine z_iadd C dX3_differentCharacters_57 ?_
        refine z_top (y := nI ((List.take i (hs past)).count (nI u) + 1)) (nI_1 _) ?_
        obtain ⟨cw28, ecw28⟩ : ∃ z : Nat → va_E, z = va_up (cwk) (36) (.inl (cI, 256, .inl (upd (f2) (u) ((nI ((List.take i (hs past)).count (nI u) + 1)))))) := ⟨_, rfl⟩
        refine z_iast C 0 rfl dX3_differentCharacters_58 (36) (by omega) e2 (u) (rfl) (hu) (by decide) ?_
        refine z_cw ecw28.symm ?_
        have hw_29 : cw28 (0) = .inr (3, [.ref (ad (1)), .ref (ad (29)), .ref (ad (31)), .ref (ad (34)), .ref (ad (36))]) := by rw [ecw28, va_up_ne _ _ (by decide)]; exact hk_15
        have hw_30 : cw28 (1) = .inr (0, [.ref (ad (2)), .int (nI now), .int (nI past), .int (nI fut)]) := by rw [ecw28, va_up_ne _ _ (by decide)]; exact hk_16
        have hw_31 : cw28 (2) = .inl (cR, 13, .inr (.inr (.inr (.inr (fr))))) := by rw [ecw28, va_up_ne _ _ (by decide)]; exact hk_17
        have hw_32 : cw28 (3 + 2 * now) = .inr (2, [.ref (ad (4 + 2 * now)), .int (nI ((hs past).length))]) := by rw [ecw28, va_up_ne _ _ (by omega)]; exact hk_18
        have hw_33 : cw28 (4 + 2 * now) = .inl (cI, 240, .inl (f)) := by rw [ecw28, va_up_ne _ _ (by omega)]; exact hk_19
        have hw_34 : cw28 (36) = .inl (cI, 256, .inl (upd (f2) (u) ((nI ((List.take i (hs past)).count (nI u) + 1))))) := by rw [ecw28, va_up_self]
        refine z_iinc (x := nI (i + 1)) (lv' := [(3, .int (nI (i + 1))), (4, .int (nI u)), (2, .int (nI (dif (hs past) i))), (0, .ref (ad (0))), (1, .ref (ad (3 + 2 * now)))]) C dX3_differentCharacters_59 1 rfl (nI_1 i) (by decide) rfl ?_
        refine z_goto (tgt := 20) C dX3_differentCharacters_62 (by decide) ?_
        have e9 : dif (hs past) (i + 1) = dif (hs past) i := by rw [dif, hd, if_pos h0, Nat.add_zero]
        have ihx := ih (i + 1) cw28 (by omega) ⟨_, hw_34, zCnt_next t4 (by omega) hu hfu hx2⟩ (fun j hj => by rw [ecw28, va_up_ne _ _ hj]; exact hfrm j hj)
        rw [e9] at ihx
        refine z_lv (lv' := [(3, .int (nI (i + 1))), (2, .int (nI (dif (hs past) i))), (0, .ref (ad (0))), (1, .ref (ad (3 + 2 * now)))]) [0, 2, 3, 4] rfl ?_
        exact ihx
      · skip
        have h0 : ¬ nI u ∈ List.take i (hs past) := List.count_eq_zero.mp ((nI_eq (by omega) (by omega)).mp c27)
        refine z_iinc (x := nI (dif (hs past) (i + 1))) (lv' := [(2, .int (nI (dif (hs past) (i + 1)))), (4, .int (nI u)), (3, .int (nI i)), (0, .ref (ad (0))), (1, .ref (ad (3 + 2 * now)))]) C dX3_differentCharacters_45 2 rfl (by rw [dif, hd, if_neg h0]; exact nI_1 _) (by decide) rfl ?_
        refine z_aload_n C dX3_differentCharacters_48 3 rfl ?_
        refine z_get (Cn := RX3) (T := TX3) (NF := 5) (ci := 3) (v := .ref (ad (36))) C qX3_differentCharacters_0 rfl 4 (by decide) (C.2.2.2.2.1 _ qX3_differentCharacters_2) (fun _ h9 => h9) dX3_differentCharacters_49 (0) (by omega) hk_15 rfl ?_
        refine z_iload C dX3_differentCharacters_52 1 rfl ?_
        refine z_dup2 C dX3_differentCharacters_54 rfl rfl ?_
        refine z_iald C 0 rfl dX3_differentCharacters_55 (36) (by omega) e2 (u) (rfl) (hu) (by decide) ?_
        refine z_top (y := nI ((List.take i (hs past)).count (nI u))) (hx2 u hu) ?_
        refine z_iconst (v := nI 1) C dX3_differentCharacters_56 (by decide) ?_
        refine z_iadd C dX3_differentCharacters_57 ?_
        refine z_top (y := nI ((List.take i (hs past)).count (nI u) + 1)) (nI_1 _) ?_
        obtain ⟨cw35, ecw35⟩ : ∃ z : Nat → va_E, z = va_up (cwk) (36) (.inl (cI, 256, .inl (upd (f2) (u) ((nI ((List.take i (hs past)).count (nI u) + 1)))))) := ⟨_, rfl⟩
        refine z_iast C 0 rfl dX3_differentCharacters_58 (36) (by omega) e2 (u) (rfl) (hu) (by decide) ?_
        refine z_cw ecw35.symm ?_
        have hw_36 : cw35 (0) = .inr (3, [.ref (ad (1)), .ref (ad (29)), .ref (ad (31)), .ref (ad (34)), .ref (ad (36))]) := by rw [ecw35, va_up_ne _ _ (by decide)]; exact hk_15
        have hw_37 : cw35 (1) = .inr (0, [.ref (ad (2)), .int (nI now), .int (nI past), .int (nI fut)]) := by rw [ecw35, va_up_ne _ _ (by decide)]; exact hk_16
        have hw_38 : cw35 (2) = .inl (cR, 13, .inr (.inr (.inr (.inr (fr))))) := by rw [ecw35, va_up_ne _ _ (by decide)]; exact hk_17
        have hw_39 : cw35 (3 + 2 * now) = .inr (2, [.ref (ad (4 + 2 * now)), .int (nI ((hs past).length))]) := by rw [ecw35, va_up_ne _ _ (by omega)]; exact hk_18
        have hw_40 : cw35 (4 + 2 * now) = .inl (cI, 240, .inl (f)) := by rw [ecw35, va_up_ne _ _ (by omega)]; exact hk_19
        have hw_41 : cw35 (36) = .inl (cI, 256, .inl (upd (f2) (u) ((nI ((List.take i (hs past)).count (nI u) + 1))))) := by rw [ecw35, va_up_self]
        refine z_iinc (x := nI (i + 1)) (lv' := [(3, .int (nI (i + 1))), (2, .int (nI (dif (hs past) (i + 1)))), (4, .int (nI u)), (0, .ref (ad (0))), (1, .ref (ad (3 + 2 * now)))]) C dX3_differentCharacters_59 2 rfl (nI_1 i) (by decide) rfl ?_
        refine z_goto (tgt := 20) C dX3_differentCharacters_62 (by decide) ?_
        have ihx := ih (i + 1) cw35 (by omega) ⟨_, hw_41, zCnt_next t4 (by omega) hu hfu hx2⟩ (fun j hj => by rw [ecw35, va_up_ne _ _ hj]; exact hfrm j hj)
        refine z_lv (lv' := [(3, .int (nI (i + 1))), (2, .int (nI (dif (hs past) (i + 1)))), (0, .ref (ad (0))), (1, .ref (ad (3 + 2 * now)))]) [0, 1, 3, 4] rfl ?_
        exact ihx

def sTold (x : Int32) (past fut : Nat) (hs : Nat → List Int32) (pat ws : List Int32) : Int32 :=
  if x = nI 0 then nI (hs past).length else if x = nI 1 then nI past else if x = nI 2 then nI fut else if x = nI 3 then nI pat.length else if x = nI 4 then nI ws.length else if x = nI 5 then nI (dif (hs past) (hs past).length) else -1
theorem sTold_out {x : Int32} {past fut : Nat} {hs : Nat → List Int32} {pat ws : List Int32} (h : ∀ j, j < 6 → ¬ x = nI j) : sTold x past fut hs pat ws = -1 := by
  unfold sTold
  rw [if_neg (h 0 (by decide)), if_neg (h 1 (by decide)), if_neg (h 2 (by decide)), if_neg (h 3 (by decide)), if_neg (h 4 (by decide)), if_neg (h 5 (by decide))]
theorem zRX_seen {cI cR : ClassId} {ad : Nat → Nat} {cw cw' : Nat → va_E} {past fut : Nat} {hs : Nat → List Int32} {pat ws dr : List Int32} (h : zRX cI cR ad cw past fut hs pat ws dr) (hk : ∀ j, (j ≠ 36) → cw' j = cw j) (hd : ∃ nf, cw' 36 = .inl (cI, 256, .inl (nf))) : zRX cI cR ad cw' past fut hs pat ws dr := by
  obtain ⟨h0, ⟨now, h1⟩, h2, h3, h4, h5, nf, h6⟩ := h
  exact ⟨(hk 0 (by omega)).trans h0, ⟨now, zHist_kept h1 (fun j _ _ => hk j (by omega))⟩, zTexts_kept h2 (hk 2 (by omega)), zRow_kept h3 (hk _ (by omega)) (hk _ (by omega)), zWords_kept h4 (hk _ (by omega)) (hk _ (by omega)) (hk _ (by omega)), zRow_kept h5 (hk _ (by omega)) (hk _ (by omega)), hd⟩
theorem qX3_told_0 : ∀ w ∈ wsX30, w ∈ wsX3_told := by decide +kernel
theorem qX3_told_1 : Cond.fieldLink RX3 10 "PieceText" "history" "LPieceText$History;" ∈ wsX3_told := by decide +kernel
theorem qX3_told_2 : Cond.fieldLink RX3 21 "PieceText" "sought" "LPieceText$Row;" ∈ wsX3_told := by decide +kernel
theorem qX3_told_3 : Cond.fieldLink RX3 28 "PieceText" "written" "LPieceText$Phrases;" ∈ wsX3_told := by decide +kernel
set_option maxHeartbeats 4000000 in
set_option maxRecDepth 100000 in
theorem c_PT_told (l : Launch) (D : va_G) (cI cR cL : ClassId) (B N : Nat) (ad : Nat → Nat) (cw : Nat → va_E) (hN : 45 < N) {past fut : Nat} {hs : Nat → List Int32} {pat ws dr : List Int32} (hX : zRX cI cR ad cw past fut hs pat ws dr) (x : Int32) : Met l yX3_told wsX3_told ({ frames := 2, cells := 0, slots := 0, locals := 47 } : Room) (va_Pc [.ref (ad (0)), .int (x)] (zI D vwCl (zTy cI cR cL) B N ad cw)) (zQi D vwCl B N ad (fun (v : Int32) (cw' : Nat → va_E) => v = sTold x past fut hs pat ws ∧ zRX cI cR ad cw' past fut hs pat ws dr ∧ ∀ j, 37 ≤ j → cw' j = cw j)) 0 0 (zA B) := by
  obtain ⟨x0, ⟨now, hH⟩, ⟨fr, ht, hfr⟩, ⟨p1, p2, pf, p3, p4⟩, ⟨w1, w2, ⟨wf, w3, w4⟩, sf, w5⟩, ⟨d1, d2, g, d3, d4⟩, nf, x6⟩ := id hX
  obtain ⟨g1, g2, g3, g4, g5, g6⟩ := id hH
  obtain ⟨t1, t2, f, t3, t4⟩ := zHist_now hH
  refine z_ofW (cc := cX3_told) (maxL := 2) (ret := (some .int)) (by decide) rfl (Nat.le_of_ble_eq_true rfl) ?_
  intro p e s m args below meth c C hr hnm
  refine z_lv (lv' := [(0, .ref (ad (0))), (1, .int (x))]) [0, 1] rfl ?_
  refine z_iload_n C dX3_told_0 1 rfl ?_
  rcases pk_ix x (n := 6) (by omega) with hx | hx | ⟨j, hj, rfl⟩
  · refine z_tableOut (tgt := 88) C dX3_told_1 (Or.inl (by rw [Int32.lt_iff_toInt_lt] at hx; exact hx)) (by decide) ?_
    refine z_iconst (v := -1) C dX3_told_88 (by decide) ?_
    exact z_iret C hr dX3_told_89 (⟨(sTold_out (fun j hj e => by rw [e] at hx; exact nI_pos (by omega) hx)).symm, hX, fun _ _ => rfl⟩) (Nat.le_of_ble_eq_true rfl) (Nat.le_of_ble_eq_true rfl)
  · refine z_tableOut (tgt := 88) C dX3_told_1 (Or.inr (by rw [Int32.le_iff_toInt_le] at hx; have h9 : (nI 6).toInt = 6 := (by decide); omega)) (by decide) ?_
    refine z_iconst (v := -1) C dX3_told_88 (by decide) ?_
    exact z_iret C hr dX3_told_89 (⟨(sTold_out (fun j hj e => by rw [e] at hx; have h9 := (nI_leI (by omega) (by omega)).mp hx; omega)).symm, hX, fun _ _ => rfl⟩) (Nat.le_of_ble_eq_true rfl) (Nat.le_of_ble_eq_true rfl)
  · obtain rfl | rfl | rfl | rfl | rfl | rfl : j = 0 ∨ j = 1 ∨ j = 2 ∨ j = 3 ∨ j = 4 ∨ j = 5 := by omega
    · refine z_tableIn (tgt := 40) C dX3_told_1 (by decide) (by decide) rfl (by decide) ?_
      refine z_aload_n C dX3_told_40 0 rfl ?_
      refine z_get (Cn := RX3) (T := TX3) (NF := 5) (ci := 3) (v := .ref (ad (1))) C qX3_told_0 rfl 0 (by decide) (C.2.2.2.2.1 _ qX3_told_1) (fun _ h9 => h9) dX3_told_41 (0) (by omega) x0 rfl ?_
      refine z_callr (z_runV (As := []) (rest := []) C (c_Hist_present l D cI cR cL B N ad cw (by omega) g3 (by omega) ht hfr g1) (cwV 0 C.2.2.2.2.1 gX3_told_X0_present rfl rfl rfl (by decide +kernel) ⟨Nat.le_of_ble_eq_true rfl, Nat.le_of_ble_eq_true rfl⟩) (by omega) g3 rfl rfl rfl rfl (Nat.le_of_ble_eq_true rfl) dX3_told_44 ⟨Nat.le_of_ble_eq_true rfl, Nat.le_of_ble_eq_true rfl⟩) (fun r1 cw2 hp3 => ?_)
      obtain ⟨rfl, hp3c⟩ := hp3
      refine z_cw hp3c ?_
      refine z_calli (z_runV (As := []) (rest := []) C (c_Row_size l D cI cR cL B N ad cw (by omega) t1) (cwV 0 C.2.2.2.2.1 gX3_told_X2_size rfl rfl rfl (by decide +kernel) ⟨Nat.le_of_ble_eq_true rfl, Nat.le_of_ble_eq_true rfl⟩) (by omega) t1 rfl rfl rfl rfl (Nat.le_of_ble_eq_true rfl) dX3_told_47 ⟨Nat.le_of_ble_eq_true rfl, Nat.le_of_ble_eq_true rfl⟩) (fun r4 cw5 hp6 => ?_)
      refine z_cw hp6.2 ?_
      refine z_top hp6.1 ?_
      exact z_iret C hr dX3_told_50 (⟨by unfold sTold; rw [if_pos rfl], hX, fun _ _ => rfl⟩) (Nat.le_of_ble_eq_true rfl) (Nat.le_of_ble_eq_true rfl)
    · refine z_tableIn (tgt := 51) C dX3_told_1 (by decide) (by decide) rfl (by decide) ?_
      refine z_aload_n C dX3_told_51 0 rfl ?_
      refine z_get (Cn := RX3) (T := TX3) (NF := 5) (ci := 3) (v := .ref (ad (1))) C qX3_told_0 rfl 0 (by decide) (C.2.2.2.2.1 _ qX3_told_1) (fun _ h9 => h9) dX3_told_52 (0) (by omega) x0 rfl ?_
      refine z_calli (z_runV (As := []) (rest := []) C (c_Hist_pastSize l D cI cR cL B N ad cw (by omega) g3) (cwV 0 C.2.2.2.2.1 gX3_told_X0_pastSize rfl rfl rfl (by decide +kernel) ⟨Nat.le_of_ble_eq_true rfl, Nat.le_of_ble_eq_true rfl⟩) (by omega) g3 rfl rfl rfl rfl (Nat.le_of_ble_eq_true rfl) dX3_told_55 ⟨Nat.le_of_ble_eq_true rfl, Nat.le_of_ble_eq_true rfl⟩) (fun r7 cw8 hp9 => ?_)
      refine z_cw hp9.2 ?_
      refine z_top hp9.1 ?_
      exact z_iret C hr dX3_told_58 (⟨by unfold sTold; rw [if_neg (by decide), if_pos rfl], hX, fun _ _ => rfl⟩) (Nat.le_of_ble_eq_true rfl) (Nat.le_of_ble_eq_true rfl)
    · refine z_tableIn (tgt := 59) C dX3_told_1 (by decide) (by decide) rfl (by decide) ?_
      refine z_aload_n C dX3_told_59 0 rfl ?_
      refine z_get (Cn := RX3) (T := TX3) (NF := 5) (ci := 3) (v := .ref (ad (1))) C qX3_told_0 rfl 0 (by decide) (C.2.2.2.2.1 _ qX3_told_1) (fun _ h9 => h9) dX3_told_60 (0) (by omega) x0 rfl ?_
      refine z_calli (z_runV (As := []) (rest := []) C (c_Hist_futureSize l D cI cR cL B N ad cw (by omega) g3) (cwV 0 C.2.2.2.2.1 gX3_told_X0_futureSize rfl rfl rfl (by decide +kernel) ⟨Nat.le_of_ble_eq_true rfl, Nat.le_of_ble_eq_true rfl⟩) (by omega) g3 rfl rfl rfl rfl (Nat.le_of_ble_eq_true rfl) dX3_told_63 ⟨Nat.le_of_ble_eq_true rfl, Nat.le_of_ble_eq_true rfl⟩) (fun r10 cw11 hp12 => ?_)
      refine z_cw hp12.2 ?_
      refine z_top hp12.1 ?_
      exact z_iret C hr dX3_told_66 (⟨by unfold sTold; rw [if_neg (by decide), if_neg (by decide), if_pos rfl], hX, fun _ _ => rfl⟩) (Nat.le_of_ble_eq_true rfl) (Nat.le_of_ble_eq_true rfl)
    · refine z_tableIn (tgt := 67) C dX3_told_1 (by decide) (by decide) rfl (by decide) ?_
      refine z_aload_n C dX3_told_67 0 rfl ?_
      refine z_get (Cn := RX3) (T := TX3) (NF := 5) (ci := 3) (v := .ref (ad (29))) C qX3_told_0 rfl 1 (by decide) (C.2.2.2.2.1 _ qX3_told_2) (fun _ h9 => h9) dX3_told_68 (0) (by omega) x0 rfl ?_
      refine z_calli (z_runV (As := []) (rest := []) C (c_Row_size l D cI cR cL B N ad cw (by omega) p1) (cwV 0 C.2.2.2.2.1 gX3_told_X2_size rfl rfl rfl (by decide +kernel) ⟨Nat.le_of_ble_eq_true rfl, Nat.le_of_ble_eq_true rfl⟩) (by omega) p1 rfl rfl rfl rfl (Nat.le_of_ble_eq_true rfl) dX3_told_71 ⟨Nat.le_of_ble_eq_true rfl, Nat.le_of_ble_eq_true rfl⟩) (fun r13 cw14 hp15 => ?_)
      refine z_cw hp15.2 ?_
      refine z_top hp15.1 ?_
      exact z_iret C hr dX3_told_74 (⟨by unfold sTold; rw [if_neg (by decide), if_neg (by decide), if_neg (by decide), if_pos rfl], hX, fun _ _ => rfl⟩) (Nat.le_of_ble_eq_true rfl) (Nat.le_of_ble_eq_true rfl)
    · refine z_tableIn (tgt := 75) C dX3_told_1 (by decide) (by decide) rfl (by decide) ?_
      refine z_aload_n C dX3_told_75 0 rfl ?_
      refine z_get (Cn := RX3) (T := TX3) (NF := 5) (ci := 3) (v := .ref (ad (31))) C qX3_told_0 rfl 2 (by decide) (C.2.2.2.2.1 _ qX3_told_3) (fun _ h9 => h9) dX3_told_76 (0) (by omega) x0 rfl ?_
      refine z_calli (z_runV (As := []) (rest := []) C (c_Phr_size l D cI cR cL B N ad cw (by omega) w1) (cwV 0 C.2.2.2.2.1 gX3_told_X1_size rfl rfl rfl (by decide +kernel) ⟨Nat.le_of_ble_eq_true rfl, Nat.le_of_ble_eq_true rfl⟩) (by omega) w1 rfl rfl rfl rfl (Nat.le_of_ble_eq_true rfl) dX3_told_79 ⟨Nat.le_of_ble_eq_true rfl, Nat.le_of_ble_eq_true rfl⟩) (fun r16 cw17 hp18 => ?_)
      refine z_cw hp18.2 ?_
      refine z_top hp18.1 ?_
      exact z_iret C hr dX3_told_82 (⟨by unfold sTold; rw [if_neg (by decide), if_neg (by decide), if_neg (by decide), if_neg (by decide), if_pos rfl], hX, fun _ _ => rfl⟩) (Nat.le_of_ble_eq_true rfl) (Nat.le_of_ble_eq_true rfl)
    · refine z_tableIn (tgt := 83) C dX3_told_1 (by decide) (by decide) rfl (by decide) ?_
      refine z_aload_n C dX3_told_83 0 rfl ?_
      refine z_calli (z_runV (As := []) (rest := []) C (c_PT_different l D cI cR cL B N ad cw hN hX) (cwV 0 C.2.2.2.2.1 gX3_told_X3_differentCharacters rfl rfl rfl (by decide +kernel) ⟨Nat.le_of_ble_eq_true rfl, Nat.le_of_ble_eq_true rfl⟩) (by omega) x0 rfl rfl rfl rfl (Nat.le_of_ble_eq_true rfl) dX3_told_84 ⟨Nat.le_of_ble_eq_true rfl, Nat.le_of_ble_eq_true rfl⟩) (fun r19 cw20 hp21 => ?_)
      exact z_iret C hr dX3_told_87 (⟨by rw [hp21.1]; unfold sTold; rw [if_neg (by decide), if_neg (by decide), if_neg (by decide), if_neg (by decide), if_neg (by decide), if_pos rfl], zRX_seen hX hp21.2.2 hp21.2.1, fun j hj => hp21.2.2 j (by omega)⟩) (Nat.le_of_ble_eq_true rfl) (Nat.le_of_ble_eq_true rfl)
end
section
def zNum (ws : List Int32) (x : Int32) (s0 : Nat) : Nat := match (List.range ws.length).find? (fun i => decide (s0 ≤ i ∧ ws[i]? = some x)) with
  | some i => i + 1
  | none => 0
theorem zNum_some {ws : List Int32} {x : Int32} {s0 i : Nat} (h1 : s0 ≤ i) (h2 : ws[i]? = some x) (h3 : ∀ j, s0 ≤ j → j < i → ¬ ws[j]? = some x) : zNum ws x s0 = i + 1 := by
  unfold zNum
  have hi : i < ws.length := (List.getElem?_eq_some_iff.mp h2).1
  have : (List.range ws.length).find? (fun i => decide (s0 ≤ i ∧ ws[i]? = some x)) = some i := by
    rw [List.find?_range_eq_some]
    refine ⟨by simp [h1, h2], by simp [hi], fun j hj => ?_⟩
    by_cases hs : s0 ≤ j
    · simp [h3 j hs hj]
    · simp [hs]
  rw [this]
theorem zNum_none {ws : List Int32} {x : Int32} {s0 : Nat} (h : ∀ j, s0 ≤ j → j < ws.length → ¬ ws[j]? = some x) : zNum ws x s0 = 0 := by
  unfold zNum
  have : (List.range ws.length).find? (fun i => decide (s0 ≤ i ∧ ws[i]? = some x)) = none := by
    rw [List.find?_range_eq_none]
    intro j hj
    by_cases hs : s0 ≤ j
    · simp [h j hs hj]
    · simp [hs]
  rw [this]
def sLz : List Int32 → Nat → List Int32 → List Int32
  | [], k, ws => if 0 < k then ws ++ [nI (257 * k + 256)] else ws
  | x :: r, k, ws => if zNum ws (nI (257 * k) + x) k = 0 then sLz r 0 (ws ++ [nI (257 * k) + x]) else sLz r (zNum ws (nI (257 * k) + x) k) ws
theorem zIs_drop {f : Nat → Int32} {xs : List Int32} (h : zIs f xs) {i : Nat} (hi : i < xs.length) : xs.drop i = f i :: xs.drop (i + 1) := by
  rw [List.drop_eq_getElem_cons hi]
  congr 1
  have h1 := h i hi
  rw [List.getElem?_eq_getElem hi] at h1
  exact Option.some.inj h1
theorem qX1_writeDown_0 : ∀ w ∈ wsX10, w ∈ wsX1_writeDown := by decide +kernel
theorem qX1_writeDown_1 : Cond.fieldLink RX1 18 "PieceText$Phrases" "count" "I" ∈ wsX1_writeDown := by decide +kernel
set_option maxHeartbeats 4000000 in
set_option maxRecDepth 100000 in
theorem c_Phr_writeDown (l : Launch) (D : va_G) (cI cR cL : ClassId) (B N : Nat) (ad : Nat → Nat) (cw : Nat → va_E) (hN : 45 < N) {now : Nat} {xs ws : List Int32} (g1 : now < 13) (hT : zRow cI ad cw (3 + 2 * now) (4 + 2 * now) 240 xs) (hW : zWords cI ad cw ws) : Met l yX1_writeDown wsX1_writeDown ({ frames := 1, cells := 0, slots := 0, locals := 23 } : Room) (va_Pc [.ref (ad (31)), .ref (ad (3 + 2 * now))] (zI D vwCl (zTy cI cR cL) B N ad cw)) (zQv D vwCl B N ad (fun (cw' : Nat → va_E) => zWords cI ad cw' (sLz xs 0 []) ∧ ∀ j, (j ≠ 31 ∧ j ≠ 32) → cw' j = cw j)) 0 0 (zA B) := by
  obtain ⟨t1, t2, f, t3, t4⟩ := id hT
  obtain ⟨w1, w2, ⟨wf, w3, w4⟩, sf, w5⟩ := id hW
  refine z_ofW (cc := cX1_writeDown) (maxL := 6) (ret := none) (by decide) rfl (Nat.le_of_ble_eq_true rfl) ?_
  intro p e s m args below meth c C hr hnm
  refine z_lv (lv' := [(0, .ref (ad (31))), (1, .ref (ad (3 + 2 * now)))]) [0, 1] rfl ?_
  refine z_aload_n C dX1_writeDown_0 0 rfl ?_
  refine z_iconst (v := nI 0) C dX1_writeDown_1 (by decide) ?_
  obtain ⟨cw1, ecw1⟩ : ∃ z : Nat → va_E, z = va_up (cw) (31) (.inr (1, [.ref (ad (32)), .ref (ad (33)), .int (nI 0)])) := ⟨_, rfl⟩
  refine z_put (Cn := RX1) (T := TX1) (NF := 3) (ci := 1) (ty := .int) (v := .int (nI 0)) C qX1_writeDown_0 tyX1_ok nmX1 rfl 2 (by decide) (C.2.2.2.2.1 _ qX1_writeDown_1) (fun _ h9 => h9) rfl (by decide +kernel) dX1_writeDown_2 (31) (by omega) w1 rfl rfl (Nat.le_of_ble_eq_true rfl) ?_
  refine z_cw ecw1.symm ?_
  have hw_2 : cw1 (3 + 2 * now) = .inr (2, [.ref (ad (4 + 2 * now)), .int (nI (xs.length))]) := by rw [ecw1, va_up_ne _ _ (by omega)]; exact t1
  have hw_3 : cw1 (4 + 2 * now) = .inl (cI, 240, .inl (f)) := by rw [ecw1, va_up_ne _ _ (by omega)]; exact t3
  have hw_4 : cw1 (31) = .inr (1, [.ref (ad (32)), .ref (ad (33)), .int (nI 0)]) := by rw [ecw1, va_up_self]
  have hw_5 : cw1 (32) = .inl (cI, 240, .inl (wf)) := by rw [ecw1, va_up_ne _ _ (by decide)]; exact w3
  have hw_6 : cw1 (33) = .inl (cI, 241, .inl (sf)) := by rw [ecw1, va_up_ne _ _ (by decide)]; exact w5
  refine z_iconst (v := nI 0) C dX1_writeDown_5 (by decide) ?_
  refine z_istore_n (lv' := [(2, .int (nI 0)), (0, .ref (ad (31))), (1, .ref (ad (3 + 2 * now)))]) C dX1_writeDown_6 rfl (by decide) rfl ?_
  refine z_iconst (v := nI 0) C dX1_writeDown_7 (by decide) ?_
  refine z_istore_n (lv' := [(3, .int (nI 0)), (2, .int (nI 0)), (0, .ref (ad (31))), (1, .ref (ad (3 + 2 * now)))]) C dX1_writeDown_8 rfl (by decide) rfl ?_
  refine z_lv (lv' := [(3, .int (nI 0)), (2, .int (nI 0)), (0, .ref (ad (31))), (1, .ref (ad (3 + 2 * now)))]) [0, 1, 2, 3] rfl ?_
  suffices loop : ∀ (mm i k : Nat) (wk : List Int32) (cwk : Nat → va_E), xs.length = i + mm → k ≤ wk.length → wk.length + (if 0 < k then 1 else 0) ≤ i → sLz (xs.drop i) k wk = sLz xs 0 [] → zWords cI ad cwk wk → (∀ j, (j ≠ 31 ∧ j ≠ 32) → cwk j = cw j) → zG p l e (headSpec wsX1_writeDown ({ frames := 1, cells := 0, slots := 0, locals := 23 } : Room)).room s m args below meth c (MQ below (zQv D vwCl B N ad (fun (cw' : Nat → va_E) => zWords cI ad cw' (sLz xs 0 []) ∧ ∀ j, (j ≠ 31 ∧ j ≠ 32) → cw' j = cw j)) args s 0 0 (zA B)) D vwCl B 6 N ad cwk 0 0 [(3, .int (nI i)), (2, .int (nI k)), (0, .ref (ad (31))), (1, .ref (ad (3 + 2 * now)))] 9 [] from loop xs.length 0 0 [] cw1 (by omega) (Nat.le_refl _) (Nat.le_refl _) rfl ⟨hw_4, Nat.zero_le _, ⟨_, hw_5, zIs_nil _⟩, _, hw_6⟩ (fun j hj => by rw [ecw1, va_up_ne _ _ (by omega)])
  intro mm
  induction mm with
  | zero =>
    intro i k wk cwk hi hk hb hz hWk hfrm
    obtain ⟨v1, v2, ⟨vf, v3, v4⟩, v6, v5⟩ := id hWk
    have hk_7 : cwk (3 + 2 * now) = .inr (2, [.ref (ad (4 + 2 * now)), .int (nI (xs.length))]) := (hfrm (3 + 2 * now) (by omega)).trans t1
    have hk_8 : cwk (4 + 2 * now) = .inl (cI, 240, .inl (f)) := (hfrm (4 + 2 * now) (by omega)).trans t3
    refine z_iload_n C dX1_writeDown_9 0 rfl ?_
    refine z_aload_n C dX1_writeDown_10 3 rfl ?_
    refine z_calli (z_runV (As := []) (rest := [.int (nI i)]) C (c_Row_size l D cI cR cL B N ad cwk (by omega) hk_7) (cwV 0 C.2.2.2.2.1 gX1_writeDown_X2_size rfl rfl rfl (by decide +kernel) ⟨Nat.le_of_ble_eq_true rfl, Nat.le_of_ble_eq_true rfl⟩) (by omega) hk_7 rfl rfl rfl rfl (Nat.le_of_ble_eq_true rfl) dX1_writeDown_11 ⟨Nat.le_of_ble_eq_true rfl, Nat.le_of_ble_eq_true rfl⟩) (fun r9 cw10 hp11 => ?_)
    refine z_cw hp11.2 ?_
    refine z_top hp11.1 ?_
    refine z_icmp_ge (tgt := 59) C dX1_writeDown_14 (by decide) (fun c12 => ?_) (fun c12 => ?_)
    · skip
      rw [List.drop_eq_nil_of_le (by omega), sLz] at hz
      refine z_iload_n C dX1_writeDown_59 1 rfl ?_
      refine z_if_le (tgt := 76) C dX1_writeDown_60 (by decide) (fun c13 => ?_) (fun c13 => ?_)
      · skip
        have h0 : ¬ 0 < k := fun h9 => nI_nle h9 (by omega) c13
        rw [if_neg h0] at hz
        exact z_vret C hr dX1_writeDown_76 (⟨by rw [← hz]; exact hWk, hfrm⟩) (Nat.le_of_ble_eq_true rfl) (Nat.le_of_ble_eq_true rfl)
      · skip
        have h0 : 0 < k := Nat.pos_of_ne_zero (fun h9 => c13 (by rw [h9]; decide))
        rw [if_pos h0] at hz hb
        refine z_aload_n C dX1_writeDown_63 2 rfl ?_
        refine z_sipush (v := nI 257) C dX1_writeDown_64 (by decide) ?_
        refine z_iload_n C dX1_writeDown_67 1 rfl ?_
        refine z_imul C dX1_writeDown_68 ?_
        refine z_top (y := nI (257 * k)) (pk_mul _ _) ?_
        refine z_sipush (v := nI 256) C dX1_writeDown_69 (by decide) ?_
        refine z_iadd C dX1_writeDown_72 ?_
        refine z_top (y := nI (257 * k + 256)) (nI_add _ _) ?_
        refine z_callv (z_runV (As := [.int (nI (257 * k + 256))]) (rest := []) C (c_Phr_addWord l D cI cR cL B N ad cwk (by omega) v1 v3 (by omega) (nI (257 * k + 256))) (cwV 1 C.2.2.2.2.1 gX1_writeDown_X1_addWord rfl rfl rfl (by decide +kernel) ⟨Nat.le_of_ble_eq_true rfl, Nat.le_of_ble_eq_true rfl⟩) (by omega) v1 rfl rfl rfl rfl (Nat.le_of_ble_eq_true rfl) dX1_writeDown_73 ⟨Nat.le_of_ble_eq_true rfl, Nat.le_of_ble_eq_true rfl⟩) (fun cw14 hp15 => ?_)
        have hw_16 : cw14 (3 + 2 * now) = .inr (2, [.ref (ad (4 + 2 * now)), .int (nI (xs.length))]) := by rw [hp15, va_up_ne _ _ (by omega), va_up_ne _ _ (by omega)]; exact hk_7
        have hw_17 : cw14 (4 + 2 * now) = .inl (cI, 240, .inl (f)) := by rw [hp15, va_up_ne _ _ (by omega), va_up_ne _ _ (by omega)]; exact hk_8
        have hw_18 : cw14 (31) = .inr (1, [.ref (ad (32)), .ref (ad (33)), .int (nI (wk.length + 1))]) := by rw [hp15, va_up_self]
        have hw_19 : cw14 (32) = .inl (cI, 240, .inl (upd (vf) (wk.length) (nI (257 * k + 256)))) := by rw [hp15, va_up_ne _ _ (by decide), va_up_self]
        have hw_20 : cw14 (33) = .inl (cI, 241, .inl (v6)) := by rw [hp15, va_up_ne _ _ (by decide), va_up_ne _ _ (by decide)]; exact v5
        exact z_vret C hr dX1_writeDown_76 (⟨by rw [← hz]; exact ⟨by rw [hw_18, List.length_append]; rfl, by rw [List.length_append]; show wk.length + 1 ≤ _; omega, ⟨_, hw_19, zIs_add v4 _⟩, _, hw_20⟩, fun j hj => by rw [hp15, va_up_ne _ _ (by omega), va_up_ne _ _ (by omega)]; exact hfrm j hj⟩) (Nat.le_of_ble_eq_true rfl) (Nat.le_of_ble_eq_true rfl)
    · skip
      exact absurd (nI_le (by omega) (by omega)) c12
  | succ mm ih =>
    intro i k wk cwk hi hk hb hz hWk hfrm
    obtain ⟨v1, v2, ⟨vf, v3, v4⟩, v6, v5⟩ := id hWk
    have hk_21 : cwk (3 + 2 * now) = .inr (2, [.ref (ad (4 + 2 * now)), .int (nI (xs.length))]) := (hfrm (3 + 2 * now) (by omega)).trans t1
    have hk_22 : cwk (4 + 2 * now) = .inl (cI, 240, .inl (f)) := (hfrm (4 + 2 * now) (by omega)).trans t3
    refine z_iload_n C dX1_writeDown_9 0 rfl ?_
    refine z_aload_n C dX1_writeDown_10 3 rfl ?_
    refine z_calli (z_runV (As := []) (rest := [.int (nI i)]) C (c_Row_size l D cI cR cL B N ad cwk (by omega) hk_21) (cwV 0 C.2.2.2.2.1 gX1_writeDown_X2_size rfl rfl rfl (by decide +kernel) ⟨Nat.le_of_ble_eq_true rfl, Nat.le_of_ble_eq_true rfl⟩) (by omega) hk_21 rfl rfl rfl rfl (Nat.le_of_ble_eq_true rfl) dX1_writeDown_11 ⟨Nat.le_of_ble_eq_true rfl, Nat.le_of_ble_eq_true rfl⟩) (fun r23 cw24 hp25 => ?_)
    refine z_cw hp25.2 ?_
    refine z_top hp25.1 ?_
    refine z_icmp_ge (tgt := 59) C dX1_writeDown_14 (by decide) (fun c26 => ?_) (fun c26 => ?_)
    · skip
      exact absurd ((nI_leI (by omega) (by omega)).mp c26) (by omega)
    · skip
      rw [zIs_drop t4 (by omega), sLz] at hz
      have hwl : wk.length ≤ i := by split at hb <;> omega
      refine z_sipush (v := nI 257) C dX1_writeDown_17 (by decide) ?_
      refine z_iload_n C dX1_writeDown_20 1 rfl ?_
      refine z_imul C dX1_writeDown_21 ?_
      refine z_top (y := nI (257 * k)) (pk_mul _ _) ?_
      refine z_aload_n C dX1_writeDown_22 3 rfl ?_
      refine z_iload_n C dX1_writeDown_23 0 rfl ?_
      refine z_calli (z_runV (As := [.int (nI (i))]) (rest := [.int (nI (257 * k))]) C (c_Row_get l D cI cR cL B N ad cwk (by omega) hk_21 (by decide) (by omega) hk_22 (j := i) (by omega)) (cwV 1 C.2.2.2.2.1 gX1_writeDown_X2_get rfl rfl rfl (by decide +kernel) ⟨Nat.le_of_ble_eq_true rfl, Nat.le_of_ble_eq_true rfl⟩) (by omega) hk_21 rfl rfl rfl rfl (Nat.le_of_ble_eq_true rfl) dX1_writeDown_24 ⟨Nat.le_of_ble_eq_true rfl, Nat.le_of_ble_eq_true rfl⟩) (fun r27 cw28 hp29 => ?_)
      refine z_cw hp29.2 ?_
      refine z_top hp29.1 ?_
      refine z_iadd C dX1_writeDown_27 ?_
      refine z_istore (lv' := [(4, .int ((nI (257 * k)) + (f (i)))), (3, .int (nI i)), (2, .int (nI k)), (0, .ref (ad (31))), (1, .ref (ad (3 + 2 * now)))]) C dX1_writeDown_28 (by decide) rfl ?_
      refine z_aload_n C dX1_writeDown_30 3 rfl ?_
      refine z_iload C dX1_writeDown_31 0 rfl ?_
      refine z_iload_n C dX1_writeDown_33 2 rfl ?_
      refine z_calli (z_runV (As := [.int ((nI (257 * k) + f (i))), .int (nI k)]) (rest := []) C (c_Phr_numberOf l D cI cR cL B N ad cwk (by omega) v1 v3 (s0 := k) (hk) (v2) ((nI (257 * k) + f (i)))) (cwV 2 C.2.2.2.2.1 gX1_writeDown_X1_numberOf rfl rfl rfl (by decide +kernel) ⟨Nat.le_of_ble_eq_true rfl, Nat.le_of_ble_eq_true rfl⟩) (by omega) v1 rfl rfl rfl rfl (Nat.le_of_ble_eq_true rfl) dX1_writeDown_34 ⟨Nat.le_of_ble_eq_true rfl, Nat.le_of_ble_eq_true rfl⟩) (fun r30 cw31 hp32 => ?_)
      refine z_cw hp32.2 ?_
      refine z_istore (lv' := [(5, .int (r30)), (4, .int ((nI (257 * k)) + (f (i)))), (3, .int (nI i)), (2, .int (nI k)), (0, .ref (ad (31))), (1, .ref (ad (3 + 2 * now)))]) C dX1_writeDown_37 (by decide) rfl ?_
      refine z_iload C dX1_writeDown_39 0 rfl ?_
      refine z_if_ne (tgt := 50) C dX1_writeDown_41 (by decide) (fun c33 => ?_) (fun c33 => ?_)
      · skip
        obtain ⟨i2, b1, b2, b3, b4, b5⟩ : ∃ i2, k ≤ i2 ∧ i2 < wk.length ∧ vf i2 = nI (257 * k) + f i ∧ (∀ j, k ≤ j → j < i2 → vf j ≠ nI (257 * k) + f i) ∧ r30 = nI (i2 + 1) := by rcases hp32.1 with h9 | h9; exact h9; exact absurd h9.2 c33
        have hnum : zNum wk (nI (257 * k) + f i) k = i2 + 1 := zNum_some b1 (by rw [v4 i2 b2, b3]) (fun j h1 h2 h3 => b4 j h1 h2 (by rw [v4 j (by omega)] at h3; exact Option.some.inj h3))
        rw [hnum, if_neg (by omega)] at hz
        refine z_iload C dX1_writeDown_50 0 rfl ?_
        refine z_istore_n (lv' := [(2, .int (r30)), (5, .int (r30)), (4, .int ((nI (257 * k)) + (f (i)))), (3, .int (nI i)), (0, .ref (ad (31))), (1, .ref (ad (3 + 2 * now)))]) C dX1_writeDown_52 rfl (by decide) rfl ?_
        refine z_iinc (x := nI (i + 1)) (lv' := [(3, .int (nI (i + 1))), (2, .int (r30)), (5, .int (r30)), (4, .int ((nI (257 * k)) + (f (i)))), (0, .ref (ad (31))), (1, .ref (ad (3 + 2 * now)))]) C dX1_writeDown_53 3 rfl (nI_1 i) (by decide) rfl ?_
        refine z_goto (tgt := 9) C dX1_writeDown_56 (by decide) ?_
        rw [b5]
        refine z_lv (lv' := [(3, .int (nI (i + 1))), (2, .int (nI (i2 + 1))), (0, .ref (ad (31))), (1, .ref (ad (3 + 2 * now)))]) [0, 1, 4, 5] rfl ?_
        exact ih (i + 1) (i2 + 1) wk _ (by omega) (by omega) (by rw [if_pos (by omega)]; omega) hz hWk hfrm
      · skip
        have hall : ∀ j, k ≤ j → j < wk.length → vf j ≠ nI (257 * k) + f i := by rcases hp32.1 with ⟨i2, b1, b2, b3, b4, b5⟩ | h9; exact absurd (b5.symm.trans c33) (nI_ne0 (by omega) (by omega)); exact h9.1
        have hnum : zNum wk (nI (257 * k) + f i) k = 0 := zNum_none (fun j h1 h2 h3 => hall j h1 h2 (by rw [v4 j h2] at h3; exact Option.some.inj h3))
        rw [if_pos hnum] at hz
        refine z_aload_n C dX1_writeDown_44 4 rfl ?_
        refine z_iload C dX1_writeDown_45 1 rfl ?_
        refine z_callv (z_runV (As := [.int ((nI (257 * k) + f (i)))]) (rest := []) C (c_Phr_addWord l D cI cR cL B N ad cwk (by omega) v1 v3 (by omega) ((nI (257 * k) + f (i)))) (cwV 1 C.2.2.2.2.1 gX1_writeDown_X1_addWord rfl rfl rfl (by decide +kernel) ⟨Nat.le_of_ble_eq_true rfl, Nat.le_of_ble_eq_true rfl⟩) (by omega) v1 rfl rfl rfl rfl (Nat.le_of_ble_eq_true rfl) dX1_writeDown_47 ⟨Nat.le_of_ble_eq_true rfl, Nat.le_of_ble_eq_true rfl⟩) (fun cw34 hp35 => ?_)
        have hw_36 : cw34 (3 + 2 * now) = .inr (2, [.ref (ad (4 + 2 * now)), .int (nI (xs.length))]) := by rw [hp35, va_up_ne _ _ (by omega), va_up_ne _ _ (by omega)]; exact hk_21
        have hw_37 : cw34 (4 + 2 * now) = .inl (cI, 240, .inl (f)) := by rw [hp35, va_up_ne _ _ (by omega), va_up_ne _ _ (by omega)]; exact hk_22
        have hw_38 : cw34 (31) = .inr (1, [.ref (ad (32)), .ref (ad (33)), .int (nI (wk.length + 1))]) := by rw [hp35, va_up_self]
        have hw_39 : cw34 (32) = .inl (cI, 240, .inl (upd (vf) (wk.length) ((nI (257 * k) + f (i))))) := by rw [hp35, va_up_ne _ _ (by decide), va_up_self]
        have hw_40 : cw34 (33) = .inl (cI, 241, .inl (v6)) := by rw [hp35, va_up_ne _ _ (by decide), va_up_ne _ _ (by decide)]; exact v5
        refine z_iload C dX1_writeDown_50 0 rfl ?_
        refine z_istore_n (lv' := [(2, .int (r30)), (5, .int (r30)), (4, .int ((nI (257 * k)) + (f (i)))), (3, .int (nI i)), (0, .ref (ad (31))), (1, .ref (ad (3 + 2 * now)))]) C dX1_writeDown_52 rfl (by decide) rfl ?_
        refine z_iinc (x := nI (i + 1)) (lv' := [(3, .int (nI (i + 1))), (2, .int (r30)), (5, .int (r30)), (4, .int ((nI (257 * k)) + (f (i)))), (0, .ref (ad (31))), (1, .ref (ad (3 + 2 * now)))]) C dX1_writeDown_53 3 rfl (nI_1 i) (by decide) rfl ?_
        refine z_goto (tgt := 9) C dX1_writeDown_56 (by decide) ?_
        rw [show r30 = nI 0 from c33]
        refine z_lv (lv' := [(3, .int (nI (i + 1))), (2, .int (nI 0)), (0, .ref (ad (31))), (1, .ref (ad (3 + 2 * now)))]) [0, 1, 4, 5] rfl ?_
        exact ih (i + 1) 0 (wk ++ [nI (257 * k) + f i]) _ (by omega) (Nat.zero_le _) (by rw [if_neg (by omega), List.length_append]; show wk.length + 1 + 0 ≤ _; omega) hz ⟨by rw [hw_38, List.length_append]; rfl, by rw [List.length_append]; show wk.length + 1 ≤ _; omega, ⟨_, hw_39, zIs_add v4 _⟩, _, hw_40⟩ (fun j hj => by rw [hp35, va_up_ne _ _ (by omega), va_up_ne _ _ (by omega)]; exact hfrm j hj)

theorem qX3_snapshot_0 : ∀ w ∈ wsX30, w ∈ wsX3_snapshot := by decide +kernel
theorem qX3_snapshot_1 : Cond.fieldLink RX3 28 "PieceText" "written" "LPieceText$Phrases;" ∈ wsX3_snapshot := by decide +kernel
theorem qX3_snapshot_2 : Cond.fieldLink RX3 10 "PieceText" "history" "LPieceText$History;" ∈ wsX3_snapshot := by decide +kernel
set_option maxHeartbeats 4000000 in
set_option maxRecDepth 100000 in
theorem c_PT_snapshot (l : Launch) (D : va_G) (cI cR cL : ClassId) (B N : Nat) (ad : Nat → Nat) (cw : Nat → va_E) (hN : 45 < N) {past fut : Nat} {hs : Nat → List Int32} {pat ws dr : List Int32} (hX : zRX cI cR ad cw past fut hs pat ws dr) : Met l yX3_snapshot wsX3_snapshot ({ frames := 2, cells := 0, slots := 0, locals := 48 } : Room) (va_Pc [.ref (ad (0))] (zI D vwCl (zTy cI cR cL) B N ad cw)) (zQi D vwCl B N ad (fun (v : Int32) (cw' : Nat → va_E) => v = nI (sLz (hs past) 0 []).length ∧ zRX cI cR ad cw' past fut hs pat (sLz (hs past) 0 []) dr ∧ ∀ j, 37 ≤ j → cw' j = cw j)) 0 0 (zA B) := by
  obtain ⟨x0, ⟨now, hH⟩, ⟨fr, ht, hfr⟩, ⟨p1, p2, pf, p3, p4⟩, ⟨w1, w2, ⟨wf, w3, w4⟩, sf, w5⟩, ⟨d1, d2, g, d3, d4⟩, nf, x6⟩ := id hX
  obtain ⟨g1, g2, g3, g4, g5, g6⟩ := id hH
  obtain ⟨t1, t2, f, t3, t4⟩ := zHist_now hH
  refine z_ofW (cc := cX3_snapshot) (maxL := 1) (ret := (some .int)) (by decide) rfl (Nat.le_of_ble_eq_true rfl) ?_
  intro p e s m args below meth c C hr hnm
  refine z_lv (lv' := [(0, .ref (ad (0)))]) [0] rfl ?_
  refine z_aload_n C dX3_snapshot_0 0 rfl ?_
  refine z_get (Cn := RX3) (T := TX3) (NF := 5) (ci := 3) (v := .ref (ad (31))) C qX3_snapshot_0 rfl 2 (by decide) (C.2.2.2.2.1 _ qX3_snapshot_1) (fun _ h9 => h9) dX3_snapshot_1 (0) (by omega) x0 rfl ?_
  refine z_aload_n C dX3_snapshot_4 0 rfl ?_
  refine z_get (Cn := RX3) (T := TX3) (NF := 5) (ci := 3) (v := .ref (ad (1))) C qX3_snapshot_0 rfl 0 (by decide) (C.2.2.2.2.1 _ qX3_snapshot_2) (fun _ h9 => h9) dX3_snapshot_5 (0) (by omega) x0 rfl ?_
  refine z_callr (z_runV (As := []) (rest := [.ref (ad (31))]) C (c_Hist_present l D cI cR cL B N ad cw (by omega) g3 (by omega) ht hfr g1) (cwV 0 C.2.2.2.2.1 gX3_snapshot_X0_present rfl rfl rfl (by decide +kernel) ⟨Nat.le_of_ble_eq_true rfl, Nat.le_of_ble_eq_true rfl⟩) (by omega) g3 rfl rfl rfl rfl (Nat.le_of_ble_eq_true rfl) dX3_snapshot_8 ⟨Nat.le_of_ble_eq_true rfl, Nat.le_of_ble_eq_true rfl⟩) (fun r1 cw2 hp3 => ?_)
  obtain ⟨rfl, hp3c⟩ := hp3
  refine z_cw hp3c ?_
  refine z_callv (z_runV (As := [.ref (ad (3 + 2 * now))]) (rest := []) C (c_Phr_writeDown l D cI cR cL B N ad cw hN g1 (zHist_now hH) hX.2.2.2.2.1) (cwV 1 C.2.2.2.2.1 gX3_snapshot_X1_writeDown rfl rfl rfl (by decide +kernel) ⟨Nat.le_of_ble_eq_true rfl, Nat.le_of_ble_eq_true rfl⟩) (by omega) w1 rfl rfl rfl rfl (Nat.le_of_ble_eq_true rfl) dX3_snapshot_11 ⟨Nat.le_of_ble_eq_true rfl, Nat.le_of_ble_eq_true rfl⟩) (fun cw4 hp5 => ?_)
  have hw_6 : cw4 (0) = .inr (3, [.ref (ad (1)), .ref (ad (29)), .ref (ad (31)), .ref (ad (34)), .ref (ad (36))]) := by rw [hp5.2 (0) (by omega)]; exact x0
  have hw_7 : cw4 (1) = .inr (0, [.ref (ad (2)), .int (nI now), .int (nI past), .int (nI fut)]) := by rw [hp5.2 (1) (by omega)]; exact g3
  have hw_8 : cw4 (2) = .inl (cR, 13, .inr (.inr (.inr (.inr (fr))))) := by rw [hp5.2 (2) (by omega)]; exact ht
  have hw_9 : cw4 (31) = .inr (1, [.ref (ad (32)), .ref (ad (33)), .int (nI ((sLz (hs past) 0 []).length))]) := hp5.1.1
  refine z_aload_n C dX3_snapshot_14 0 rfl ?_
  refine z_get (Cn := RX3) (T := TX3) (NF := 5) (ci := 3) (v := .ref (ad (31))) C qX3_snapshot_0 rfl 2 (by decide) (C.2.2.2.2.1 _ qX3_snapshot_1) (fun _ h9 => h9) dX3_snapshot_15 (0) (by omega) hw_6 rfl ?_
  refine z_calli (z_runV (As := []) (rest := []) C (c_Phr_size l D cI cR cL B N ad cw4 (by omega) hw_9) (cwV 0 C.2.2.2.2.1 gX3_snapshot_X1_size rfl rfl rfl (by decide +kernel) ⟨Nat.le_of_ble_eq_true rfl, Nat.le_of_ble_eq_true rfl⟩) (by omega) hw_9 rfl rfl rfl rfl (Nat.le_of_ble_eq_true rfl) dX3_snapshot_18 ⟨Nat.le_of_ble_eq_true rfl, Nat.le_of_ble_eq_true rfl⟩) (fun r10 cw11 hp12 => ?_)
  refine z_cw hp12.2 ?_
  refine z_top hp12.1 ?_
  exact z_iret C hr dX3_snapshot_21 (⟨rfl, zRX_words hX (fun j hj => hp5.2 j (by omega)) hp5.1, fun j hj => hp5.2 j (by omega)⟩) (Nat.le_of_ble_eq_true rfl) (Nat.le_of_ble_eq_true rfl)
end
section
def sPh (P : List (List Int32)) (u : Nat) : List Int32 := (if u / 257 = 0 then [] else P.getD (u / 257 - 1) []) ++ (if u % 257 = 256 then [] else [nI (u % 257)])
def zSv (P : List (List Int32)) (a : Nat) : Nat := (P.take a).flatten.length
theorem zSv_next {P : List (List Int32)} {a : Nat} (h : a < P.length) : zSv P (a + 1) = zSv P a + (P.getD a []).length := by
  unfold zSv
  rw [List.take_succ, List.getElem?_eq_getElem h, List.flatten_append, List.length_append, List.getD_eq_getElem?_getD, List.getElem?_eq_getElem h]
  simp
theorem zSv_all {P : List (List Int32)} {a : Nat} (h : P.length ≤ a) : zSv P a = P.flatten.length := by
  unfold zSv
  rw [List.take_of_length_le h]
theorem zSv_mono {P : List (List Int32)} {a : Nat} (d : Nat) : zSv P a ≤ zSv P (a + d) := by
  induction d with
  | zero => exact Nat.le_refl _
  | succ d ih =>
    refine Nat.le_trans ih ?_
    by_cases h : a + d < P.length
    · rw [show a + (d + 1) = a + d + 1 from rfl, zSv_next h]; omega
    · rw [zSv_all (by omega), zSv_all (by omega)]; exact Nat.le_refl _
theorem zSv_le {P : List (List Int32)} {a b : Nat} (h : a ≤ b) : zSv P a ≤ zSv P b := by
  have h1 := zSv_mono (P := P) (a := a) (b - a)
  rw [show a + (b - a) = b by omega] at h1
  exact h1
theorem zSv_top {P : List (List Int32)} (a : Nat) : zSv P a ≤ P.flatten.length := by
  have h1 := zSv_mono (P := P) (a := a) P.length
  rw [zSv_all (a := a + P.length) (by omega)] at h1
  exact h1
theorem zSv_app {P : List (List Int32)} {ph : List Int32} {a : Nat} (h : a ≤ P.length) : zSv (P ++ [ph]) a = zSv P a := by
  unfold zSv
  rw [List.take_append_of_le_length h]
theorem flat_one (P : List (List Int32)) (ph : List Int32) : (P ++ [ph]).flatten = P.flatten ++ ph := by
  rw [List.flatten_append]
  simp
theorem flat_get {P : List (List Int32)} {a i : Nat} (h : a < P.length) (hi : i < (P.getD a []).length) : P.flatten[zSv P a + i]? = (P.getD a [])[i]? := by
  have e : P.flatten = (P.take a).flatten ++ (P.drop a).flatten := by rw [← List.flatten_append, List.take_append_drop]
  have e2 : P.getD a [] = P[a] := by rw [List.getD_eq_getElem?_getD, List.getElem?_eq_getElem h]; rfl
  rw [e2] at hi ⊢
  rw [e]
  unfold zSv
  rw [List.getElem?_append_right (by omega), Nat.add_sub_cancel_left, List.drop_eq_getElem_cons h, List.flatten_cons, List.getElem?_append_left hi]
theorem sPh_len {P : List (List Int32)} {u : Nat} (hk : u / 257 ≤ P.length) : (sPh P u).length = zLen (zSv P) u := by
  unfold sPh zLen
  rw [List.length_append]
  congr 1
  · split
    · rfl
    · rename_i h0
      have h1 := zSv_next (P := P) (a := u / 257 - 1) (by omega)
      rw [show u / 257 - 1 + 1 = u / 257 by omega] at h1
      omega
  · split <;> rfl
theorem zIs_put {f f' : Nat → Int32} {P : List (List Int32)} {u : Nat} (hf : zIs f P.flatten) (hk : u / 257 ≤ P.length) (h : zPut f P.flatten.length (zSv P) u f') : zIs f' (P ++ [sPh P u]).flatten := by
  rw [flat_one]
  obtain ⟨h1, h2, h3⟩ := h
  intro i hi
  rw [List.length_append, sPh_len hk] at hi
  by_cases hq : i < P.flatten.length
  · rw [List.getElem?_append_left hq, hf i hq, h1 i hq]
  · obtain ⟨dd, rfl⟩ : ∃ z, i = P.flatten.length + z := ⟨i - P.flatten.length, by omega⟩
    have hd : dd < zLen (zSv P) u := by omega
    rw [List.getElem?_append_right (by omega), Nat.add_sub_cancel_left]
    by_cases h0 : u / 257 = 0
    · unfold sPh
      rw [if_pos h0, List.nil_append]
      unfold zLen at hd h3
      rw [if_pos h0] at hd h3
      by_cases h256 : u % 257 = 256
      · rw [if_pos h256] at hd; omega
      · rw [if_neg h256] at hd h3 ⊢
        have e0 : dd = 0 := by omega
        subst e0
        have h4 := h3 h256
        rw [show P.flatten.length + (0 + 1 - 1) = P.flatten.length + 0 by omega] at h4
        rw [h4]
        rfl
    · have hlen := zSv_next (P := P) (a := u / 257 - 1) (by omega)
      rw [show u / 257 - 1 + 1 = u / 257 by omega] at hlen
      unfold sPh
      rw [if_neg h0]
      by_cases hA : dd < (P.getD (u / 257 - 1) []).length
      · rw [List.getElem?_append_left hA, h2 (by omega) dd (by omega), ← flat_get (by omega) hA, hf]
        have h5 := zSv_top (P := P) (u / 257)
        omega
      · unfold zLen at hd h3
        rw [if_neg h0] at hd h3
        by_cases h256 : u % 257 = 256
        · rw [if_pos h256] at hd; omega
        · rw [if_neg h256] at hd h3 ⊢
          have e0 : dd = (P.getD (u / 257 - 1) []).length := by omega
          rw [List.getElem?_append_right (by omega), show dd - (P.getD (u / 257 - 1) []).length = 0 by omega]
          have h4 := h3 h256
          rw [show P.flatten.length + (zSv P (u / 257) - zSv P (u / 257 - 1) + 1 - 1) = P.flatten.length + dd by omega] at h4
          rw [h4]
          rfl
def sRst (n : Nat) : List Int32 → Nat → List (List Int32) → Sum Nat (List Int32)
  | [], _, P => .inr P.flatten
  | x :: r, j, P => if (0 ≤ x ∧ x.toNatClampNeg / 257 ≤ j ∧ (x.toNatClampNeg % 257 ≠ 256 ∨ (j + 1 = n ∧ 0 < x.toNatClampNeg / 257))) ∧ P.flatten.length + (sPh P x.toNatClampNeg).length ≤ 240 then sRst n r (j + 1) (P ++ [sPh P x.toNatClampNeg]) else .inl j
theorem sRst_yes {n j u : Nat} {r : List Int32} {P : List (List Int32)} (hu : u < 2 ^ 31) (h : zFine (nI u) j n) (h2 : P.flatten.length + (sPh P u).length ≤ 240) : sRst n (nI u :: r) j P = sRst n r (j + 1) (P ++ [sPh P u]) := by
  have e := nI_clamp hu
  unfold zFine at h
  rw [e] at h
  rw [sRst, e, if_pos ⟨h, h2⟩]
theorem sRst_no {n j : Nat} {x : Int32} {r : List Int32} {P : List (List Int32)} (h : ¬ zFine x j n) : sRst n (x :: r) j P = .inl j := by
  unfold zFine at h
  rw [sRst, if_neg (fun h9 => h h9.1)]
theorem sRst_long {n j u : Nat} {r : List Int32} {P : List (List Int32)} (hu : u < 2 ^ 31) (h2 : ¬ P.flatten.length + (sPh P u).length ≤ 240) : sRst n (nI u :: r) j P = .inl j := by
  have e := nI_clamp hu
  rw [sRst, e, if_neg (fun h9 => h2 h9.2)]
theorem sPh_ch {P : List (List Int32)} {u : Nat} (h : zCh P.flatten) : zCh (sPh P u) := by
  unfold sPh
  refine zCh_app ?_ ?_
  · split
    · exact zCh_nil
    · intro x hx
      by_cases hl : u / 257 - 1 < P.length
      · rw [List.getD_eq_getElem?_getD, List.getElem?_eq_getElem hl] at hx
        exact h x (List.mem_flatten.mpr ⟨_, List.getElem_mem hl, hx⟩)
      · rw [List.getD_eq_getElem?_getD, List.getElem?_eq_none (by omega)] at hx
        exact absurd hx List.not_mem_nil
  · split
    · exact zCh_nil
    · exact zCh_one ⟨u % 257, by omega, rfl⟩
theorem qX1_readInto_0 : ∀ w ∈ wsX10, w ∈ wsX1_readInto := by decide +kernel
theorem qX1_readInto_1 : Cond.fieldLink RX1 15 "PieceText$Phrases" "starts" "[I" ∈ wsX1_readInto := by decide +kernel
theorem qX1_readInto_2 : Cond.fieldLink RX1 18 "PieceText$Phrases" "count" "I" ∈ wsX1_readInto := by decide +kernel
theorem qX1_readInto_3 : Cond.fieldLink RX1 9 "PieceText$Phrases" "words" "[I" ∈ wsX1_readInto := by decide +kernel
set_option maxHeartbeats 4000000 in
set_option maxRecDepth 100000 in
theorem c_Phr_readInto (l : Launch) (D : va_G) (cI cR cL : ClassId) (B N : Nat) (ad : Nat → Nat) (cw : Nat → va_E) (hN : 45 < N) {ws dr : List Int32} (hW : zWords cI ad cw ws) (hD : zRow cI ad cw 34 35 240 dr) : Met l yX1_readInto wsX1_readInto ({ frames := 3, cells := 0, slots := 0, locals := 106 } : Room) (va_Pc [.ref (ad (31)), .ref (ad (34))] (zI D vwCl (zTy cI cR cL) B N ad cw)) (zQi D vwCl B N ad (fun (v : Int32) (cw' : Nat → va_E) => zWords cI ad cw' ws ∧ (∃ dr', zRow cI ad cw' 34 35 240 dr') ∧ (∀ j, (j ≠ 33 ∧ j ≠ 34 ∧ j ≠ 35) → cw' j = cw j) ∧ ((∃ k, sRst ws.length ws 0 [] = .inl k ∧ k < 240 ∧ v = nI k) ∨ (∃ T9, sRst ws.length ws 0 [] = .inr T9 ∧ v = -1 ∧ zRow cI ad cw' 34 35 240 T9 ∧ zCh T9)))) 0 0 (zA B) := by
  obtain ⟨w1, w2, ⟨wf, w3, w4⟩, sf, w5⟩ := id hW
  obtain ⟨d1, d2, g, d3, d4⟩ := id hD
  refine z_ofW (cc := cX1_readInto) (maxL := 3) (ret := (some .int)) (by decide) rfl (Nat.le_of_ble_eq_true rfl) ?_
  intro p e s m args below meth c C hr hnm
  refine z_lv (lv' := [(0, .ref (ad (31))), (1, .ref (ad (34)))]) [0, 1] rfl ?_
  refine z_aload_n C dX1_readInto_0 1 rfl ?_
  refine z_callv (z_runV (As := []) (rest := []) C (c_Row_empty l D cI cR cL B N ad cw (by omega) d1) (cwV 0 C.2.2.2.2.1 gX1_readInto_X2_empty rfl rfl rfl (by decide +kernel) ⟨Nat.le_of_ble_eq_true rfl, Nat.le_of_ble_eq_true rfl⟩) (by omega) d1 rfl rfl rfl rfl (Nat.le_of_ble_eq_true rfl) dX1_readInto_1 ⟨Nat.le_of_ble_eq_true rfl, Nat.le_of_ble_eq_true rfl⟩) (fun cw1 hp2 => ?_)
  have hw_3 : cw1 (31) = .inr (1, [.ref (ad (32)), .ref (ad (33)), .int (nI (ws.length))]) := by rw [hp2, va_up_ne _ _ (by decide)]; exact w1
  have hw_4 : cw1 (32) = .inl (cI, 240, .inl (wf)) := by rw [hp2, va_up_ne _ _ (by decide)]; exact w3
  have hw_5 : cw1 (33) = .inl (cI, 241, .inl (sf)) := by rw [hp2, va_up_ne _ _ (by decide)]; exact w5
  have hw_6 : cw1 (34) = .inr (2, [.ref (ad (35)), .int (nI 0)]) := by rw [hp2, va_up_self]
  have hw_7 : cw1 (35) = .inl (cI, 240, .inl (g)) := by rw [hp2, va_up_ne _ _ (by decide)]; exact d3
  refine z_aload_n C dX1_readInto_4 0 rfl ?_
  refine z_get (Cn := RX1) (T := TX1) (NF := 3) (ci := 1) (v := .ref (ad (33))) C qX1_readInto_0 rfl 1 (by decide) (C.2.2.2.2.1 _ qX1_readInto_1) (fun _ h9 => h9) dX1_readInto_5 (31) (by omega) hw_3 rfl ?_
  refine z_iconst (v := nI 0) C dX1_readInto_8 (by decide) ?_
  refine z_iconst (v := nI 0) C dX1_readInto_9 (by decide) ?_
  obtain ⟨cw8, ecw8⟩ : ∃ z : Nat → va_E, z = va_up (cw1) (33) (.inl (cI, 241, .inl (upd (sf) (0) ((nI 0))))) := ⟨_, rfl⟩
  refine z_iast C 0 rfl dX1_readInto_10 (33) (by omega) hw_5 (0) (rfl) (by omega) (by decide) ?_
  refine z_cw ecw8.symm ?_
  have hw_9 : cw8 (31) = .inr (1, [.ref (ad (32)), .ref (ad (33)), .int (nI (ws.length))]) := by rw [ecw8, va_up_ne _ _ (by decide)]; exact hw_3
  have hw_10 : cw8 (32) = .inl (cI, 240, .inl (wf)) := by rw [ecw8, va_up_ne _ _ (by decide)]; exact hw_4
  have hw_11 : cw8 (33) = .inl (cI, 241, .inl (upd (sf) (0) ((nI 0)))) := by rw [ecw8, va_up_self]
  have hw_12 : cw8 (34) = .inr (2, [.ref (ad (35)), .int (nI 0)]) := by rw [ecw8, va_up_ne _ _ (by decide)]; exact hw_6
  have hw_13 : cw8 (35) = .inl (cI, 240, .inl (g)) := by rw [ecw8, va_up_ne _ _ (by decide)]; exact hw_7
  refine z_iconst (v := nI 0) C dX1_readInto_11 (by decide) ?_
  refine z_istore_n (lv' := [(2, .int (nI 0)), (0, .ref (ad (31))), (1, .ref (ad (34)))]) C dX1_readInto_12 rfl (by decide) rfl ?_
  refine z_lv (lv' := [(2, .int (nI 0)), (0, .ref (ad (31))), (1, .ref (ad (34)))]) [0, 1, 2] rfl ?_
  suffices loop : ∀ (mm i : Nat) (P : List (List Int32)) (cwk : Nat → va_E), ws.length = i + mm → P.length = i → sRst ws.length (ws.drop i) i P = sRst ws.length ws 0 [] → zCh P.flatten → zRow cI ad cwk 34 35 240 P.flatten → (∃ sf', cwk 33 = .inl (cI, 241, .inl (sf')) ∧ ∀ a, a ≤ i → sf' a = nI (zSv P a)) → (∀ j, (j ≠ 33 ∧ j ≠ 34 ∧ j ≠ 35) → cwk j = cw j) → zG p l e (headSpec wsX1_readInto ({ frames := 3, cells := 0, slots := 0, locals := 106 } : Room)).room s m args below meth c (MQ below (zQi D vwCl B N ad (fun (v : Int32) (cw' : Nat → va_E) => zWords cI ad cw' ws ∧ (∃ dr', zRow cI ad cw' 34 35 240 dr') ∧ (∀ j, (j ≠ 33 ∧ j ≠ 34 ∧ j ≠ 35) → cw' j = cw j) ∧ ((∃ k, sRst ws.length ws 0 [] = .inl k ∧ k < 240 ∧ v = nI k) ∨ (∃ T9, sRst ws.length ws 0 [] = .inr T9 ∧ v = -1 ∧ zRow cI ad cw' 34 35 240 T9 ∧ zCh T9)))) args s 0 0 (zA B)) D vwCl B 3 N ad cwk 0 0 [(2, .int (nI i)), (0, .ref (ad (31))), (1, .ref (ad (34)))] 13 [] from loop ws.length 0 [] cw8 (by omega) rfl rfl zCh_nil ⟨hw_12, Nat.zero_le _, _, hw_13, zIs_nil _⟩ ⟨_, hw_11, fun a ha => by rw [show a = 0 by omega, pk_us]; rfl⟩ (fun j hj => by rw [ecw8, va_up_ne _ _ (by omega)]; rw [hp2, va_up_ne _ _ (by omega)])
  intro mm
  induction mm with
  | zero =>
    intro i P cwk hi hP hz hch hrow hst hfrm
    obtain ⟨r1, r2, f, r3, r4⟩ := id hrow
    obtain ⟨s8, s3, s4⟩ := id hst
    have hk_14 : cwk (31) = .inr (1, [.ref (ad (32)), .ref (ad (33)), .int (nI (ws.length))]) := (hfrm (31) (by omega)).trans w1
    have hk_15 : cwk (32) = .inl (cI, 240, .inl (wf)) := (hfrm (32) (by omega)).trans w3
    refine z_iload_n C dX1_readInto_13 0 rfl ?_
    refine z_aload_n C dX1_readInto_14 1 rfl ?_
    refine z_get (Cn := RX1) (T := TX1) (NF := 3) (ci := 1) (v := .int (nI (ws.length))) C qX1_readInto_0 rfl 2 (by decide) (C.2.2.2.2.1 _ qX1_readInto_2) (fun _ h9 => h9) dX1_readInto_15 (31) (by omega) hk_14 rfl ?_
    refine z_icmp_ge (tgt := 81) C dX1_readInto_18 (by decide) (fun c16 => ?_) (fun c16 => ?_)
    · skip
      rw [List.drop_eq_nil_of_le (by omega), sRst] at hz
      refine z_iconst (v := -1) C dX1_readInto_81 (by decide) ?_
      exact z_iret C hr dX1_readInto_82 (⟨⟨hk_14, w2, ⟨_, hk_15, w4⟩, _, s3⟩, ⟨_, hrow⟩, hfrm, Or.inr ⟨_, hz.symm, rfl, hrow, hch⟩⟩) (Nat.le_of_ble_eq_true rfl) (Nat.le_of_ble_eq_true rfl)
    · skip
      exact absurd (nI_le (by omega) (by omega)) c16
  | succ mm ih =>
    intro i P cwk hi hP hz hch hrow hst hfrm
    obtain ⟨r1, r2, f, r3, r4⟩ := id hrow
    obtain ⟨s8, s3, s4⟩ := id hst
    have hk_17 : cwk (31) = .inr (1, [.ref (ad (32)), .ref (ad (33)), .int (nI (ws.length))]) := (hfrm (31) (by omega)).trans w1
    have hk_18 : cwk (32) = .inl (cI, 240, .inl (wf)) := (hfrm (32) (by omega)).trans w3
    refine z_iload_n C dX1_readInto_13 0 rfl ?_
    refine z_aload_n C dX1_readInto_14 1 rfl ?_
    refine z_get (Cn := RX1) (T := TX1) (NF := 3) (ci := 1) (v := .int (nI (ws.length))) C qX1_readInto_0 rfl 2 (by decide) (C.2.2.2.2.1 _ qX1_readInto_2) (fun _ h9 => h9) dX1_readInto_15 (31) (by omega) hk_17 rfl ?_
    refine z_icmp_ge (tgt := 81) C dX1_readInto_18 (by decide) (fun c19 => ?_) (fun c19 => ?_)
    · skip
      exact absurd ((nI_leI (by omega) (by omega)).mp c19) (by omega)
    · skip
      rw [zIs_drop w4 (by omega)] at hz
      refine z_aload_n C dX1_readInto_21 1 rfl ?_
      refine z_iload_n C dX1_readInto_22 0 rfl ?_
      refine z_calli (z_runV (As := [.int (nI i)]) (rest := []) C (c_Phr_isPhrase l D cI cR cL B N ad cwk (by omega) hk_17 hk_18 (j := i) (by omega) w2) (cwV 1 C.2.2.2.2.1 gX1_readInto_X1_isPhrase rfl rfl rfl (by decide +kernel) ⟨Nat.le_of_ble_eq_true rfl, Nat.le_of_ble_eq_true rfl⟩) (by omega) hk_17 rfl rfl rfl rfl (Nat.le_of_ble_eq_true rfl) dX1_readInto_23 ⟨Nat.le_of_ble_eq_true rfl, Nat.le_of_ble_eq_true rfl⟩) (fun r20 cw21 hp22 => ?_)
      refine z_cw hp22.2 ?_
      refine z_if_eq (tgt := 50) C dX1_readInto_26 (by decide) (fun c23 => ?_) (fun c23 => ?_)
      · skip
        have hno : ¬ zFine (wf i) i ws.length := by rcases hp22.1 with h9 | h9; exact absurd (h9.1.symm.trans c23) (by decide); exact h9.2
        rw [sRst_no hno] at hz
        refine z_iload_n C dX1_readInto_50 0 rfl ?_
        exact z_iret C hr dX1_readInto_51 (⟨⟨hk_17, w2, ⟨_, hk_18, w4⟩, _, s3⟩, ⟨_, hrow⟩, hfrm, Or.inl ⟨i, hz.symm, by omega, rfl⟩⟩) (Nat.le_of_ble_eq_true rfl) (Nat.le_of_ble_eq_true rfl)
      · skip
        have hfi : zFine (wf i) i ws.length := by rcases hp22.1 with h9 | h9; exact h9.2; exact absurd h9.1 c23
        obtain ⟨u, hu, hwu⟩ := nI_of (x := wf i) (fun h9 => zNeg h9 hfi.1)
        rw [hwu] at hfi hz
        have hk1 : u / 257 ≤ i := ((zFine_of hu).mp hfi).1
        have hsv : ∀ a, a ≤ u / 257 → s8 a = nI (zSv P a) ∧ zSv P a ≤ 240 := fun a ha => ⟨s4 a (by omega), Nat.le_trans (zSv_top a) r2⟩
        have hmo : zSv P (u / 257 - 1) ≤ zSv P (u / 257) := zSv_le (Nat.sub_le _ _)
        have hpl := sPh_len (P := P) (u := u) (by omega)
        refine z_aload_n C dX1_readInto_29 1 rfl ?_
        refine z_aload_n C dX1_readInto_30 1 rfl ?_
        refine z_get (Cn := RX1) (T := TX1) (NF := 3) (ci := 1) (v := .ref (ad (32))) C qX1_readInto_0 rfl 0 (by decide) (C.2.2.2.2.1 _ qX1_readInto_3) (fun _ h9 => h9) dX1_readInto_31 (31) (by omega) hk_17 rfl ?_
        refine z_iload_n C dX1_readInto_34 0 rfl ?_
        refine z_iald C 0 rfl dX1_readInto_35 (32) (by omega) hk_18 (i) (rfl) (by omega) (by decide) ?_
        refine z_top (y := nI u) (hwu) ?_
        refine z_calli (z_runV (As := [.int (nI u)]) (rest := []) C (c_Phr_lengthOf l D cI cR cL B N ad cwk (by omega) hk_17 s3 hu (by omega) hsv hmo) (cwV 1 C.2.2.2.2.1 gX1_readInto_X1_lengthOf rfl rfl rfl (by decide +kernel) ⟨Nat.le_of_ble_eq_true rfl, Nat.le_of_ble_eq_true rfl⟩) (by omega) hk_17 rfl rfl rfl rfl (Nat.le_of_ble_eq_true rfl) dX1_readInto_36 ⟨Nat.le_of_ble_eq_true rfl, Nat.le_of_ble_eq_true rfl⟩) (fun r24 cw25 hp26 => ?_)
        refine z_cw hp26.2 ?_
        refine z_top hp26.1 ?_
        refine z_sipush (v := nI 240) C dX1_readInto_39 (by decide) ?_
        refine z_aload_n C dX1_readInto_42 2 rfl ?_
        refine z_calli (z_runV (As := []) (rest := [.int (nI 240), .int (nI (zLen (zSv P) u))]) C (c_Row_size l D cI cR cL B N ad cwk (by omega) r1) (cwV 0 C.2.2.2.2.1 gX1_readInto_X2_size rfl rfl rfl (by decide +kernel) ⟨Nat.le_of_ble_eq_true rfl, Nat.le_of_ble_eq_true rfl⟩) (by omega) r1 rfl rfl rfl rfl (Nat.le_of_ble_eq_true rfl) dX1_readInto_43 ⟨Nat.le_of_ble_eq_true rfl, Nat.le_of_ble_eq_true rfl⟩) (fun r27 cw28 hp29 => ?_)
        refine z_cw hp29.2 ?_
        refine z_top hp29.1 ?_
        refine z_isub C dX1_readInto_46 ?_
        refine z_top (y := nI (240 - P.flatten.length)) (pk_sub r2) ?_
        refine z_icmp_le (tgt := 52) C dX1_readInto_47 (by decide) (fun c30 => ?_) (fun c30 => ?_)
        · skip
          have hzl : zLen (zSv P) u ≤ 241 := by have h8 := zSv_top (P := P) (u / 257); unfold zLen; split <;> split <;> omega
          have hfit : zLen (zSv P) u ≤ 240 - P.flatten.length := (nI_leI (by omega) (by omega)).mp c30
          rw [sRst_yes hu hfi (by omega)] at hz
          refine z_aload_n C dX1_readInto_52 1 rfl ?_
          refine z_aload_n C dX1_readInto_53 1 rfl ?_
          refine z_get (Cn := RX1) (T := TX1) (NF := 3) (ci := 1) (v := .ref (ad (32))) C qX1_readInto_0 rfl 0 (by decide) (C.2.2.2.2.1 _ qX1_readInto_3) (fun _ h9 => h9) dX1_readInto_54 (31) (by omega) hk_17 rfl ?_
          refine z_iload_n C dX1_readInto_57 0 rfl ?_
          refine z_iald C 0 rfl dX1_readInto_58 (32) (by omega) hk_18 (i) (rfl) (by omega) (by decide) ?_
          refine z_top (y := nI u) (hwu) ?_
          refine z_aload_n C dX1_readInto_59 2 rfl ?_
          refine z_callv (z_runV (As := [.int (nI u), .ref (ad (34))]) (rest := []) C (c_Phr_addPhrase l D cI cR cL B N ad cwk (by omega) hk_17 s3 hu (by omega) hsv hmo (by omega) r1 r3 (by omega) (zSv_top _)) (cwV 2 C.2.2.2.2.1 gX1_readInto_X1_addPhrase rfl rfl rfl (by decide +kernel) ⟨Nat.le_of_ble_eq_true rfl, Nat.le_of_ble_eq_true rfl⟩) (by omega) hk_17 rfl rfl rfl rfl (Nat.le_of_ble_eq_true rfl) dX1_readInto_60 ⟨Nat.le_of_ble_eq_true rfl, Nat.le_of_ble_eq_true rfl⟩) (fun cw31 hp32 => ?_)
          obtain ⟨q1, ⟨f9, q2, q3⟩, q4⟩ := hp32
          have hw_33 : cw31 (31) = .inr (1, [.ref (ad (32)), .ref (ad (33)), .int (nI (ws.length))]) := by rw [q4 (31) (by omega)]; exact hk_17
          have hw_34 : cw31 (32) = .inl (cI, 240, .inl (wf)) := by rw [q4 (32) (by omega)]; exact hk_18
          have hw_35 : cw31 (33) = .inl (cI, 241, .inl (s8)) := by rw [q4 (33) (by omega)]; exact s3
          have hw_36 : cw31 (34) = .inr (2, [.ref (ad (35)), .int (nI (P.flatten.length + zLen (zSv P) u))]) := q1
          have hw_37 : cw31 (35) = .inl (cI, 240, .inl (f9)) := q2
          refine z_aload_n C dX1_readInto_63 1 rfl ?_
          refine z_get (Cn := RX1) (T := TX1) (NF := 3) (ci := 1) (v := .ref (ad (33))) C qX1_readInto_0 rfl 1 (by decide) (C.2.2.2.2.1 _ qX1_readInto_1) (fun _ h9 => h9) dX1_readInto_64 (31) (by omega) hw_33 rfl ?_
          refine z_iload_n C dX1_readInto_67 0 rfl ?_
          refine z_iconst (v := nI 1) C dX1_readInto_68 (by decide) ?_
          refine z_iadd C dX1_readInto_69 ?_
          refine z_top (y := nI (i + 1)) (nI_1 i) ?_
          refine z_aload_n C dX1_readInto_70 2 rfl ?_
          refine z_calli (z_runV (As := []) (rest := [.int (nI (i + 1)), .ref (ad (33))]) C (c_Row_size l D cI cR cL B N ad cw31 (by omega) hw_36) (cwV 0 C.2.2.2.2.1 gX1_readInto_X2_size rfl rfl rfl (by decide +kernel) ⟨Nat.le_of_ble_eq_true rfl, Nat.le_of_ble_eq_true rfl⟩) (by omega) hw_36 rfl rfl rfl rfl (Nat.le_of_ble_eq_true rfl) dX1_readInto_71 ⟨Nat.le_of_ble_eq_true rfl, Nat.le_of_ble_eq_true rfl⟩) (fun r38 cw39 hp40 => ?_)
          refine z_cw hp40.2 ?_
          refine z_top hp40.1 ?_
          obtain ⟨cw41, ecw41⟩ : ∃ z : Nat → va_E, z = va_up (cw31) (33) (.inl (cI, 241, .inl (upd (s8) (i + 1) ((nI (P.flatten.length + zLen (zSv P) u)))))) := ⟨_, rfl⟩
          refine z_iast C 0 rfl dX1_readInto_74 (33) (by omega) hw_35 (i + 1) (rfl) (by omega) (by decide) ?_
          refine z_cw ecw41.symm ?_
          have hw_42 : cw41 (31) = .inr (1, [.ref (ad (32)), .ref (ad (33)), .int (nI (ws.length))]) := by rw [ecw41, va_up_ne _ _ (by decide)]; exact hw_33
          have hw_43 : cw41 (32) = .inl (cI, 240, .inl (wf)) := by rw [ecw41, va_up_ne _ _ (by decide)]; exact hw_34
          have hw_44 : cw41 (33) = .inl (cI, 241, .inl (upd (s8) (i + 1) ((nI (P.flatten.length + zLen (zSv P) u))))) := by rw [ecw41, va_up_self]
          have hw_45 : cw41 (34) = .inr (2, [.ref (ad (35)), .int (nI (P.flatten.length + zLen (zSv P) u))]) := by rw [ecw41, va_up_ne _ _ (by decide)]; exact hw_36
          have hw_46 : cw41 (35) = .inl (cI, 240, .inl (f9)) := by rw [ecw41, va_up_ne _ _ (by decide)]; exact hw_37
          refine z_iinc (x := nI (i + 1)) (lv' := [(2, .int (nI (i + 1))), (0, .ref (ad (31))), (1, .ref (ad (34)))]) C dX1_readInto_75 0 rfl (nI_1 i) (by decide) rfl ?_
          refine z_goto (tgt := 13) C dX1_readInto_78 (by decide) ?_
          refine z_lv (lv' := [(2, .int (nI (i + 1))), (0, .ref (ad (31))), (1, .ref (ad (34)))]) [0, 1, 2] rfl ?_
          have hfl : (P ++ [sPh P u]).flatten.length = P.flatten.length + zLen (zSv P) u := by rw [flat_one, List.length_append, hpl]
          refine ih (i + 1) (P ++ [sPh P u]) _ (by omega) (by rw [List.length_append, hP]; rfl) hz (by rw [flat_one]; exact zCh_app hch (sPh_ch hch)) ⟨by rw [hw_45, hfl], by rw [hfl]; omega, _, hw_46, zIs_put r4 (by omega) q3⟩ ⟨_, hw_44, fun a ha => ?_⟩ (fun j hj => by rw [ecw41, va_up_ne _ _ (by omega), q4 j (by omega)]; exact hfrm j hj)
          by_cases ha2 : a = i + 1
          · rw [ha2, pk_us, zSv_all (by rw [List.length_append, hP]; exact Nat.le_refl _), hfl]
          · rw [pk_un ha2, zSv_app (by omega)]; exact s4 a (by omega)
        · skip
          rw [sRst_long hu (fun h9 => c30 (nI_le (by omega) (by omega)))] at hz
          refine z_iload_n C dX1_readInto_50 0 rfl ?_
          exact z_iret C hr dX1_readInto_51 (⟨⟨hk_17, w2, ⟨_, hk_18, w4⟩, _, s3⟩, ⟨_, hrow⟩, hfrm, Or.inl ⟨i, hz.symm, by omega, rfl⟩⟩) (Nat.le_of_ble_eq_true rfl) (Nat.le_of_ble_eq_true rfl)

theorem zRX_read {cI cR : ClassId} {ad : Nat → Nat} {cw cw' : Nat → va_E} {past fut : Nat} {hs : Nat → List Int32} {pat ws dr dr' : List Int32} (h : zRX cI cR ad cw past fut hs pat ws dr) (hw : zWords cI ad cw' ws) (hd : zRow cI ad cw' 34 35 240 dr') (hk : ∀ j, (j ≠ 33 ∧ j ≠ 34 ∧ j ≠ 35) → cw' j = cw j) : zRX cI cR ad cw' past fut hs pat ws dr' := by
  obtain ⟨h0, ⟨now, h1⟩, h2, h3, h4, h5, nf, h6⟩ := h
  exact ⟨(hk 0 (by omega)).trans h0, ⟨now, zHist_kept h1 (fun j _ _ => hk j (by omega))⟩, zTexts_kept h2 (hk 2 (by omega)), zRow_kept h3 (hk _ (by omega)) (hk _ (by omega)), hw, hd, nf, (hk 36 (by omega)).trans h6⟩
theorem qX3_restore_0 : ∀ w ∈ wsX30, w ∈ wsX3_restore := by decide +kernel
theorem qX3_restore_1 : Cond.fieldLink RX3 28 "PieceText" "written" "LPieceText$Phrases;" ∈ wsX3_restore := by decide +kernel
theorem qX3_restore_2 : Cond.fieldLink RX3 32 "PieceText" "draft" "LPieceText$Row;" ∈ wsX3_restore := by decide +kernel
set_option maxHeartbeats 4000000 in
set_option maxRecDepth 100000 in
theorem c_PT_restore (l : Launch) (D : va_G) (cI cR cL : ClassId) (B N : Nat) (ad : Nat → Nat) (cw : Nat → va_E) (hN : 45 < N) {past fut : Nat} {hs : Nat → List Int32} {pat ws dr : List Int32} (hX : zRX cI cR ad cw past fut hs pat ws dr) : Met l yX3_restore wsX3_restore ({ frames := 4, cells := 0, slots := 0, locals := 128 } : Room) (va_Pc [.ref (ad (0))] (zI D vwCl (zTy cI cR cL) B N ad cw)) (zQi D vwCl B N ad (fun (v : Int32) (cw' : Nat → va_E) => ((∃ k, sRst ws.length ws 0 [] = .inl k ∧ k < 240 ∧ v = -1 - nI k ∧ ∃ dr', zRX cI cR ad cw' past fut hs pat ws dr') ∨ (∃ T9, sRst ws.length ws 0 [] = .inr T9 ∧ v = nI T9.length ∧ zRX cI cR ad cw' (aPast past) 0 (aHs past hs T9) pat ws T9)) ∧ ∀ j, 37 ≤ j → cw' j = cw j)) 0 0 (zA B) := by
  obtain ⟨x0, ⟨now, hH⟩, ⟨fr, ht, hfr⟩, ⟨p1, p2, pf, p3, p4⟩, ⟨w1, w2, ⟨wf, w3, w4⟩, sf, w5⟩, ⟨d1, d2, g, d3, d4⟩, nf, x6⟩ := id hX
  obtain ⟨g1, g2, g3, g4, g5, g6⟩ := id hH
  obtain ⟨t1, t2, f, t3, t4⟩ := zHist_now hH
  refine z_ofW (cc := cX3_restore) (maxL := 2) (ret := (some .int)) (by decide) rfl (Nat.le_of_ble_eq_true rfl) ?_
  intro p e s m args below meth c C hr hnm
  refine z_lv (lv' := [(0, .ref (ad (0)))]) [0] rfl ?_
  refine z_aload_n C dX3_restore_0 0 rfl ?_
  refine z_get (Cn := RX3) (T := TX3) (NF := 5) (ci := 3) (v := .ref (ad (31))) C qX3_restore_0 rfl 2 (by decide) (C.2.2.2.2.1 _ qX3_restore_1) (fun _ h9 => h9) dX3_restore_1 (0) (by omega) x0 rfl ?_
  refine z_aload_n C dX3_restore_4 0 rfl ?_
  refine z_get (Cn := RX3) (T := TX3) (NF := 5) (ci := 3) (v := .ref (ad (34))) C qX3_restore_0 rfl 3 (by decide) (C.2.2.2.2.1 _ qX3_restore_2) (fun _ h9 => h9) dX3_restore_5 (0) (by omega) x0 rfl ?_
  refine z_calli (z_runV (As := [.ref (ad (34))]) (rest := []) C (c_Phr_readInto l D cI cR cL B N ad cw hN hX.2.2.2.2.1 hX.2.2.2.2.2.1) (cwV 1 C.2.2.2.2.1 gX3_restore_X1_readInto rfl rfl rfl (by decide +kernel) ⟨Nat.le_of_ble_eq_true rfl, Nat.le_of_ble_eq_true rfl⟩) (by omega) w1 rfl rfl rfl rfl (Nat.le_of_ble_eq_true rfl) dX3_restore_8 ⟨Nat.le_of_ble_eq_true rfl, Nat.le_of_ble_eq_true rfl⟩) (fun r1 cw2 hp3 => ?_)
  obtain ⟨q1, ⟨dr9, q2⟩, q3, q4⟩ := hp3
  have hw_4 : cw2 (0) = .inr (3, [.ref (ad (1)), .ref (ad (29)), .ref (ad (31)), .ref (ad (34)), .ref (ad (36))]) := by rw [q3 (0) (by omega)]; exact x0
  refine z_istore_n (lv' := [(1, .int (r1)), (0, .ref (ad (0)))]) C dX3_restore_11 rfl (by decide) rfl ?_
  refine z_iload_n C dX3_restore_12 0 rfl ?_
  refine z_iconst (v := -1) C dX3_restore_13 (by decide) ?_
  refine z_icmp_eq (tgt := 21) C dX3_restore_14 (by decide) (fun c5 => ?_) (fun c5 => ?_)
  · skip
    obtain ⟨T9, v1, v2, v3, v4⟩ : ∃ T9, sRst ws.length ws 0 [] = .inr T9 ∧ r1 = -1 ∧ zRow cI ad cw2 34 35 240 T9 ∧ zCh T9 := by rcases q4 with ⟨k, b1, b2, b3⟩ | h9; exact absurd (b3.symm.trans c5) (fun h8 => nI_pos (n := k) (by omega) (by rw [h8]; decide)); exact h9
    have hX2 := zRX_read hX q1 v3 q3
    refine z_aload_n C dX3_restore_21 1 rfl ?_
    refine z_calli (z_runV (As := []) (rest := []) C (c_PT_keepDraft l D cI cR cL B N ad cw2 hN hX2 v4) (cwV 0 C.2.2.2.2.1 gX3_restore_X3_keepDraft rfl rfl rfl (by decide +kernel) ⟨Nat.le_of_ble_eq_true rfl, Nat.le_of_ble_eq_true rfl⟩) (by omega) hw_4 rfl rfl rfl rfl (Nat.le_of_ble_eq_true rfl) dX3_restore_22 ⟨Nat.le_of_ble_eq_true rfl, Nat.le_of_ble_eq_true rfl⟩) (fun r6 cw7 hp8 => ?_)
    exact z_iret C hr dX3_restore_25 (⟨Or.inr ⟨T9, v1, hp8.1, hp8.2.1⟩, fun j hj => (hp8.2.2 j hj).trans (q3 j (by omega))⟩) (Nat.le_of_ble_eq_true rfl) (Nat.le_of_ble_eq_true rfl)
  · skip
    obtain ⟨k, b1, b2, b3⟩ : ∃ k, sRst ws.length ws 0 [] = .inl k ∧ k < 240 ∧ r1 = nI k := by rcases q4 with h9 | ⟨T9, b1, b2, b3⟩; exact h9; exact absurd b2 c5
    refine z_iconst (v := -1) C dX3_restore_17 (by decide) ?_
    refine z_iload_n C dX3_restore_18 0 rfl ?_
    refine z_isub C dX3_restore_19 ?_
    exact z_iret C hr dX3_restore_20 (⟨Or.inl ⟨k, b1, b2, by rw [b3], dr9, zRX_read hX q1 q2 q3⟩, fun j hj => q3 j (by omega)⟩) (Nat.le_of_ble_eq_true rfl) (Nat.le_of_ble_eq_true rfl)
end
section
section Z5
variable {p : Program} {l : Launch} {e : Env} {R : Room} {s : State} {m : MethodId} {args : Array Value} {below : List Frame} {meth : Method} {c : Code} {cells slots : Nat} {Q : State → Prop}
variable {D : va_G} {cl : List vw_C} {tys : List (ClassId × FieldType)} {B N nL : Nat} {ad : Nat → Nat} {cw : Nat → va_E} {lv : List (Nat × Value)} {pc : Nat} {st : List Value} {cc : ByteArray} {own : String} {Ts : List Cond}
theorem z_lload_n {k : Fin 4} {x : Int64} (C : zC p s m args meth c cc nL own Ts D cl tys B) (d : decode cc pc = .ok (.lload_n k, 1)) (j : Nat) (h : lv[j]? = some ((k : Nat), .long x)) (kk : zG p l e R s m args below meth c Q D cl B nL N ad cw cells slots lv (pc + 1) (.long x :: st)) : zG p l e R s m args below meth c Q D cl B nL N ad cw cells slots lv pc st := fun H locs ls hW hS hl => lv_lload_n C.1 C.2.1  d rfl (lv_at hl j h) (kk H locs ls hW hS hl)
theorem z_lload {k : Nat} {x : Int64} (C : zC p s m args meth c cc nL own Ts D cl tys B) (d : decode cc pc = .ok (.lload k, 2)) (j : Nat) (h : lv[j]? = some (k, .long x)) (kk : zG p l e R s m args below meth c Q D cl B nL N ad cw cells slots lv (pc + 2) (.long x :: st)) : zG p l e R s m args below meth c Q D cl B nL N ad cw cells slots lv pc st := fun H locs ls hW hS hl => lv_lload C.1 C.2.1  d (lv_at hl j h) (kk H locs ls hW hS hl)
theorem z_lconst {n : Fin 2} {v : Int64} (C : zC p s m args meth c cc nL own Ts D cl tys B) (d : decode cc pc = .ok (.lconst n, 1)) (hv : Int64.ofNat (n : Nat) = v) (kk : zG p l e R s m args below meth c Q D cl B nL N ad cw cells slots lv (pc + 1) (.long v :: st)) : zG p l e R s m args below meth c Q D cl B nL N ad cw cells slots lv pc st := fun H locs ls hW hS hl => lv_lconst C.1 C.2.1  d hv (kk H locs ls hW hS hl)
theorem z_lcmp {x y : Int64} (C : zC p s m args meth c cc nL own Ts D cl tys B) (d : decode cc pc = .ok (.lcmp, 1))  (kk : zG p l e R s m args below meth c Q D cl B nL N ad cw cells slots lv (pc + 1) (.int (lg_cmp x y) :: st)) : zG p l e R s m args below meth c Q D cl B nL N ad cw cells slots lv pc (.long y :: .long x :: st) := fun H locs ls hW hS hl => W.lcmp C.1 C.2.1  d  (kk H locs ls hW hS hl)
theorem z_ladd {x y : Int64} (C : zC p s m args meth c cc nL own Ts D cl tys B) (d : decode cc pc = .ok (.ladd, 1))  (kk : zG p l e R s m args below meth c Q D cl B nL N ad cw cells slots lv (pc + 1) (.long (x + y) :: st)) : zG p l e R s m args below meth c Q D cl B nL N ad cw cells slots lv pc (.long y :: .long x :: st) := fun H locs ls hW hS hl => lv_ladd C.1 C.2.1  d  (kk H locs ls hW hS hl)
theorem z_ldc2 {index : Nat} {v : Int64} (C : zC p s m args meth c cc nL own Ts D cl tys B) (hc : (Jvm.Cond.constantLong own index v).before args s = true) (d : decode cc pc = .ok (.ldc2_w index, 3)) (kk : zG p l e R s m args below meth c Q D cl B nL N ad cw cells slots lv (pc + 3) (.long v :: st)) : zG p l e R s m args below meth c Q D cl B nL N ad cw cells slots lv pc st := fun H locs ls hW hS hl => lv_ldc2 C.1 C.2.1 C.2.2.2.1 hc d (kk H locs ls hW hS hl)
end Z5

set_option maxHeartbeats 4000000 in
set_option maxRecDepth 100000 in
theorem c_M_isIn (l : Launch) (D : va_G) (cI cR cL : ClassId) (B N : Nat) (ad : Nat → Nat) (cw : Nat → va_E) (xa xb xd : Int64) : Met l yX4_isIn wsX4_isIn ({ frames := 0, cells := 0, slots := 0, locals := 0 } : Room) (va_Pc [.long (xa), .long (xb), .long (xd)] (zI D vwCl (zTy cI cR cL) B N ad cw)) (zQi D vwCl B N ad (fun (v : Int32) (cw' : Nat → va_E) => ((v = nI 1 ∧ xb ≤ xa ∧ xa ≤ xd) ∨ (v = nI 0 ∧ ¬ (xb ≤ xa ∧ xa ≤ xd))) ∧ cw' = cw)) 0 0 (zA B) := by
  refine z_ofW (cc := cX4_isIn) (maxL := 6) (ret := (some .boolean)) (by decide) rfl (Nat.le_of_ble_eq_true rfl) ?_
  intro p e s m args below meth c C hr hnm
  refine z_lv (lv' := [(0, .long (xa)), (2, .long (xb)), (4, .long (xd))]) [0, 1, 2] rfl ?_
  refine z_lload_n C dX4_isIn_0 0 rfl ?_
  refine z_lload_n C dX4_isIn_1 1 rfl ?_
  refine z_lcmp C dX4_isIn_2 ?_
  refine z_if_lt (tgt := 17) C dX4_isIn_3 (by decide) (fun c1 => ?_) (fun c1 => ?_)
  · skip
    refine z_iconst (v := nI 0) C dX4_isIn_17 (by decide) ?_
    exact z_zret C hr (by decide) dX4_isIn_18 (⟨Or.inr ⟨rfl, fun h => absurd h.1 (Int64.not_le.mpr ((lg_cmp_lt _ _).mp c1))⟩, rfl⟩) (Nat.le_of_ble_eq_true rfl) (Nat.le_of_ble_eq_true rfl)
  · skip
    refine z_lload_n C dX4_isIn_6 0 rfl ?_
    refine z_lload C dX4_isIn_7 2 rfl ?_
    refine z_lcmp C dX4_isIn_9 ?_
    refine z_if_gt (tgt := 17) C dX4_isIn_10 (by decide) (fun c2 => ?_) (fun c2 => ?_)
    · skip
      refine z_iconst (v := nI 0) C dX4_isIn_17 (by decide) ?_
      exact z_zret C hr (by decide) dX4_isIn_18 (⟨Or.inr ⟨rfl, fun h => absurd h.2 (Int64.not_le.mpr ((lg_cmp_gt _ _).mp c2))⟩, rfl⟩) (Nat.le_of_ble_eq_true rfl) (Nat.le_of_ble_eq_true rfl)
    · skip
      refine z_iconst (v := nI 1) C dX4_isIn_13 (by decide) ?_
      refine z_goto (tgt := 18) C dX4_isIn_14 (by decide) ?_
      exact z_zret C hr (by decide) dX4_isIn_18 (⟨Or.inl ⟨rfl, Int64.not_lt.mp (fun h => c1 ((lg_cmp_lt _ _).mpr h)), Int64.not_lt.mp (fun h => c2 ((lg_cmp_gt _ _).mpr h))⟩, rfl⟩) (Nat.le_of_ble_eq_true rfl) (Nat.le_of_ble_eq_true rfl)

theorem z_in0 {x : Int32} {n : Nat} (hn : n < 2 ^ 31) : ((0 : Int64) ≤ x.toInt64 ∧ x.toInt64 ≤ (nI n).toInt64) ↔ ∃ q, q ≤ n ∧ x = nI q := by
  rw [Int64.le_iff_toInt_le, Int64.le_iff_toInt_le, Int32.toInt_toInt64, Int32.toInt_toInt64, nI_toInt hn]
  constructor
  · rintro ⟨h1, h2⟩
    have h0 : ¬ x < 0 := fun h => by
      rw [Int32.lt_iff_toInt_lt] at h
      have e1 : (0 : Int64).toInt = 0 := rfl
      have e2 : (0 : Int32).toInt = 0 := rfl
      omega
    obtain ⟨q, hq, rfl⟩ := nI_of h0
    rw [nI_toInt hq] at h2
    exact ⟨q, by omega, rfl⟩
  · rintro ⟨q, hq, rfl⟩
    rw [nI_toInt (by omega)]
    have e1 : (0 : Int64).toInt = 0 := rfl
    omega
theorem z_in255 {x : Int32} : ((0 : Int64) ≤ x.toInt64 ∧ x.toInt64 ≤ 255) ↔ ∃ q, q < 256 ∧ x = nI q := by
  have h := z_in0 (x := x) (n := 255) (by omega)
  rw [show (nI 255).toInt64 = (255 : Int64) by decide] at h
  exact h.trans ⟨fun ⟨q, h1, h2⟩ => ⟨q, by omega, h2⟩, fun ⟨q, h1, h2⟩ => ⟨q, by omega, h2⟩⟩
theorem z_inm {x : Int32} {n : Nat} (hn : n < 2 ^ 30) : ((0 : Int64) ≤ x.toInt64 ∧ x.toInt64 ≤ (nI n - nI 1).toInt64) ↔ ∃ q, q < n ∧ x = nI q := by
  cases n with
  | zero =>
    refine ⟨fun h => ?_, fun ⟨q, h1, h2⟩ => absurd h1 (Nat.not_lt_zero _)⟩
    exfalso
    have h3 := Int64.le_trans h.1 h.2
    revert h3
    decide
  | succ n =>
    rw [pk_sub (by omega), show n + 1 - 1 = n from rfl, z_in0 (by omega)]
    exact ⟨fun ⟨q, h1, h2⟩ => ⟨q, by omega, h2⟩, fun ⟨q, h1, h2⟩ => ⟨q, by omega, h2⟩⟩
def zMT (cI : ClassId) (cw : Nat → va_E) (past fut : Nat) (hs : Nat → List Int32) : Prop := past + fut ≤ 12 ∧ ∃ tf lf, cw 38 = .inl (cI, 3120, .inl (tf)) ∧ cw 39 = .inl (cI, 13, .inl (lf)) ∧ ∀ j, j ≤ past + fut → (hs j).length ≤ 240 ∧ lf j = nI (hs j).length ∧ zIs (fun i => tf (240 * j + i)) (hs j)
def zRM (cI : ClassId) (ad : Nat → Nat) (cw : Nat → va_E) (past fut : Nat) (hs : Nat → List Int32) (pat ws : List Int32) (th dn : Int32) : Prop :=
  cw 37 = .inr (4, [.int (th), .ref (ad (38)), .ref (ad (39)), .int (nI (past)), .int (nI (fut)), .ref (ad (40)), .int (dn), .ref (ad (41)), .int (nI (pat.length)), .ref (ad (42)), .int (nI (ws.length)), .ref (ad (43)), .ref (ad (44))]) ∧ zMT cI cw past fut hs ∧ (∃ df, cw 40 = .inl (cI, 240, .inl (df))) ∧ (pat.length ≤ 16 ∧ ∃ pf, cw 41 = .inl (cI, 16, .inl (pf)) ∧ zIs pf pat) ∧ (ws.length ≤ 240 ∧ ∃ wf, cw 42 = .inl (cI, 240, .inl (wf)) ∧ zIs wf ws) ∧ (∃ bf, cw 43 = .inl (cI, 241, .inl (bf))) ∧ ∃ zf, cw 44 = .inl (cI, 241, .inl (zf))
theorem qX4_thrown_0 : ∀ w ∈ wsX40, w ∈ wsX4_thrown := by decide +kernel
theorem qX4_thrown_1 : Cond.fieldLink RX4 31 "PieceTextModel" "thrown" "I" ∈ wsX4_thrown := by decide +kernel
set_option maxHeartbeats 4000000 in
set_option maxRecDepth 100000 in
theorem c_M_thrown (l : Launch) (D : va_G) (cI cR cL : ClassId) (B N : Nat) (ad : Nat → Nat) (cw : Nat → va_E) (hN : 45 < N) {th dn : Int32} {past fut pn wn : Nat} (e37 : cw 37 = .inr (4, [.int (th), .ref (ad (38)), .ref (ad (39)), .int (nI (past)), .int (nI (fut)), .ref (ad (40)), .int (dn), .ref (ad (41)), .int (nI (pn)), .ref (ad (42)), .int (nI (wn)), .ref (ad (43)), .ref (ad (44))])) : Met l yX4_thrown wsX4_thrown ({ frames := 0, cells := 0, slots := 0, locals := 0 } : Room) (va_Pc [.ref (ad (37))] (zI D vwCl (zTy cI cR cL) B N ad cw)) (zQi D vwCl B N ad (fun (v : Int32) (cw' : Nat → va_E) => v = th ∧ cw' = cw)) 0 0 (zA B) := by
  refine z_ofW (cc := cX4_thrown) (maxL := 1) (ret := (some .int)) (by decide) rfl (Nat.le_of_ble_eq_true rfl) ?_
  intro p e s m args below meth c C hr hnm
  refine z_lv (lv' := [(0, .ref (ad (37)))]) [0] rfl ?_
  refine z_aload_n C dX4_thrown_0 0 rfl ?_
  refine z_get (Cn := RX4) (T := TX4) (NF := 13) (ci := 4) (v := .int (th)) C qX4_thrown_0 rfl 0 (by decide) (C.2.2.2.2.1 _ qX4_thrown_1) (fun _ h9 => h9) dX4_thrown_1 (37) (by omega) e37 rfl ?_
  exact z_iret C hr dX4_thrown_4 (⟨rfl, rfl⟩) (Nat.le_of_ble_eq_true rfl) (Nat.le_of_ble_eq_true rfl)

theorem qX4_length_0 : ∀ w ∈ wsX40, w ∈ wsX4_length := by decide +kernel
theorem qX4_length_1 : Cond.fieldLink RX4 13 "PieceTextModel" "lengths" "[I" ∈ wsX4_length := by decide +kernel
theorem qX4_length_2 : Cond.fieldLink RX4 35 "PieceTextModel" "past" "I" ∈ wsX4_length := by decide +kernel
set_option maxHeartbeats 4000000 in
set_option maxRecDepth 100000 in
theorem c_M_length (l : Launch) (D : va_G) (cI cR cL : ClassId) (B N : Nat) (ad : Nat → Nat) (cw : Nat → va_E) (hN : 45 < N) {th dn : Int32} {past fut pn wn : Nat} (e37 : cw 37 = .inr (4, [.int (th), .ref (ad (38)), .ref (ad (39)), .int (nI (past)), .int (nI (fut)), .ref (ad (40)), .int (dn), .ref (ad (41)), .int (nI (pn)), .ref (ad (42)), .int (nI (wn)), .ref (ad (43)), .ref (ad (44))])) {lf : Nat → Int32} (e39 : cw 39 = .inl (cI, 13, .inl (lf))) (hp : past < 13) {x : Int32} (hx : lf past = x) : Met l yX4_length wsX4_length ({ frames := 0, cells := 0, slots := 0, locals := 0 } : Room) (va_Pc [.ref (ad (37))] (zI D vwCl (zTy cI cR cL) B N ad cw)) (zQi D vwCl B N ad (fun (v : Int32) (cw' : Nat → va_E) => v = x ∧ cw' = cw)) 0 0 (zA B) := by
  refine z_ofW (cc := cX4_length) (maxL := 1) (ret := (some .int)) (by decide) rfl (Nat.le_of_ble_eq_true rfl) ?_
  intro p e s m args below meth c C hr hnm
  refine z_lv (lv' := [(0, .ref (ad (37)))]) [0] rfl ?_
  refine z_aload_n C dX4_length_0 0 rfl ?_
  refine z_get (Cn := RX4) (T := TX4) (NF := 13) (ci := 4) (v := .ref (ad (39))) C qX4_length_0 rfl 2 (by decide) (C.2.2.2.2.1 _ qX4_length_1) (fun _ h9 => h9) dX4_length_1 (37) (by omega) e37 rfl ?_
  refine z_aload_n C dX4_length_4 0 rfl ?_
  refine z_get (Cn := RX4) (T := TX4) (NF := 13) (ci := 4) (v := .int (nI (past))) C qX4_length_0 rfl 3 (by decide) (C.2.2.2.2.1 _ qX4_length_2) (fun _ h9 => h9) dX4_length_5 (37) (by omega) e37 rfl ?_
  refine z_iald C 0 rfl dX4_length_8 (39) (by omega) e39 (past) (rfl) (hp) (by decide) ?_
  refine z_top (y := x) (hx) ?_
  exact z_iret C hr dX4_length_9 (⟨rfl, rfl⟩) (Nat.le_of_ble_eq_true rfl) (Nat.le_of_ble_eq_true rfl)

theorem qX4_charAt_0 : ∀ w ∈ wsX40, w ∈ wsX4_charAt := by decide +kernel
theorem qX4_charAt_1 : Cond.fieldLink RX4 7 "PieceTextModel" "texts" "[I" ∈ wsX4_charAt := by decide +kernel
theorem qX4_charAt_2 : Cond.fieldLink RX4 35 "PieceTextModel" "past" "I" ∈ wsX4_charAt := by decide +kernel
set_option maxHeartbeats 4000000 in
set_option maxRecDepth 100000 in
theorem c_M_charAt (l : Launch) (D : va_G) (cI cR cL : ClassId) (B N : Nat) (ad : Nat → Nat) (cw : Nat → va_E) (hN : 45 < N) {th dn : Int32} {past fut pn wn : Nat} (e37 : cw 37 = .inr (4, [.int (th), .ref (ad (38)), .ref (ad (39)), .int (nI (past)), .int (nI (fut)), .ref (ad (40)), .int (dn), .ref (ad (41)), .int (nI (pn)), .ref (ad (42)), .int (nI (wn)), .ref (ad (43)), .ref (ad (44))])) {tf : Nat → Int32} (e38 : cw 38 = .inl (cI, 3120, .inl (tf))) {i : Nat} (hi : 240 * past + i < 3120) : Met l yX4_charAt wsX4_charAt ({ frames := 0, cells := 0, slots := 0, locals := 0 } : Room) (va_Pc [.ref (ad (37)), .int (nI i)] (zI D vwCl (zTy cI cR cL) B N ad cw)) (zQi D vwCl B N ad (fun (v : Int32) (cw' : Nat → va_E) => v = tf (240 * past + i) ∧ cw' = cw)) 0 0 (zA B) := by
  refine z_ofW (cc := cX4_charAt) (maxL := 2) (ret := (some .int)) (by decide) rfl (Nat.le_of_ble_eq_true rfl) ?_
  intro p e s m args below meth c C hr hnm
  refine z_lv (lv' := [(0, .ref (ad (37))), (1, .int (nI i))]) [0, 1] rfl ?_
  refine z_aload_n C dX4_charAt_0 0 rfl ?_
  refine z_get (Cn := RX4) (T := TX4) (NF := 13) (ci := 4) (v := .ref (ad (38))) C qX4_charAt_0 rfl 1 (by decide) (C.2.2.2.2.1 _ qX4_charAt_1) (fun _ h9 => h9) dX4_charAt_1 (37) (by omega) e37 rfl ?_
  refine z_sipush (v := nI 240) C dX4_charAt_4 (by decide) ?_
  refine z_aload_n C dX4_charAt_7 0 rfl ?_
  refine z_get (Cn := RX4) (T := TX4) (NF := 13) (ci := 4) (v := .int (nI (past))) C qX4_charAt_0 rfl 3 (by decide) (C.2.2.2.2.1 _ qX4_charAt_2) (fun _ h9 => h9) dX4_charAt_8 (37) (by omega) e37 rfl ?_
  refine z_imul C dX4_charAt_11 ?_
  refine z_top (y := nI (240 * past)) (pk_mul _ _) ?_
  refine z_iload_n C dX4_charAt_12 1 rfl ?_
  refine z_iadd C dX4_charAt_13 ?_
  refine z_top (y := nI (240 * past + i)) (nI_add _ _) ?_
  refine z_iald C 0 rfl dX4_charAt_14 (38) (by omega) e38 (240 * past + i) (rfl) (hi) (by decide) ?_
  exact z_iret C hr dX4_charAt_15 (⟨rfl, rfl⟩) (Nat.le_of_ble_eq_true rfl) (Nat.le_of_ble_eq_true rfl)

theorem qX4_draftOne_0 : ∀ w ∈ wsX40, w ∈ wsX4_draftOne := by decide +kernel
theorem qX4_draftOne_1 : Cond.fieldLink RX4 16 "PieceTextModel" "draft" "[I" ∈ wsX4_draftOne := by decide +kernel
theorem qX4_draftOne_2 : Cond.fieldLink RX4 38 "PieceTextModel" "drafted" "I" ∈ wsX4_draftOne := by decide +kernel
set_option maxHeartbeats 4000000 in
set_option maxRecDepth 100000 in
theorem c_M_draftOne (l : Launch) (D : va_G) (cI cR cL : ClassId) (B N : Nat) (ad : Nat → Nat) (cw : Nat → va_E) (hN : 45 < N) {th : Int32} {n : Nat} {past fut pn wn : Nat} (e37 : cw 37 = .inr (4, [.int (th), .ref (ad (38)), .ref (ad (39)), .int (nI (past)), .int (nI (fut)), .ref (ad (40)), .int (nI n), .ref (ad (41)), .int (nI (pn)), .ref (ad (42)), .int (nI (wn)), .ref (ad (43)), .ref (ad (44))])) {df : Nat → Int32} (e40 : cw 40 = .inl (cI, 240, .inl (df))) (hn : n < 240) (x : Int32) : Met l yX4_draftOne wsX4_draftOne ({ frames := 0, cells := 0, slots := 0, locals := 0 } : Room) (va_Pc [.ref (ad (37)), .int (x)] (zI D vwCl (zTy cI cR cL) B N ad cw)) (zQv D vwCl B N ad (fun (cw' : Nat → va_E) => cw' = va_up (va_up cw 40 (.inl (cI, 240, .inl (upd df n x)))) 37 (.inr (4, [.int (th), .ref (ad (38)), .ref (ad (39)), .int (nI (past)), .int (nI (fut)), .ref (ad (40)), .int (nI (n + 1)), .ref (ad (41)), .int (nI (pn)), .ref (ad (42)), .int (nI (wn)), .ref (ad (43)), .ref (ad (44))])))) 0 0 (zA B) := by
  refine z_ofW (cc := cX4_draftOne) (maxL := 2) (ret := none) (by decide) rfl (Nat.le_of_ble_eq_true rfl) ?_
  intro p e s m args below meth c C hr hnm
  refine z_lv (lv' := [(0, .ref (ad (37))), (1, .int (x))]) [0, 1] rfl ?_
  refine z_aload_n C dX4_draftOne_0 0 rfl ?_
  refine z_get (Cn := RX4) (T := TX4) (NF := 13) (ci := 4) (v := .ref (ad (40))) C qX4_draftOne_0 rfl 5 (by decide) (C.2.2.2.2.1 _ qX4_draftOne_1) (fun _ h9 => h9) dX4_draftOne_1 (37) (by omega) e37 rfl ?_
  refine z_aload_n C dX4_draftOne_4 0 rfl ?_
  refine z_get (Cn := RX4) (T := TX4) (NF := 13) (ci := 4) (v := .int (nI n)) C qX4_draftOne_0 rfl 6 (by decide) (C.2.2.2.2.1 _ qX4_draftOne_2) (fun _ h9 => h9) dX4_draftOne_5 (37) (by omega) e37 rfl ?_
  refine z_iload_n C dX4_draftOne_8 1 rfl ?_
  obtain ⟨cw1, ecw1⟩ : ∃ z : Nat → va_E, z = va_up (cw) (40) (.inl (cI, 240, .inl (upd (df) (n) ((x))))) := ⟨_, rfl⟩
  refine z_iast C 0 rfl dX4_draftOne_9 (40) (by omega) e40 (n) (rfl) (hn) (by decide) ?_
  refine z_cw ecw1.symm ?_
  have hw_2 : cw1 (37) = .inr (4, [.int (th), .ref (ad (38)), .ref (ad (39)), .int (nI (past)), .int (nI (fut)), .ref (ad (40)), .int (nI n), .ref (ad (41)), .int (nI (pn)), .ref (ad (42)), .int (nI (wn)), .ref (ad (43)), .ref (ad (44))]) := by rw [ecw1, va_up_ne _ _ (by decide)]; exact e37
  have hw_3 : cw1 (40) = .inl (cI, 240, .inl (upd (df) (n) ((x)))) := by rw [ecw1, va_up_self]
  refine z_aload_n C dX4_draftOne_10 0 rfl ?_
  refine z_dup C dX4_draftOne_11 rfl ?_
  refine z_get (Cn := RX4) (T := TX4) (NF := 13) (ci := 4) (v := .int (nI n)) C qX4_draftOne_0 rfl 6 (by decide) (C.2.2.2.2.1 _ qX4_draftOne_2) (fun _ h9 => h9) dX4_draftOne_12 (37) (by omega) hw_2 rfl ?_
  refine z_iconst (v := nI 1) C dX4_draftOne_15 (by decide) ?_
  refine z_iadd C dX4_draftOne_16 ?_
  refine z_top (y := nI (n + 1)) (nI_1 n) ?_
  obtain ⟨cw4, ecw4⟩ : ∃ z : Nat → va_E, z = va_up (cw1) (37) (.inr (4, [.int (th), .ref (ad (38)), .ref (ad (39)), .int (nI (past)), .int (nI (fut)), .ref (ad (40)), .int (nI (n + 1)), .ref (ad (41)), .int (nI (pn)), .ref (ad (42)), .int (nI (wn)), .ref (ad (43)), .ref (ad (44))])) := ⟨_, rfl⟩
  refine z_put (Cn := RX4) (T := TX4) (NF := 13) (ci := 4) (ty := .int) (v := .int (nI (n + 1))) C qX4_draftOne_0 tyX4_ok nmX4 rfl 6 (by decide) (C.2.2.2.2.1 _ qX4_draftOne_2) (fun _ h9 => h9) rfl (by decide +kernel) dX4_draftOne_17 (37) (by omega) hw_2 rfl rfl (Nat.le_of_ble_eq_true rfl) ?_
  refine z_cw ecw4.symm ?_
  have hw_5 : cw4 (37) = .inr (4, [.int (th), .ref (ad (38)), .ref (ad (39)), .int (nI (past)), .int (nI (fut)), .ref (ad (40)), .int (nI (n + 1)), .ref (ad (41)), .int (nI (pn)), .ref (ad (42)), .int (nI (wn)), .ref (ad (43)), .ref (ad (44))]) := by rw [ecw4, va_up_self]
  have hw_6 : cw4 (40) = .inl (cI, 240, .inl (upd (df) (n) ((x)))) := by rw [ecw4, va_up_ne _ _ (by decide)]; exact hw_3
  exact z_vret C hr dX4_draftOne_20 (by rw [ecw4, ecw1]) (Nat.le_of_ble_eq_true rfl) (Nat.le_of_ble_eq_true rfl)

theorem len_snoc (xs : List Int32) (x : Int32) : (xs ++ [x]).length = xs.length + 1 := by rw [List.length_append]; rfl
theorem zPart_nil (xs : List Int32) (b : Nat) : zPart xs b b = [] := by
  unfold zPart
  rw [List.drop_eq_nil_of_le (by rw [List.length_take]; omega)]
theorem zPart_next {f : Nat → Int32} {xs : List Int32} (h : zIs f xs) {b i : Nat} (hb : b ≤ i) (hi : i < xs.length) : zPart xs b (i + 1) = zPart xs b i ++ [f i] := by
  unfold zPart
  rw [take_next h hi, List.drop_append_of_le_length (by rw [List.length_take]; omega)]
theorem qX4_draftFrom_0 : ∀ w ∈ wsX40, w ∈ wsX4_draftFrom := by decide +kernel
theorem qX4_draftFrom_1 : Cond.fieldLink RX4 16 "PieceTextModel" "draft" "[I" ∈ wsX4_draftFrom := by decide +kernel
theorem qX4_draftFrom_2 : Cond.fieldLink RX4 38 "PieceTextModel" "drafted" "I" ∈ wsX4_draftFrom := by decide +kernel
set_option maxHeartbeats 4000000 in
set_option maxRecDepth 100000 in
theorem c_M_draftFrom (l : Launch) (D : va_G) (cI cR cL : ClassId) (B N : Nat) (ad : Nat → Nat) (cw : Nat → va_E) (hN : 45 < N) {th : Int32} {dr : List Int32} {past fut pn wn : Nat} (e37 : cw 37 = .inr (4, [.int (th), .ref (ad (38)), .ref (ad (39)), .int (nI (past)), .int (nI (fut)), .ref (ad (40)), .int (nI (dr.length)), .ref (ad (41)), .int (nI (pn)), .ref (ad (42)), .int (nI (wn)), .ref (ad (43)), .ref (ad (44))])) {tf df : Nat → Int32} {xs : List Int32} (e38 : cw 38 = .inl (cI, 3120, .inl (tf))) (e40 : cw 40 = .inl (cI, 240, .inl (df))) (hdr : zIs df dr) (hxs : zIs (fun i => tf (240 * past + i)) xs) (hp : past ≤ 12) {b k : Nat} (hbk : b ≤ k) (hk : k ≤ xs.length) (hx : xs.length ≤ 240) (hfit : dr.length + (k - b) ≤ 240) : Met l yX4_draftFrom wsX4_draftFrom ({ frames := 1, cells := 0, slots := 0, locals := 21 } : Room) (va_Pc [.ref (ad (37)), .int (nI b), .int (nI k)] (zI D vwCl (zTy cI cR cL) B N ad cw)) (zQv D vwCl B N ad (fun (cw' : Nat → va_E) => cw' 37 = .inr (4, [.int (th), .ref (ad (38)), .ref (ad (39)), .int (nI (past)), .int (nI (fut)), .ref (ad (40)), .int (nI ((dr ++ zPart xs b k).length)), .ref (ad (41)), .int (nI (pn)), .ref (ad (42)), .int (nI (wn)), .ref (ad (43)), .ref (ad (44))]) ∧ (∃ df', cw' 40 = .inl (cI, 240, .inl (df')) ∧ zIs df' (dr ++ zPart xs b k)) ∧ ∀ j, (j ≠ 37 ∧ j ≠ 40) → cw' j = cw j)) 0 0 (zA B) := by
  refine z_ofW (cc := cX4_draftFrom) (maxL := 4) (ret := none) (by decide) rfl (Nat.le_of_ble_eq_true rfl) ?_
  intro p e s m args below meth c C hr hnm
  refine z_lv (lv' := [(0, .ref (ad (37))), (1, .int (nI b)), (2, .int (nI k))]) [0, 1, 2] rfl ?_
  refine z_iload_n C dX4_draftFrom_0 1 rfl ?_
  refine z_istore_n (lv' := [(3, .int (nI b)), (0, .ref (ad (37))), (1, .int (nI b)), (2, .int (nI k))]) C dX4_draftFrom_1 rfl (by decide) rfl ?_
  refine z_lv (lv' := [(3, .int (nI b)), (0, .ref (ad (37))), (1, .int (nI b)), (2, .int (nI k))]) [0, 1, 2, 3] rfl ?_
  suffices loop : ∀ (mm i : Nat) (cwk : Nat → va_E), k = i + mm → b ≤ i → cwk 37 = .inr (4, [.int (th), .ref (ad (38)), .ref (ad (39)), .int (nI (past)), .int (nI (fut)), .ref (ad (40)), .int (nI ((dr ++ zPart xs b i).length)), .ref (ad (41)), .int (nI (pn)), .ref (ad (42)), .int (nI (wn)), .ref (ad (43)), .ref (ad (44))]) → (∃ df', cwk 40 = .inl (cI, 240, .inl (df')) ∧ zIs df' (dr ++ zPart xs b i)) → (∀ j, (j ≠ 37 ∧ j ≠ 40) → cwk j = cw j) → zG p l e (headSpec wsX4_draftFrom ({ frames := 1, cells := 0, slots := 0, locals := 21 } : Room)).room s m args below meth c (MQ below (zQv D vwCl B N ad (fun (cw' : Nat → va_E) => cw' 37 = .inr (4, [.int (th), .ref (ad (38)), .ref (ad (39)), .int (nI (past)), .int (nI (fut)), .ref (ad (40)), .int (nI ((dr ++ zPart xs b k).length)), .ref (ad (41)), .int (nI (pn)), .ref (ad (42)), .int (nI (wn)), .ref (ad (43)), .ref (ad (44))]) ∧ (∃ df', cw' 40 = .inl (cI, 240, .inl (df')) ∧ zIs df' (dr ++ zPart xs b k)) ∧ ∀ j, (j ≠ 37 ∧ j ≠ 40) → cw' j = cw j)) args s 0 0 (zA B)) D vwCl B 4 N ad cwk 0 0 [(3, .int (nI i)), (0, .ref (ad (37))), (1, .int (nI b)), (2, .int (nI k))] 2 [] from loop (k - b) b cw (by omega) (Nat.le_refl _) (by rw [zPart_nil, List.append_nil]; exact e37) ⟨df, e40, by rw [zPart_nil, List.append_nil]; exact hdr⟩ (fun j _ => rfl)
  intro mm
  induction mm with
  | zero =>
    intro i cwk hi hbi q1 q2 hfrm
    obtain ⟨f2, q3, q4⟩ := id q2
    have hk_1 : cwk (38) = .inl (cI, 3120, .inl (tf)) := (hfrm (38) (by omega)).trans e38
    refine z_iload_n C dX4_draftFrom_2 0 rfl ?_
    refine z_iload_n C dX4_draftFrom_3 3 rfl ?_
    refine z_icmp_ge (tgt := 37) C dX4_draftFrom_4 (by decide) (fun c2 => ?_) (fun c2 => ?_)
    · skip
      have e9 : i = k := by omega
      subst e9
      exact z_vret C hr dX4_draftFrom_37 (⟨q1, q2, hfrm⟩) (Nat.le_of_ble_eq_true rfl) (Nat.le_of_ble_eq_true rfl)
    · skip
      exact absurd (nI_le (by omega) (by omega)) c2
  | succ mm ih =>
    intro i cwk hi hbi q1 q2 hfrm
    obtain ⟨f2, q3, q4⟩ := id q2
    have hk_3 : cwk (38) = .inl (cI, 3120, .inl (tf)) := (hfrm (38) (by omega)).trans e38
    refine z_iload_n C dX4_draftFrom_2 0 rfl ?_
    refine z_iload_n C dX4_draftFrom_3 3 rfl ?_
    refine z_icmp_ge (tgt := 37) C dX4_draftFrom_4 (by decide) (fun c4 => ?_) (fun c4 => ?_)
    · skip
      exact absurd ((nI_leI (by omega) (by omega)).mp c4) (by omega)
    · skip
      have hl2 : (dr ++ zPart xs b i).length = dr.length + (i - b) := by rw [List.length_append, zPart_len (by omega)]
      have hn2 : dr ++ zPart xs b (i + 1) = dr ++ zPart xs b i ++ [tf (240 * past + i)] := by rw [zPart_next hxs hbi (by omega), List.append_assoc]
      refine z_aload_n C dX4_draftFrom_7 1 rfl ?_
      refine z_get (Cn := RX4) (T := TX4) (NF := 13) (ci := 4) (v := .ref (ad (40))) C qX4_draftFrom_0 rfl 5 (by decide) (C.2.2.2.2.1 _ qX4_draftFrom_1) (fun _ h9 => h9) dX4_draftFrom_8 (37) (by omega) q1 rfl ?_
      refine z_aload_n C dX4_draftFrom_11 1 rfl ?_
      refine z_get (Cn := RX4) (T := TX4) (NF := 13) (ci := 4) (v := .int (nI ((dr ++ zPart xs b i).length))) C qX4_draftFrom_0 rfl 6 (by decide) (C.2.2.2.2.1 _ qX4_draftFrom_2) (fun _ h9 => h9) dX4_draftFrom_12 (37) (by omega) q1 rfl ?_
      refine z_aload_n C dX4_draftFrom_15 1 rfl ?_
      refine z_iload_n C dX4_draftFrom_16 0 rfl ?_
      refine z_calli (z_runV (As := [.int (nI (i))]) (rest := [.int (nI ((dr ++ zPart xs b i).length)), .ref (ad (40))]) C (c_M_charAt l D cI cR cL B N ad cwk hN q1 hk_3 (i := i) (by omega)) (cwV 1 C.2.2.2.2.1 gX4_draftFrom_X4_charAt rfl rfl rfl (by decide +kernel) ⟨Nat.le_of_ble_eq_true rfl, Nat.le_of_ble_eq_true rfl⟩) (by omega) q1 rfl rfl rfl rfl (Nat.le_of_ble_eq_true rfl) dX4_draftFrom_17 ⟨Nat.le_of_ble_eq_true rfl, Nat.le_of_ble_eq_true rfl⟩) (fun r5 cw6 hp7 => ?_)
      refine z_cw hp7.2 ?_
      refine z_top hp7.1 ?_
      obtain ⟨cw8, ecw8⟩ : ∃ z : Nat → va_E, z = va_up (cwk) (40) (.inl (cI, 240, .inl (upd (f2) ((dr ++ zPart xs b i).length) ((tf (240 * past + i)))))) := ⟨_, rfl⟩
      refine z_iast C 0 rfl dX4_draftFrom_20 (40) (by omega) q3 ((dr ++ zPart xs b i).length) (rfl) (by omega) (by decide) ?_
      refine z_cw ecw8.symm ?_
      have hw_9 : cw8 (37) = .inr (4, [.int (th), .ref (ad (38)), .ref (ad (39)), .int (nI (past)), .int (nI (fut)), .ref (ad (40)), .int (nI ((dr ++ zPart xs b i).length)), .ref (ad (41)), .int (nI (pn)), .ref (ad (42)), .int (nI (wn)), .ref (ad (43)), .ref (ad (44))]) := by rw [ecw8, va_up_ne _ _ (by decide)]; exact q1
      have hw_10 : cw8 (40) = .inl (cI, 240, .inl (upd (f2) ((dr ++ zPart xs b i).length) ((tf (240 * past + i))))) := by rw [ecw8, va_up_self]
      have hw_11 : cw8 (38) = .inl (cI, 3120, .inl (tf)) := by rw [ecw8, va_up_ne _ _ (by decide)]; exact hk_3
      refine z_aload_n C dX4_draftFrom_21 1 rfl ?_
      refine z_dup C dX4_draftFrom_22 rfl ?_
      refine z_get (Cn := RX4) (T := TX4) (NF := 13) (ci := 4) (v := .int (nI ((dr ++ zPart xs b i).length))) C qX4_draftFrom_0 rfl 6 (by decide) (C.2.2.2.2.1 _ qX4_draftFrom_2) (fun _ h9 => h9) dX4_draftFrom_23 (37) (by omega) hw_9 rfl ?_
      refine z_iconst (v := nI 1) C dX4_draftFrom_26 (by decide) ?_
      refine z_iadd C dX4_draftFrom_27 ?_
      refine z_top (y := nI ((dr ++ zPart xs b i).length + 1)) (nI_1 _) ?_
      obtain ⟨cw12, ecw12⟩ : ∃ z : Nat → va_E, z = va_up (cw8) (37) (.inr (4, [.int (th), .ref (ad (38)), .ref (ad (39)), .int (nI (past)), .int (nI (fut)), .ref (ad (40)), .int (nI ((dr ++ zPart xs b i).length + 1)), .ref (ad (41)), .int (nI (pn)), .ref (ad (42)), .int (nI (wn)), .ref (ad (43)), .ref (ad (44))])) := ⟨_, rfl⟩
      refine z_put (Cn := RX4) (T := TX4) (NF := 13) (ci := 4) (ty := .int) (v := .int (nI ((dr ++ zPart xs b i).length + 1))) C qX4_draftFrom_0 tyX4_ok nmX4 rfl 6 (by decide) (C.2.2.2.2.1 _ qX4_draftFrom_2) (fun _ h9 => h9) rfl (by decide +kernel) dX4_draftFrom_28 (37) (by omega) hw_9 rfl rfl (Nat.le_of_ble_eq_true rfl) ?_
      refine z_cw ecw12.symm ?_
      have hw_13 : cw12 (37) = .inr (4, [.int (th), .ref (ad (38)), .ref (ad (39)), .int (nI (past)), .int (nI (fut)), .ref (ad (40)), .int (nI ((dr ++ zPart xs b i).length + 1)), .ref (ad (41)), .int (nI (pn)), .ref (ad (42)), .int (nI (wn)), .ref (ad (43)), .ref (ad (44))]) := by rw [ecw12, va_up_self]
      have hw_14 : cw12 (40) = .inl (cI, 240, .inl (upd (f2) ((dr ++ zPart xs b i).length) ((tf (240 * past + i))))) := by rw [ecw12, va_up_ne _ _ (by decide)]; exact hw_10
      have hw_15 : cw12 (38) = .inl (cI, 3120, .inl (tf)) := by rw [ecw12, va_up_ne _ _ (by decide)]; exact hw_11
      refine z_iinc (x := nI (i + 1)) (lv' := [(3, .int (nI (i + 1))), (0, .ref (ad (37))), (1, .int (nI b)), (2, .int (nI k))]) C dX4_draftFrom_31 0 rfl (nI_1 i) (by decide) rfl ?_
      refine z_goto (tgt := 2) C dX4_draftFrom_34 (by decide) ?_
      refine z_lv (lv' := [(3, .int (nI (i + 1))), (0, .ref (ad (37))), (1, .int (nI b)), (2, .int (nI k))]) [0, 1, 2, 3] rfl ?_
      exact ih (i + 1) _ (by omega) (by omega) (by rw [hw_13, hn2, len_snoc]) ⟨_, hw_14, by rw [hn2]; exact zIs_add q4 _⟩ (fun j hj => ((fun j hj => by rw [ecw12, va_up_ne _ _ (by omega)]; rw [ecw8, va_up_ne _ _ (by omega)]) : ∀ j, (j ≠ 37 ∧ j ≠ 40) → _ = cwk j) j hj |>.trans (hfrm j hj))
end
section
def zOld (lf tf : Nat → Int32) (pv : Nat) (hs' : Nat → List Int32) : Prop := ∀ j, j ≤ pv → (hs' j).length ≤ 240 ∧ lf j = nI (hs' j).length ∧ zIs (fun i => tf (240 * j + i)) (hs' j)
theorem zOld_shift {lf tf lf' tf' : Nat → Int32} {hs : Nat → List Int32} {dr : List Int32} (h : ∀ j, j ≤ 12 → (hs j).length ≤ 240 ∧ lf j = nI (hs j).length ∧ zIs (fun i => tf (240 * j + i)) (hs j)) (hl : ∀ t, t < 12 → lf' t = lf (t + 1)) (ht : ∀ k, k < 2880 → tf' k = tf (k + 240)) : zOld lf' tf' 11 (aHs 12 hs dr) := by
  intro j hj
  unfold aHs
  rw [if_pos rfl, if_pos (by omega)]
  obtain ⟨a1, a2, a3⟩ := h (j + 1) (by omega)
  refine ⟨a1, (hl j (by omega)).trans a2, fun i hi => ?_⟩
  rw [a3 i hi]
  show some (tf (240 * (j + 1) + i)) = some (tf' (240 * j + i))
  rw [ht (240 * j + i) (by omega)]
  congr 2
  omega
theorem zOld_same {lf tf : Nat → Int32} {past fut : Nat} {hs : Nat → List Int32} {dr : List Int32} (hp : ¬ past = 12) (h : ∀ j, j ≤ past + fut → (hs j).length ≤ 240 ∧ lf j = nI (hs j).length ∧ zIs (fun i => tf (240 * j + i)) (hs j)) : zOld lf tf past (aHs past hs dr) := by
  intro j hj
  unfold aHs
  rw [if_neg hp, if_neg (by omega)]
  exact h j (by omega)
theorem aHs_top {past : Nat} {hs : Nat → List Int32} {dr : List Int32} (hp : past ≤ 12) : aHs past hs dr (aPast past) = dr := by
  unfold aHs aPast
  by_cases h : past = 12
  · rw [if_pos h, if_pos h, if_neg (by omega)]
  · rw [if_neg h, if_neg h, if_pos rfl]
theorem zOld_new {lf tf tf' : Nat → Int32} {pv : Nat} {hs' : Nat → List Int32} {dr : List Int32} {df : Nat → Int32} (h : zOld lf tf pv hs') (htop : hs' (pv + 1) = dr) (hd : zIs df dr) (h240 : dr.length ≤ 240) (ht : ∀ k, k < 240 * (pv + 1) → tf' k = tf k) (ht2 : ∀ i, i < dr.length → tf' (240 * (pv + 1) + i) = df i) : zOld (upd lf (pv + 1) (nI dr.length)) tf' (pv + 1) hs' := by
  intro j hj
  by_cases hj2 : j = pv + 1
  · subst hj2
    rw [htop, pk_us]
    exact ⟨h240, rfl, fun i hi => by rw [hd i hi]; show some (df i) = some (tf' (240 * (pv + 1) + i)); rw [ht2 i hi]⟩
  · obtain ⟨a1, a2, a3⟩ := h j (by omega)
    rw [pk_un hj2]
    refine ⟨a1, a2, fun i hi => ?_⟩
    rw [a3 i hi]
    show some (tf (240 * j + i)) = some (tf' (240 * j + i))
    rw [ht (240 * j + i) (by have h9 : 240 * (j + 1) ≤ 240 * (pv + 1) := Nat.mul_le_mul_left _ (by omega); omega)]
theorem qX4_act_0 : ∀ w ∈ wsX40, w ∈ wsX4_act := by decide +kernel
theorem qX4_act_1 : Cond.fieldLink RX4 35 "PieceTextModel" "past" "I" ∈ wsX4_act := by decide +kernel
theorem qX4_act_2 : Cond.fieldLink RX4 45 "PieceTextModel" "future" "I" ∈ wsX4_act := by decide +kernel
theorem qX4_act_3 : Cond.fieldLink RX4 13 "PieceTextModel" "lengths" "[I" ∈ wsX4_act := by decide +kernel
theorem qX4_act_4 : Cond.fieldLink RX4 38 "PieceTextModel" "drafted" "I" ∈ wsX4_act := by decide +kernel
theorem qX4_act_5 : Cond.fieldLink RX4 7 "PieceTextModel" "texts" "[I" ∈ wsX4_act := by decide +kernel
theorem qX4_act_6 : Cond.fieldLink RX4 16 "PieceTextModel" "draft" "[I" ∈ wsX4_act := by decide +kernel
set_option maxHeartbeats 4000000 in
set_option maxRecDepth 100000 in
theorem c_M_act (l : Launch) (D : va_G) (cI cR cL : ClassId) (B N : Nat) (ad : Nat → Nat) (cw : Nat → va_E) (hN : 45 < N) {past fut : Nat} {hs : Nat → List Int32} {pat ws dr : List Int32} {th : Int32} (hM : zRM cI ad cw past fut hs pat ws th (nI (dr.length))) {df : Nat → Int32} (e40 : cw 40 = .inl (cI, 240, .inl (df))) (hdr : zIs df dr) (h240 : dr.length ≤ 240) : Met l yX4_act wsX4_act ({ frames := 0, cells := 0, slots := 0, locals := 0 } : Room) (va_Pc [.ref (ad (37))] (zI D vwCl (zTy cI cR cL) B N ad cw)) (zQi D vwCl B N ad (fun (v : Int32) (cw' : Nat → va_E) => v = nI dr.length ∧ zRM cI ad cw' (aPast past) 0 (aHs past hs dr) pat ws th (nI dr.length) ∧ ∀ j, (j ≠ 37 ∧ j ≠ 38 ∧ j ≠ 39) → cw' j = cw j)) 0 0 (zA B) := by
  obtain ⟨m1, ⟨m2, tf, lf, m3, m4, m5⟩, _, ⟨m7, pf, m8, m9⟩, ⟨m10, wf, m11, m12⟩, ⟨bf, m13⟩, zf, m14⟩ := id hM
  refine z_ofW (cc := cX4_act) (maxL := 2) (ret := (some .int)) (by decide) rfl (Nat.le_of_ble_eq_true rfl) ?_
  intro p e s m args below meth c C hr hnm
  refine z_lv (lv' := [(0, .ref (ad (37)))]) [0] rfl ?_
  have tail : ∀ (pv fu : Nat) (tk lk : Nat → Int32) (cwk : Nat → va_E), pv + 1 = aPast past → pv ≤ 11 → fu ≤ 12 → zOld lk tk pv (aHs past hs dr) → cwk 37 = .inr (4, [.int (th), .ref (ad (38)), .ref (ad (39)), .int (nI (pv)), .int (nI (fu)), .ref (ad (40)), .int (nI (dr.length)), .ref (ad (41)), .int (nI (pat.length)), .ref (ad (42)), .int (nI (ws.length)), .ref (ad (43)), .ref (ad (44))]) → cwk 38 = .inl (cI, 3120, .inl (tk)) → cwk 39 = .inl (cI, 13, .inl (lk)) → (∀ j, (j ≠ 37 ∧ j ≠ 38 ∧ j ≠ 39) → cwk j = cw j) → zG p l e (headSpec wsX4_act ({ frames := 0, cells := 0, slots := 0, locals := 0 } : Room)).room s m args below meth c (MQ below (zQi D vwCl B N ad (fun (v : Int32) (cw' : Nat → va_E) => v = nI dr.length ∧ zRM cI ad cw' (aPast past) 0 (aHs past hs dr) pat ws th (nI dr.length) ∧ ∀ j, (j ≠ 37 ∧ j ≠ 38 ∧ j ≠ 39) → cw' j = cw j)) args s 0 0 (zA B)) D vwCl B 2 N ad cwk 0 0 [(0, .ref (ad (37)))] 74 [] := by
    intro pv fu tk lk cwk hpv hp11 hf12 hold q37 q38 q39 hfrm
    have hk_1 : cwk (40) = .inl (cI, 240, .inl (df)) := (hfrm (40) (by omega)).trans e40
    refine z_aload_n C dX4_act_74 0 rfl ?_
    refine z_dup C dX4_act_75 rfl ?_
    refine z_get (Cn := RX4) (T := TX4) (NF := 13) (ci := 4) (v := .int (nI (pv))) C qX4_act_0 rfl 3 (by decide) (C.2.2.2.2.1 _ qX4_act_1) (fun _ h9 => h9) dX4_act_76 (37) (by omega) q37 rfl ?_
    refine z_iconst (v := nI 1) C dX4_act_79 (by decide) ?_
    refine z_iadd C dX4_act_80 ?_
    refine z_top (y := nI (pv + 1)) (nI_1 pv) ?_
    obtain ⟨cw2, ecw2⟩ : ∃ z : Nat → va_E, z = va_up (cwk) (37) (.inr (4, [.int (th), .ref (ad (38)), .ref (ad (39)), .int (nI (pv + 1)), .int (nI (fu)), .ref (ad (40)), .int (nI (dr.length)), .ref (ad (41)), .int (nI (pat.length)), .ref (ad (42)), .int (nI (ws.length)), .ref (ad (43)), .ref (ad (44))])) := ⟨_, rfl⟩
    refine z_put (Cn := RX4) (T := TX4) (NF := 13) (ci := 4) (ty := .int) (v := .int (nI (pv + 1))) C qX4_act_0 tyX4_ok nmX4 rfl 3 (by decide) (C.2.2.2.2.1 _ qX4_act_1) (fun _ h9 => h9) rfl (by decide +kernel) dX4_act_81 (37) (by omega) q37 rfl rfl (Nat.le_of_ble_eq_true rfl) ?_
    refine z_cw ecw2.symm ?_
    have hw_3 : cw2 (37) = .inr (4, [.int (th), .ref (ad (38)), .ref (ad (39)), .int (nI (pv + 1)), .int (nI (fu)), .ref (ad (40)), .int (nI (dr.length)), .ref (ad (41)), .int (nI (pat.length)), .ref (ad (42)), .int (nI (ws.length)), .ref (ad (43)), .ref (ad (44))]) := by rw [ecw2, va_up_self]
    have hw_4 : cw2 (38) = .inl (cI, 3120, .inl (tk)) := by rw [ecw2, va_up_ne _ _ (by decide)]; exact q38
    have hw_5 : cw2 (39) = .inl (cI, 13, .inl (lk)) := by rw [ecw2, va_up_ne _ _ (by decide)]; exact q39
    have hw_6 : cw2 (40) = .inl (cI, 240, .inl (df)) := by rw [ecw2, va_up_ne _ _ (by decide)]; exact hk_1
    refine z_aload_n C dX4_act_84 0 rfl ?_
    refine z_iconst (v := nI 0) C dX4_act_85 (by decide) ?_
    obtain ⟨cw7, ecw7⟩ : ∃ z : Nat → va_E, z = va_up (cw2) (37) (.inr (4, [.int (th), .ref (ad (38)), .ref (ad (39)), .int (nI (pv + 1)), .int (nI 0), .ref (ad (40)), .int (nI (dr.length)), .ref (ad (41)), .int (nI (pat.length)), .ref (ad (42)), .int (nI (ws.length)), .ref (ad (43)), .ref (ad (44))])) := ⟨_, rfl⟩
    refine z_put (Cn := RX4) (T := TX4) (NF := 13) (ci := 4) (ty := .int) (v := .int (nI 0)) C qX4_act_0 tyX4_ok nmX4 rfl 4 (by decide) (C.2.2.2.2.1 _ qX4_act_2) (fun _ h9 => h9) rfl (by decide +kernel) dX4_act_86 (37) (by omega) hw_3 rfl rfl (Nat.le_of_ble_eq_true rfl) ?_
    refine z_cw ecw7.symm ?_
    have hw_8 : cw7 (37) = .inr (4, [.int (th), .ref (ad (38)), .ref (ad (39)), .int (nI (pv + 1)), .int (nI 0), .ref (ad (40)), .int (nI (dr.length)), .ref (ad (41)), .int (nI (pat.length)), .ref (ad (42)), .int (nI (ws.length)), .ref (ad (43)), .ref (ad (44))]) := by rw [ecw7, va_up_self]
    have hw_9 : cw7 (38) = .inl (cI, 3120, .inl (tk)) := by rw [ecw7, va_up_ne _ _ (by decide)]; exact hw_4
    have hw_10 : cw7 (39) = .inl (cI, 13, .inl (lk)) := by rw [ecw7, va_up_ne _ _ (by decide)]; exact hw_5
    have hw_11 : cw7 (40) = .inl (cI, 240, .inl (df)) := by rw [ecw7, va_up_ne _ _ (by decide)]; exact hw_6
    refine z_aload_n C dX4_act_89 0 rfl ?_
    refine z_get (Cn := RX4) (T := TX4) (NF := 13) (ci := 4) (v := .ref (ad (39))) C qX4_act_0 rfl 2 (by decide) (C.2.2.2.2.1 _ qX4_act_3) (fun _ h9 => h9) dX4_act_90 (37) (by omega) hw_8 rfl ?_
    refine z_aload_n C dX4_act_93 0 rfl ?_
    refine z_get (Cn := RX4) (T := TX4) (NF := 13) (ci := 4) (v := .int (nI (pv + 1))) C qX4_act_0 rfl 3 (by decide) (C.2.2.2.2.1 _ qX4_act_1) (fun _ h9 => h9) dX4_act_94 (37) (by omega) hw_8 rfl ?_
    refine z_aload_n C dX4_act_97 0 rfl ?_
    refine z_get (Cn := RX4) (T := TX4) (NF := 13) (ci := 4) (v := .int (nI (dr.length))) C qX4_act_0 rfl 6 (by decide) (C.2.2.2.2.1 _ qX4_act_4) (fun _ h9 => h9) dX4_act_98 (37) (by omega) hw_8 rfl ?_
    obtain ⟨cw12, ecw12⟩ : ∃ z : Nat → va_E, z = va_up (cw7) (39) (.inl (cI, 13, .inl (upd (lk) (pv + 1) ((nI (dr.length)))))) := ⟨_, rfl⟩
    refine z_iast C 0 rfl dX4_act_101 (39) (by omega) hw_10 (pv + 1) (rfl) (by omega) (by decide) ?_
    refine z_cw ecw12.symm ?_
    have hw_13 : cw12 (37) = .inr (4, [.int (th), .ref (ad (38)), .ref (ad (39)), .int (nI (pv + 1)), .int (nI 0), .ref (ad (40)), .int (nI (dr.length)), .ref (ad (41)), .int (nI (pat.length)), .ref (ad (42)), .int (nI (ws.length)), .ref (ad (43)), .ref (ad (44))]) := by rw [ecw12, va_up_ne _ _ (by decide)]; exact hw_8
    have hw_14 : cw12 (38) = .inl (cI, 3120, .inl (tk)) := by rw [ecw12, va_up_ne _ _ (by decide)]; exact hw_9
    have hw_15 : cw12 (39) = .inl (cI, 13, .inl (upd (lk) (pv + 1) ((nI (dr.length))))) := by rw [ecw12, va_up_self]
    have hw_16 : cw12 (40) = .inl (cI, 240, .inl (df)) := by rw [ecw12, va_up_ne _ _ (by decide)]; exact hw_11
    refine z_iconst (v := nI 0) C dX4_act_102 (by decide) ?_
    refine z_istore_n (lv' := [(1, .int (nI 0)), (0, .ref (ad (37)))]) C dX4_act_103 rfl (by decide) rfl ?_
    refine z_lv (lv' := [(1, .int (nI 0)), (0, .ref (ad (37)))]) [0, 1] rfl ?_
    suffices loop : ∀ (mm i : Nat) (cwl : Nat → va_E), dr.length = i + mm → cwl 37 = .inr (4, [.int (th), .ref (ad (38)), .ref (ad (39)), .int (nI (pv + 1)), .int (nI (0)), .ref (ad (40)), .int (nI (dr.length)), .ref (ad (41)), .int (nI (pat.length)), .ref (ad (42)), .int (nI (ws.length)), .ref (ad (43)), .ref (ad (44))]) → (∃ t9, cwl 38 = .inl (cI, 3120, .inl (t9)) ∧ (∀ k, k < 240 * (pv + 1) → t9 k = tk k) ∧ (∀ a, a < i → t9 (240 * (pv + 1) + a) = df a)) → cwl 39 = .inl (cI, 13, .inl (upd lk (pv + 1) (nI (dr.length)))) → (∀ j, (j ≠ 37 ∧ j ≠ 38 ∧ j ≠ 39) → cwl j = cw j) → zG p l e (headSpec wsX4_act ({ frames := 0, cells := 0, slots := 0, locals := 0 } : Room)).room s m args below meth c (MQ below (zQi D vwCl B N ad (fun (v : Int32) (cw' : Nat → va_E) => v = nI dr.length ∧ zRM cI ad cw' (aPast past) 0 (aHs past hs dr) pat ws th (nI dr.length) ∧ ∀ j, (j ≠ 37 ∧ j ≠ 38 ∧ j ≠ 39) → cw' j = cw j)) args s 0 0 (zA B)) D vwCl B 2 N ad cwl 0 0 [(1, .int (nI i)), (0, .ref (ad (37)))] 104 [] from loop dr.length 0 cw12 (by omega) hw_13 ⟨tk, hw_14, fun _ _ => rfl, fun a ha => absurd ha (by omega)⟩ hw_15 (fun j hj => ((fun j hj => by rw [ecw12, va_up_ne _ _ (by omega)]; rw [ecw7, va_up_ne _ _ (by omega)]; rw [ecw2, va_up_ne _ _ (by omega)]) : ∀ j, (j ≠ 37 ∧ j ≠ 38 ∧ j ≠ 39) → _ = cwk j) j hj |>.trans (hfrm j hj))
    intro mm
    induction mm with
    | zero =>
      intro i cwl hi q1 q2 q3 hfr2
      obtain ⟨t9, q4, q5, q6⟩ := id q2
      have hk_17 : cwl (40) = .inl (cI, 240, .inl (df)) := (hfr2 (40) (by omega)).trans e40
      refine z_iload_n C dX4_act_104 0 rfl ?_
      refine z_aload_n C dX4_act_105 1 rfl ?_
      refine z_get (Cn := RX4) (T := TX4) (NF := 13) (ci := 4) (v := .int (nI (dr.length))) C qX4_act_0 rfl 6 (by decide) (C.2.2.2.2.1 _ qX4_act_4) (fun _ h9 => h9) dX4_act_106 (37) (by omega) q1 rfl ?_
      refine z_icmp_ge (tgt := 139) C dX4_act_109 (by decide) (fun c18 => ?_) (fun c18 => ?_)
      · skip
        refine z_aload_n C dX4_act_139 1 rfl ?_
        refine z_get (Cn := RX4) (T := TX4) (NF := 13) (ci := 4) (v := .int (nI (dr.length))) C qX4_act_0 rfl 6 (by decide) (C.2.2.2.2.1 _ qX4_act_4) (fun _ h9 => h9) dX4_act_140 (37) (by omega) q1 rfl ?_
        exact z_iret C hr dX4_act_143 (⟨rfl, by rw [← hpv]; exact ⟨q1, ⟨by omega, t9, _, q4, q3, fun j hj => zOld_new hold (by rw [hpv]; exact aHs_top (by omega)) hdr h240 q5 (fun a ha => q6 a (by omega)) j (by omega)⟩, ⟨_, hk_17⟩, ⟨m7, pf, (hfr2 41 (by omega)).trans m8, m9⟩, ⟨m10, wf, (hfr2 42 (by omega)).trans m11, m12⟩, ⟨bf, (hfr2 43 (by omega)).trans m13⟩, zf, (hfr2 44 (by omega)).trans m14⟩, hfr2⟩) (Nat.le_of_ble_eq_true rfl) (Nat.le_of_ble_eq_true rfl)
      · skip
        exact absurd (nI_le (by omega) (by omega)) c18
    | succ mm ih =>
      intro i cwl hi q1 q2 q3 hfr2
      obtain ⟨t9, q4, q5, q6⟩ := id q2
      have hk_19 : cwl (40) = .inl (cI, 240, .inl (df)) := (hfr2 (40) (by omega)).trans e40
      refine z_iload_n C dX4_act_104 0 rfl ?_
      refine z_aload_n C dX4_act_105 1 rfl ?_
      refine z_get (Cn := RX4) (T := TX4) (NF := 13) (ci := 4) (v := .int (nI (dr.length))) C qX4_act_0 rfl 6 (by decide) (C.2.2.2.2.1 _ qX4_act_4) (fun _ h9 => h9) dX4_act_106 (37) (by omega) q1 rfl ?_
      refine z_icmp_ge (tgt := 139) C dX4_act_109 (by decide) (fun c20 => ?_) (fun c20 => ?_)
      · skip
        exact absurd ((nI_leI (by omega) (by omega)).mp c20) (by omega)
      · skip
        refine z_aload_n C dX4_act_112 1 rfl ?_
        refine z_get (Cn := RX4) (T := TX4) (NF := 13) (ci := 4) (v := .ref (ad (38))) C qX4_act_0 rfl 1 (by decide) (C.2.2.2.2.1 _ qX4_act_5) (fun _ h9 => h9) dX4_act_113 (37) (by omega) q1 rfl ?_
        refine z_sipush (v := nI 240) C dX4_act_116 (by decide) ?_
        refine z_aload_n C dX4_act_119 1 rfl ?_
        refine z_get (Cn := RX4) (T := TX4) (NF := 13) (ci := 4) (v := .int (nI (pv + 1))) C qX4_act_0 rfl 3 (by decide) (C.2.2.2.2.1 _ qX4_act_1) (fun _ h9 => h9) dX4_act_120 (37) (by omega) q1 rfl ?_
        refine z_imul C dX4_act_123 ?_
        refine z_top (y := nI (240 * (pv + 1))) (pk_mul _ _) ?_
        refine z_iload_n C dX4_act_124 0 rfl ?_
        refine z_iadd C dX4_act_125 ?_
        refine z_top (y := nI (240 * (pv + 1) + i)) (nI_add _ _) ?_
        refine z_aload_n C dX4_act_126 1 rfl ?_
        refine z_get (Cn := RX4) (T := TX4) (NF := 13) (ci := 4) (v := .ref (ad (40))) C qX4_act_0 rfl 5 (by decide) (C.2.2.2.2.1 _ qX4_act_6) (fun _ h9 => h9) dX4_act_127 (37) (by omega) q1 rfl ?_
        refine z_iload_n C dX4_act_130 0 rfl ?_
        refine z_iald C 0 rfl dX4_act_131 (40) (by omega) hk_19 (i) (rfl) (by omega) (by decide) ?_
        obtain ⟨cw21, ecw21⟩ : ∃ z : Nat → va_E, z = va_up (cwl) (38) (.inl (cI, 3120, .inl (upd (t9) (240 * (pv + 1) + i) ((df (i)))))) := ⟨_, rfl⟩
        refine z_iast C 0 rfl dX4_act_132 (38) (by omega) q4 (240 * (pv + 1) + i) (rfl) (by omega) (by decide) ?_
        refine z_cw ecw21.symm ?_
        have hw_22 : cw21 (37) = .inr (4, [.int (th), .ref (ad (38)), .ref (ad (39)), .int (nI (pv + 1)), .int (nI (0)), .ref (ad (40)), .int (nI (dr.length)), .ref (ad (41)), .int (nI (pat.length)), .ref (ad (42)), .int (nI (ws.length)), .ref (ad (43)), .ref (ad (44))]) := by rw [ecw21, va_up_ne _ _ (by decide)]; exact q1
        have hw_23 : cw21 (38) = .inl (cI, 3120, .inl (upd (t9) (240 * (pv + 1) + i) ((df (i))))) := by rw [ecw21, va_up_self]
        have hw_24 : cw21 (39) = .inl (cI, 13, .inl (upd lk (pv + 1) (nI (dr.length)))) := by rw [ecw21, va_up_ne _ _ (by decide)]; exact q3
        have hw_25 : cw21 (40) = .inl (cI, 240, .inl (df)) := by rw [ecw21, va_up_ne _ _ (by decide)]; exact hk_19
        refine z_iinc (x := nI (i + 1)) (lv' := [(1, .int (nI (i + 1))), (0, .ref (ad (37)))]) C dX4_act_133 0 rfl (nI_1 i) (by decide) rfl ?_
        refine z_goto (tgt := 104) C dX4_act_136 (by decide) ?_
        refine z_lv (lv' := [(1, .int (nI (i + 1))), (0, .ref (ad (37)))]) [0, 1] rfl ?_
        exact ih (i + 1) _ (by omega) hw_22 ⟨_, hw_23, fun k hk => (pk_un (by omega)).trans (q5 k hk), fun a ha => by by_cases h9 : a = i; rw [h9]; exact pk_us; rw [pk_un (by omega)]; exact q6 a (by omega)⟩ hw_24 (fun j hj => ((fun j hj => by rw [ecw21, va_up_ne _ _ (by omega)]) : ∀ j, (j ≠ 37 ∧ j ≠ 38 ∧ j ≠ 39) → _ = cwl j) j hj |>.trans (hfr2 j hj))
  refine z_aload_n C dX4_act_0 0 rfl ?_
  refine z_get (Cn := RX4) (T := TX4) (NF := 13) (ci := 4) (v := .int (nI (past))) C qX4_act_0 rfl 3 (by decide) (C.2.2.2.2.1 _ qX4_act_1) (fun _ h9 => h9) dX4_act_1 (37) (by omega) m1 rfl ?_
  refine z_bipush (v := nI 12) C dX4_act_4 (by decide) ?_
  refine z_icmp_ne (tgt := 74) C dX4_act_6 (by decide) (fun c26 => ?_) (fun c26 => ?_)
  · skip
    have hp12 : ¬ past = 12 := fun h9 => c26 (by rw [h9])
    exact tail past fut tf lf cw (by unfold aPast; rw [if_neg hp12]) (by omega) (by omega) (zOld_same hp12 m5) m1 m3 m4 (fun j _ => rfl)
  · skip
    have hp12 : past = 12 := (nI_eq (by omega) (by omega)).mp c26
    subst hp12
    have hf0 : fut = 0 := by omega
    subst hf0
    refine z_iconst (v := nI 0) C dX4_act_9 (by decide) ?_
    refine z_istore_n (lv' := [(1, .int (nI 0)), (0, .ref (ad (37)))]) C dX4_act_10 rfl (by decide) rfl ?_
    refine z_lv (lv' := [(1, .int (nI 0)), (0, .ref (ad (37)))]) [0, 1] rfl ?_
    have loop2 : ∀ (mm i : Nat) (t8 : Nat → Int32) (cwl : Nat → va_E), 12 = i + mm → (∀ k, k < 2880 → t8 k = tf (k + 240)) → cwl 37 = .inr (4, [.int (th), .ref (ad (38)), .ref (ad (39)), .int (nI (12)), .int (nI (0)), .ref (ad (40)), .int (nI (dr.length)), .ref (ad (41)), .int (nI (pat.length)), .ref (ad (42)), .int (nI (ws.length)), .ref (ad (43)), .ref (ad (44))]) → cwl 38 = .inl (cI, 3120, .inl (t8)) → (∃ l9, cwl 39 = .inl (cI, 13, .inl (l9)) ∧ (∀ t, t < i → l9 t = lf (t + 1)) ∧ (∀ t, i ≤ t → l9 t = lf t)) → (∀ j, (j ≠ 37 ∧ j ≠ 38 ∧ j ≠ 39) → cwl j = cw j) → zG p l e (headSpec wsX4_act ({ frames := 0, cells := 0, slots := 0, locals := 0 } : Room)).room s m args below meth c (MQ below (zQi D vwCl B N ad (fun (v : Int32) (cw' : Nat → va_E) => v = nI dr.length ∧ zRM cI ad cw' (aPast 12) 0 (aHs 12 hs dr) pat ws th (nI dr.length) ∧ ∀ j, (j ≠ 37 ∧ j ≠ 38 ∧ j ≠ 39) → cw' j = cw j)) args s 0 0 (zA B)) D vwCl B 2 N ad cwl 0 0 [(1, .int (nI i)), (0, .ref (ad (37)))] 42 [] := by
      intro mm
      induction mm with
      | zero =>
        intro i t8 cwl hi ht8 q1 q2 q3 hfr2
        obtain ⟨l9, q4, q5, q6⟩ := id q3
        refine z_iload_n C dX4_act_42 0 rfl ?_
        refine z_bipush (v := nI 12) C dX4_act_43 (by decide) ?_
        refine z_icmp_ge (tgt := 68) C dX4_act_45 (by decide) (fun c27 => ?_) (fun c27 => ?_)
        · skip
          refine z_aload_n C dX4_act_68 1 rfl ?_
          refine z_bipush (v := nI 11) C dX4_act_69 (by decide) ?_
          obtain ⟨cw28, ecw28⟩ : ∃ z : Nat → va_E, z = va_up (cwl) (37) (.inr (4, [.int (th), .ref (ad (38)), .ref (ad (39)), .int (nI 11), .int (nI (0)), .ref (ad (40)), .int (nI (dr.length)), .ref (ad (41)), .int (nI (pat.length)), .ref (ad (42)), .int (nI (ws.length)), .ref (ad (43)), .ref (ad (44))])) := ⟨_, rfl⟩
          refine z_put (Cn := RX4) (T := TX4) (NF := 13) (ci := 4) (ty := .int) (v := .int (nI 11)) C qX4_act_0 tyX4_ok nmX4 rfl 3 (by decide) (C.2.2.2.2.1 _ qX4_act_1) (fun _ h9 => h9) rfl (by decide +kernel) dX4_act_71 (37) (by omega) q1 rfl rfl (Nat.le_of_ble_eq_true rfl) ?_
          refine z_cw ecw28.symm ?_
          have hw_29 : cw28 (37) = .inr (4, [.int (th), .ref (ad (38)), .ref (ad (39)), .int (nI 11), .int (nI (0)), .ref (ad (40)), .int (nI (dr.length)), .ref (ad (41)), .int (nI (pat.length)), .ref (ad (42)), .int (nI (ws.length)), .ref (ad (43)), .ref (ad (44))]) := by rw [ecw28, va_up_self]
          have hw_30 : cw28 (38) = .inl (cI, 3120, .inl (t8)) := by rw [ecw28, va_up_ne _ _ (by decide)]; exact q2
          have hw_31 : cw28 (39) = .inl (cI, 13, .inl (l9)) := by rw [ecw28, va_up_ne _ _ (by decide)]; exact q4
          refine z_lv (lv' := [(0, .ref (ad (37)))]) [1] rfl ?_
          exact tail 11 0 t8 l9 _ (by decide) (by omega) (by omega) (zOld_shift (fun j hj => m5 j (by omega)) (fun t ht => q5 t (by omega)) ht8) hw_29 hw_30 hw_31 (fun j hj => ((fun j hj => by rw [ecw28, va_up_ne _ _ (by omega)]) : ∀ j, (j ≠ 37 ∧ j ≠ 38 ∧ j ≠ 39) → _ = cwl j) j hj |>.trans (hfr2 j hj))
        · skip
          exact absurd (nI_le (by omega) (by omega)) c27
      | succ mm ih =>
        intro i t8 cwl hi ht8 q1 q2 q3 hfr2
        obtain ⟨l9, q4, q5, q6⟩ := id q3
        refine z_iload_n C dX4_act_42 0 rfl ?_
        refine z_bipush (v := nI 12) C dX4_act_43 (by decide) ?_
        refine z_icmp_ge (tgt := 68) C dX4_act_45 (by decide) (fun c32 => ?_) (fun c32 => ?_)
        · skip
          exact absurd ((nI_leI (by omega) (by omega)).mp c32) (by omega)
        · skip
          refine z_aload_n C dX4_act_48 1 rfl ?_
          refine z_get (Cn := RX4) (T := TX4) (NF := 13) (ci := 4) (v := .ref (ad (39))) C qX4_act_0 rfl 2 (by decide) (C.2.2.2.2.1 _ qX4_act_3) (fun _ h9 => h9) dX4_act_49 (37) (by omega) q1 rfl ?_
          refine z_iload_n C dX4_act_52 0 rfl ?_
          refine z_aload_n C dX4_act_53 1 rfl ?_
          refine z_get (Cn := RX4) (T := TX4) (NF := 13) (ci := 4) (v := .ref (ad (39))) C qX4_act_0 rfl 2 (by decide) (C.2.2.2.2.1 _ qX4_act_3) (fun _ h9 => h9) dX4_act_54 (37) (by omega) q1 rfl ?_
          refine z_iload_n C dX4_act_57 0 rfl ?_
          refine z_iconst (v := nI 1) C dX4_act_58 (by decide) ?_
          refine z_iadd C dX4_act_59 ?_
          refine z_top (y := nI (i + 1)) (nI_1 i) ?_
          refine z_iald C 0 rfl dX4_act_60 (39) (by omega) q4 (i + 1) (rfl) (by omega) (by decide) ?_
          refine z_top (y := lf (i + 1)) (q6 _ (by omega)) ?_
          obtain ⟨cw33, ecw33⟩ : ∃ z : Nat → va_E, z = va_up (cwl) (39) (.inl (cI, 13, .inl (upd (l9) (i) ((lf (i + 1)))))) := ⟨_, rfl⟩
          refine z_iast C 0 rfl dX4_act_61 (39) (by omega) q4 (i) (rfl) (by omega) (by decide) ?_
          refine z_cw ecw33.symm ?_
          have hw_34 : cw33 (37) = .inr (4, [.int (th), .ref (ad (38)), .ref (ad (39)), .int (nI (12)), .int (nI (0)), .ref (ad (40)), .int (nI (dr.length)), .ref (ad (41)), .int (nI (pat.length)), .ref (ad (42)), .int (nI (ws.length)), .ref (ad (43)), .ref (ad (44))]) := by rw [ecw33, va_up_ne _ _ (by decide)]; exact q1
          have hw_35 : cw33 (38) = .inl (cI, 3120, .inl (t8)) := by rw [ecw33, va_up_ne _ _ (by decide)]; exact q2
          have hw_36 : cw33 (39) = .inl (cI, 13, .inl (upd (l9) (i) ((lf (i + 1))))) := by rw [ecw33, va_up_self]
          refine z_iinc (x := nI (i + 1)) (lv' := [(1, .int (nI (i + 1))), (0, .ref (ad (37)))]) C dX4_act_62 0 rfl (nI_1 i) (by decide) rfl ?_
          refine z_goto (tgt := 42) C dX4_act_65 (by decide) ?_
          refine z_lv (lv' := [(1, .int (nI (i + 1))), (0, .ref (ad (37)))]) [0, 1] rfl ?_
          exact ih (i + 1) t8 _ (by omega) ht8 hw_34 hw_35 ⟨_, hw_36, fun t ht => by by_cases h9 : t = i; rw [h9]; exact pk_us; rw [pk_un h9]; exact q5 t (by omega), fun t ht => (pk_un (by omega)).trans (q6 t (by omega))⟩ (fun j hj => ((fun j hj => by rw [ecw33, va_up_ne _ _ (by omega)]) : ∀ j, (j ≠ 37 ∧ j ≠ 38 ∧ j ≠ 39) → _ = cwl j) j hj |>.trans (hfr2 j hj))
    suffices loop1 : ∀ (mm i : Nat) (cwl : Nat → va_E), 2880 = i + mm → cwl 37 = .inr (4, [.int (th), .ref (ad (38)), .ref (ad (39)), .int (nI (12)), .int (nI (0)), .ref (ad (40)), .int (nI (dr.length)), .ref (ad (41)), .int (nI (pat.length)), .ref (ad (42)), .int (nI (ws.length)), .ref (ad (43)), .ref (ad (44))]) → (∃ t9, cwl 38 = .inl (cI, 3120, .inl (t9)) ∧ (∀ k, k < i → t9 k = tf (k + 240)) ∧ (∀ k, i ≤ k → t9 k = tf k)) → cwl 39 = .inl (cI, 13, .inl (lf)) → (∀ j, (j ≠ 37 ∧ j ≠ 38 ∧ j ≠ 39) → cwl j = cw j) → zG p l e (headSpec wsX4_act ({ frames := 0, cells := 0, slots := 0, locals := 0 } : Room)).room s m args below meth c (MQ below (zQi D vwCl B N ad (fun (v : Int32) (cw' : Nat → va_E) => v = nI dr.length ∧ zRM cI ad cw' (aPast 12) 0 (aHs 12 hs dr) pat ws th (nI dr.length) ∧ ∀ j, (j ≠ 37 ∧ j ≠ 38 ∧ j ≠ 39) → cw' j = cw j)) args s 0 0 (zA B)) D vwCl B 2 N ad cwl 0 0 [(1, .int (nI i)), (0, .ref (ad (37)))] 11 [] from loop1 2880 0 cw (by omega) m1 ⟨tf, m3, fun k hk => absurd hk (by omega), fun k _ => rfl⟩ m4 (fun j _ => rfl)
    intro mm
    induction mm with
    | zero =>
      intro i cwl hi q1 q2 q3 hfr2
      obtain ⟨t9, q4, q5, q6⟩ := id q2
      refine z_iload_n C dX4_act_11 0 rfl ?_
      refine z_sipush (v := nI 2880) C dX4_act_12 (by decide) ?_
      refine z_icmp_ge (tgt := 40) C dX4_act_15 (by decide) (fun c37 => ?_) (fun c37 => ?_)
      · skip
        refine z_iconst (v := nI 0) C dX4_act_40 (by decide) ?_
        refine z_istore_n (lv' := [(1, .int (nI 0)), (0, .ref (ad (37)))]) C dX4_act_41 rfl (by decide) rfl ?_
        refine z_lv (lv' := [(1, .int (nI 0)), (0, .ref (ad (37)))]) [0, 1] rfl ?_
        exact loop2 12 0 t9 _ (by omega) (fun k hk => q5 k (by omega)) q1 q4 ⟨lf, q3, fun t ht => absurd ht (by omega), fun t _ => rfl⟩ hfr2
      · skip
        exact absurd (nI_le (by omega) (by omega)) c37
    | succ mm ih =>
      intro i cwl hi q1 q2 q3 hfr2
      obtain ⟨t9, q4, q5, q6⟩ := id q2
      refine z_iload_n C dX4_act_11 0 rfl ?_
      refine z_sipush (v := nI 2880) C dX4_act_12 (by decide) ?_
      refine z_icmp_ge (tgt := 40) C dX4_act_15 (by decide) (fun c38 => ?_) (fun c38 => ?_)
      · skip
        exact absurd ((nI_leI (by omega) (by omega)).mp c38) (by omega)
      · skip
        refine z_aload_n C dX4_act_18 1 rfl ?_
        refine z_get (Cn := RX4) (T := TX4) (NF := 13) (ci := 4) (v := .ref (ad (38))) C qX4_act_0 rfl 1 (by decide) (C.2.2.2.2.1 _ qX4_act_5) (fun _ h9 => h9) dX4_act_19 (37) (by omega) q1 rfl ?_
        refine z_iload_n C dX4_act_22 0 rfl ?_
        refine z_aload_n C dX4_act_23 1 rfl ?_
        refine z_get (Cn := RX4) (T := TX4) (NF := 13) (ci := 4) (v := .ref (ad (38))) C qX4_act_0 rfl 1 (by decide) (C.2.2.2.2.1 _ qX4_act_5) (fun _ h9 => h9) dX4_act_24 (37) (by omega) q1 rfl ?_
        refine z_iload_n C dX4_act_27 0 rfl ?_
        refine z_sipush (v := nI 240) C dX4_act_28 (by decide) ?_
        refine z_iadd C dX4_act_31 ?_
        refine z_top (y := nI (i + 240)) (nI_add _ _) ?_
        refine z_iald C 0 rfl dX4_act_32 (38) (by omega) q4 (i + 240) (rfl) (by omega) (by decide) ?_
        refine z_top (y := tf (i + 240)) (q6 _ (by omega)) ?_
        obtain ⟨cw39, ecw39⟩ : ∃ z : Nat → va_E, z = va_up (cwl) (38) (.inl (cI, 3120, .inl (upd (t9) (i) ((tf (i + 240)))))) := ⟨_, rfl⟩
        refine z_iast C 0 rfl dX4_act_33 (38) (by omega) q4 (i) (rfl) (by omega) (by decide) ?_
        refine z_cw ecw39.symm ?_
        have hw_40 : cw39 (37) = .inr (4, [.int (th), .ref (ad (38)), .ref (ad (39)), .int (nI (12)), .int (nI (0)), .ref (ad (40)), .int (nI (dr.length)), .ref (ad (41)), .int (nI (pat.length)), .ref (ad (42)), .int (nI (ws.length)), .ref (ad (43)), .ref (ad (44))]) := by rw [ecw39, va_up_ne _ _ (by decide)]; exact q1
        have hw_41 : cw39 (38) = .inl (cI, 3120, .inl (upd (t9) (i) ((tf (i + 240))))) := by rw [ecw39, va_up_self]
        have hw_42 : cw39 (39) = .inl (cI, 13, .inl (lf)) := by rw [ecw39, va_up_ne _ _ (by decide)]; exact q3
        refine z_iinc (x := nI (i + 1)) (lv' := [(1, .int (nI (i + 1))), (0, .ref (ad (37)))]) C dX4_act_34 0 rfl (nI_1 i) (by decide) rfl ?_
        refine z_goto (tgt := 11) C dX4_act_37 (by decide) ?_
        refine z_lv (lv' := [(1, .int (nI (i + 1))), (0, .ref (ad (37)))]) [0, 1] rfl ?_
        exact ih (i + 1) _ (by omega) hw_40 ⟨_, hw_41, fun k hk => by by_cases h9 : k = i; rw [h9]; exact pk_us; rw [pk_un h9]; exact q5 k (by omega), fun k hk => (pk_un (by omega)).trans (q6 k (by omega))⟩ hw_42 (fun j hj => ((fun j hj => by rw [ecw39, va_up_ne _ _ (by omega)]) : ∀ j, (j ≠ 37 ∧ j ≠ 38 ∧ j ≠ 39) → _ = cwl j) j hj |>.trans (hfr2 j hj))
end
section
theorem zRM_dr {cI : ClassId} {ad : Nat → Nat} {cw cw' : Nat → va_E} {past fut : Nat} {hs : Nat → List Int32} {pat ws : List Int32} {th dn th' dn' : Int32} (h : zRM cI ad cw past fut hs pat ws th dn) (h1 : cw' 37 = .inr (4, [.int (th'), .ref (ad (38)), .ref (ad (39)), .int (nI (past)), .int (nI (fut)), .ref (ad (40)), .int (dn'), .ref (ad (41)), .int (nI (pat.length)), .ref (ad (42)), .int (nI (ws.length)), .ref (ad (43)), .ref (ad (44))])) (h2 : ∃ df, cw' 40 = .inl (cI, 240, .inl (df))) (hk : ∀ j, (j ≠ 37 ∧ j ≠ 40) → cw' j = cw j) : zRM cI ad cw' past fut hs pat ws th' dn' := by
  obtain ⟨m1, ⟨m2, tf, lf, m3, m4, m5⟩, ⟨df, m6⟩, ⟨m7, pf, m8, m9⟩, ⟨m10, wf, m11, m12⟩, ⟨bf, m13⟩, zf, m14⟩ := h
  exact ⟨h1, ⟨m2, tf, lf, (hk _ (by omega)).trans m3, (hk _ (by omega)).trans m4, m5⟩, h2, ⟨m7, pf, (hk _ (by omega)).trans m8, m9⟩, ⟨m10, wf, (hk _ (by omega)).trans m11, m12⟩, ⟨bf, (hk _ (by omega)).trans m13⟩, zf, (hk _ (by omega)).trans m14⟩
theorem zRM_obj {cI : ClassId} {ad : Nat → Nat} {cw cw' : Nat → va_E} {past fut : Nat} {hs : Nat → List Int32} {pat ws : List Int32} {th dn th' dn' : Int32} (h : zRM cI ad cw past fut hs pat ws th dn) (h1 : cw' 37 = .inr (4, [.int (th'), .ref (ad (38)), .ref (ad (39)), .int (nI (past)), .int (nI (fut)), .ref (ad (40)), .int (dn'), .ref (ad (41)), .int (nI (pat.length)), .ref (ad (42)), .int (nI (ws.length)), .ref (ad (43)), .ref (ad (44))])) (hk : ∀ j, (j ≠ 37) → cw' j = cw j) : zRM cI ad cw' past fut hs pat ws th' dn' := by
  obtain ⟨df, m6⟩ := h.2.2.1
  exact zRM_dr h h1 ⟨df, (hk 40 (by omega)).trans m6⟩ (fun j hj => hk j hj.1)
theorem qX4_insert_0 : Cond.constantLong RX4 56 (255) ∈ wsX4_insert := by decide +kernel
theorem qX4_insert_1 : ∀ w ∈ wsX40, w ∈ wsX4_insert := by decide +kernel
theorem qX4_insert_2 : Cond.fieldLink RX4 31 "PieceTextModel" "thrown" "I" ∈ wsX4_insert := by decide +kernel
theorem qX4_insert_3 : Cond.fieldLink RX4 38 "PieceTextModel" "drafted" "I" ∈ wsX4_insert := by decide +kernel
set_option maxHeartbeats 4000000 in
set_option maxRecDepth 100000 in
theorem c_M_insert (l : Launch) (D : va_G) (cI cR cL : ClassId) (B N : Nat) (ad : Nat → Nat) (cw : Nat → va_E) (hN : 45 < N) {past fut : Nat} {hs : Nat → List Int32} {pat ws : List Int32} {th dn : Int32} (hM : zRM cI ad cw past fut hs pat ws th dn) (x ch : Int32) : Met l yX4_insert wsX4_insert ({ frames := 2, cells := 0, slots := 0, locals := 44 } : Room) (va_Pc [.ref (ad (37)), .int (x), .int (ch)] (zI D vwCl (zTy cI cR cL) B N ad cw)) (zQi D vwCl B N ad (fun (v : Int32) (cw' : Nat → va_E) => ((zRM cI ad cw' past fut hs pat ws (nI 1) dn ∧ ¬ (∃ q, q ≤ (hs past).length ∧ x = nI q)) ∨ (zRM cI ad cw' past fut hs pat ws (nI 2) dn ∧ (∃ q, q ≤ (hs past).length ∧ x = nI q) ∧ ¬ (∃ q, q < 256 ∧ ch = nI q)) ∨ (zRM cI ad cw' past fut hs pat ws (nI 3) dn ∧ (∃ q, q ≤ (hs past).length ∧ x = nI q) ∧ (∃ q, q < 256 ∧ ch = nI q) ∧ ¬ ((hs past).length + 1 ≤ 240)) ∨ (∃ q, q ≤ (hs past).length ∧ x = nI q ∧ (∃ q, q < 256 ∧ ch = nI q) ∧ (hs past).length + 1 ≤ 240 ∧ v = nI (sIns (hs past) q ch).length ∧ zRM cI ad cw' (aPast past) 0 (aHs past hs (sIns (hs past) q ch)) pat ws (nI 0) (nI (sIns (hs past) q ch).length))) ∧ ∀ j, (j < 37 ∨ 45 ≤ j) → cw' j = cw j)) 0 0 (zA B) := by
  obtain ⟨m1, ⟨m2, tf, lf, m3, m4, m5⟩, ⟨df, m6⟩, ⟨m7, pf, m8, m9⟩, ⟨m10, wf, m11, m12⟩, ⟨bf, m13⟩, zf, m14⟩ := id hM
  obtain ⟨k1, k2, k3⟩ := m5 past (by omega)
  refine z_ofW (cc := cX4_insert) (maxL := 3) (ret := (some .int)) (by decide) rfl (Nat.le_of_ble_eq_true rfl) ?_
  intro p e s m args below meth c C hr hnm
  refine z_lv (lv' := [(0, .ref (ad (37))), (1, .int (x)), (2, .int (ch))]) [0, 1, 2] rfl ?_
  refine z_aload_n C dX4_insert_0 0 rfl ?_
  refine z_iload_n C dX4_insert_1 1 rfl ?_
  refine z_i2l C dX4_insert_2 rfl ?_
  refine z_lconst (v := 0) C dX4_insert_3 rfl ?_
  refine z_aload_n C dX4_insert_4 0 rfl ?_
  refine z_calli (z_runV (As := []) (rest := [.long (0), .long (x).toInt64, .ref (ad (37))]) C (c_M_length l D cI cR cL B N ad cw hN m1 m4 (by omega) (k2)) (cwV 0 C.2.2.2.2.1 gX4_insert_X4_length rfl rfl rfl (by decide +kernel) ⟨Nat.le_of_ble_eq_true rfl, Nat.le_of_ble_eq_true rfl⟩) (by omega) m1 rfl rfl rfl rfl (Nat.le_of_ble_eq_true rfl) dX4_insert_5 ⟨Nat.le_of_ble_eq_true rfl, Nat.le_of_ble_eq_true rfl⟩) (fun r1 cw2 hp3 => ?_)
  refine z_cw hp3.2 ?_
  refine z_top hp3.1 ?_
  refine z_i2l C dX4_insert_8 rfl ?_
  refine z_calli (z_runS (As := [.long (x.toInt64), .long (0), .long ((nI (hs past).length).toInt64)]) (rest := [.ref (ad (37))]) C (c_M_isIn l D cI cR cL B N ad cw (x.toInt64) (0) ((nI (hs past).length).toInt64)) (va_cwS 3 C.2.2.2.2.1 gX4_insert_X4_isIn rfl rfl rfl (by decide +kernel) ⟨Nat.le_of_ble_eq_true rfl, Nat.le_of_ble_eq_true rfl⟩) rfl rfl (Nat.le_of_ble_eq_true rfl) dX4_insert_9 ⟨Nat.le_of_ble_eq_true rfl, Nat.le_of_ble_eq_true rfl⟩) (fun r4 cw5 hp6 => ?_)
  refine z_cw hp6.2 ?_
  refine z_if_ne (tgt := 19) C dX4_insert_12 (by decide) (fun c7 => ?_) (fun c7 => ?_)
  · skip
    have hin := (z_in0 (x := x) (n := (hs past).length) (by omega)).mp (by rcases hp6.1 with h9 | h9; exact h9.2; exact absurd h9.1 c7)
    refine z_iload_n C dX4_insert_19 2 rfl ?_
    refine z_i2l C dX4_insert_20 rfl ?_
    refine z_lconst (v := 0) C dX4_insert_21 rfl ?_
    refine z_ldc2 (v := 255) C (C.2.2.2.2.1 _ qX4_insert_0) dX4_insert_22 ?_
    refine z_calli (z_runS (As := [.long (ch.toInt64), .long (0), .long (255)]) (rest := [.ref (ad (37))]) C (c_M_isIn l D cI cR cL B N ad cw (ch.toInt64) (0) (255)) (va_cwS 3 C.2.2.2.2.1 gX4_insert_X4_isIn rfl rfl rfl (by decide +kernel) ⟨Nat.le_of_ble_eq_true rfl, Nat.le_of_ble_eq_true rfl⟩) rfl rfl (Nat.le_of_ble_eq_true rfl) dX4_insert_25 ⟨Nat.le_of_ble_eq_true rfl, Nat.le_of_ble_eq_true rfl⟩) (fun r8 cw9 hp10 => ?_)
    refine z_cw hp10.2 ?_
    refine z_if_ne (tgt := 35) C dX4_insert_28 (by decide) (fun c11 => ?_) (fun c11 => ?_)
    · skip
      have hch := (z_in255 (x := ch)).mp (by rcases hp10.1 with h9 | h9; exact h9.2; exact absurd h9.1 c11)
      refine z_aload_n C dX4_insert_35 0 rfl ?_
      refine z_calli (z_runV (As := []) (rest := [.ref (ad (37))]) C (c_M_length l D cI cR cL B N ad cw hN m1 m4 (by omega) (k2)) (cwV 0 C.2.2.2.2.1 gX4_insert_X4_length rfl rfl rfl (by decide +kernel) ⟨Nat.le_of_ble_eq_true rfl, Nat.le_of_ble_eq_true rfl⟩) (by omega) m1 rfl rfl rfl rfl (Nat.le_of_ble_eq_true rfl) dX4_insert_36 ⟨Nat.le_of_ble_eq_true rfl, Nat.le_of_ble_eq_true rfl⟩) (fun r12 cw13 hp14 => ?_)
      refine z_cw hp14.2 ?_
      refine z_top hp14.1 ?_
      refine z_sipush (v := nI 240) C dX4_insert_39 (by decide) ?_
      refine z_icmp_ne (tgt := 49) C dX4_insert_42 (by decide) (fun c15 => ?_) (fun c15 => ?_)
      · skip
        have h240 : (hs past).length + 1 ≤ 240 := by have h9 : ¬ (hs past).length = 240 := fun h8 => c15 (by rw [h8]); omega
        refine z_iconst (v := nI 0) C dX4_insert_49 (by decide) ?_
        obtain ⟨cw16, ecw16⟩ : ∃ z : Nat → va_E, z = va_up (cw) (37) (.inr (4, [.int (nI 0), .ref (ad (38)), .ref (ad (39)), .int (nI (past)), .int (nI (fut)), .ref (ad (40)), .int (dn), .ref (ad (41)), .int (nI (pat.length)), .ref (ad (42)), .int (nI (ws.length)), .ref (ad (43)), .ref (ad (44))])) := ⟨_, rfl⟩
        refine z_put (Cn := RX4) (T := TX4) (NF := 13) (ci := 4) (ty := .int) (v := .int (nI 0)) C qX4_insert_1 tyX4_ok nmX4 rfl 0 (by decide) (C.2.2.2.2.1 _ qX4_insert_2) (fun _ h9 => h9) rfl (by decide +kernel) dX4_insert_50 (37) (by omega) m1 rfl rfl (Nat.le_of_ble_eq_true rfl) ?_
        refine z_cw ecw16.symm ?_
        have hw_17 : cw16 (37) = .inr (4, [.int (nI 0), .ref (ad (38)), .ref (ad (39)), .int (nI (past)), .int (nI (fut)), .ref (ad (40)), .int (dn), .ref (ad (41)), .int (nI (pat.length)), .ref (ad (42)), .int (nI (ws.length)), .ref (ad (43)), .ref (ad (44))]) := by rw [ecw16, va_up_self]
        have hw_18 : cw16 (38) = .inl (cI, 3120, .inl (tf)) := by rw [ecw16, va_up_ne _ _ (by decide)]; exact m3
        have hw_19 : cw16 (39) = .inl (cI, 13, .inl (lf)) := by rw [ecw16, va_up_ne _ _ (by decide)]; exact m4
        have hw_20 : cw16 (40) = .inl (cI, 240, .inl (df)) := by rw [ecw16, va_up_ne _ _ (by decide)]; exact m6
        refine z_aload_n C dX4_insert_53 0 rfl ?_
        refine z_get (Cn := RX4) (T := TX4) (NF := 13) (ci := 4) (v := .int (nI 0)) C qX4_insert_1 rfl 0 (by decide) (C.2.2.2.2.1 _ qX4_insert_2) (fun _ h9 => h9) dX4_insert_54 (37) (by omega) hw_17 rfl ?_
        refine z_if_le (tgt := 62) C dX4_insert_57 (by decide) (fun c21 => ?_) (fun c21 => absurd (show nI 0 ≤ 0 by decide) c21)
        obtain ⟨q, hq, rfl⟩ := hin
        obtain ⟨u, hu, rfl⟩ := hch
        refine z_aload_n C dX4_insert_62 0 rfl ?_
        refine z_iconst (v := nI 0) C dX4_insert_63 (by decide) ?_
        obtain ⟨cw22, ecw22⟩ : ∃ z : Nat → va_E, z = va_up (cw16) (37) (.inr (4, [.int (nI 0), .ref (ad (38)), .ref (ad (39)), .int (nI (past)), .int (nI (fut)), .ref (ad (40)), .int (nI 0), .ref (ad (41)), .int (nI (pat.length)), .ref (ad (42)), .int (nI (ws.length)), .ref (ad (43)), .ref (ad (44))])) := ⟨_, rfl⟩
        refine z_put (Cn := RX4) (T := TX4) (NF := 13) (ci := 4) (ty := .int) (v := .int (nI 0)) C qX4_insert_1 tyX4_ok nmX4 rfl 6 (by decide) (C.2.2.2.2.1 _ qX4_insert_3) (fun _ h9 => h9) rfl (by decide +kernel) dX4_insert_64 (37) (by omega) hw_17 rfl rfl (Nat.le_of_ble_eq_true rfl) ?_
        refine z_cw ecw22.symm ?_
        have hw_23 : cw22 (37) = .inr (4, [.int (nI 0), .ref (ad (38)), .ref (ad (39)), .int (nI (past)), .int (nI (fut)), .ref (ad (40)), .int (nI 0), .ref (ad (41)), .int (nI (pat.length)), .ref (ad (42)), .int (nI (ws.length)), .ref (ad (43)), .ref (ad (44))]) := by rw [ecw22, va_up_self]
        have hw_24 : cw22 (38) = .inl (cI, 3120, .inl (tf)) := by rw [ecw22, va_up_ne _ _ (by decide)]; exact hw_18
        have hw_25 : cw22 (39) = .inl (cI, 13, .inl (lf)) := by rw [ecw22, va_up_ne _ _ (by decide)]; exact hw_19
        have hw_26 : cw22 (40) = .inl (cI, 240, .inl (df)) := by rw [ecw22, va_up_ne _ _ (by decide)]; exact hw_20
        refine z_aload_n C dX4_insert_67 0 rfl ?_
        refine z_iconst (v := nI 0) C dX4_insert_68 (by decide) ?_
        refine z_iload_n C dX4_insert_69 1 rfl ?_
        refine z_callv (z_runV (As := [.int (nI (0)), .int (nI (q))]) (rest := []) C (c_M_draftFrom l D cI cR cL B N ad cw22 hN (dr := ([] : List Int32)) hw_23 hw_24 hw_26 (zIs_nil _) k3 (by omega) (b := 0) (k := q) (Nat.zero_le _) (hq) k1 (by simp only [List.length_nil]; omega)) (cwV 2 C.2.2.2.2.1 gX4_insert_X4_draftFrom rfl rfl rfl (by decide +kernel) ⟨Nat.le_of_ble_eq_true rfl, Nat.le_of_ble_eq_true rfl⟩) (by omega) hw_23 rfl rfl rfl rfl (Nat.le_of_ble_eq_true rfl) dX4_insert_70 ⟨Nat.le_of_ble_eq_true rfl, Nat.le_of_ble_eq_true rfl⟩) (fun cw27 hp28 => ?_)
        obtain ⟨q29a, ⟨df30, q29b, q29c⟩, q29d⟩ := hp28
        have hw_31 : cw27 (37) = .inr (4, [.int (nI 0), .ref (ad (38)), .ref (ad (39)), .int (nI (past)), .int (nI (fut)), .ref (ad (40)), .int (nI (((([] : List Int32) ++ zPart (hs past) 0 q)).length)), .ref (ad (41)), .int (nI (pat.length)), .ref (ad (42)), .int (nI (ws.length)), .ref (ad (43)), .ref (ad (44))]) := q29a
        have hw_32 : cw27 (38) = .inl (cI, 3120, .inl (tf)) := by rw [q29d (38) (by omega)]; exact hw_24
        have hw_33 : cw27 (39) = .inl (cI, 13, .inl (lf)) := by rw [q29d (39) (by omega)]; exact hw_25
        have hw_34 : cw27 (40) = .inl (cI, 240, .inl (df30)) := q29b
        refine z_aload_n C dX4_insert_73 0 rfl ?_
        refine z_iload_n C dX4_insert_74 2 rfl ?_
        have hl1 : (([] : List Int32) ++ zPart (hs past) 0 q).length = q := by rw [List.nil_append, zPart_len hq]; rfl
        refine z_callv (z_runV (As := [.int (nI u)]) (rest := []) C (c_M_draftOne l D cI cR cL B N ad cw27 hN (n := ((([] : List Int32) ++ zPart (hs past) 0 q)).length) hw_31 hw_34 (by omega) (nI u)) (cwV 1 C.2.2.2.2.1 gX4_insert_X4_draftOne rfl rfl rfl (by decide +kernel) ⟨Nat.le_of_ble_eq_true rfl, Nat.le_of_ble_eq_true rfl⟩) (by omega) hw_31 rfl rfl rfl rfl (Nat.le_of_ble_eq_true rfl) dX4_insert_75 ⟨Nat.le_of_ble_eq_true rfl, Nat.le_of_ble_eq_true rfl⟩) (fun cw35 hp36 => ?_)
        have hw_37 : cw35 (37) = .inr (4, [.int (nI 0), .ref (ad (38)), .ref (ad (39)), .int (nI (past)), .int (nI (fut)), .ref (ad (40)), .int (nI (((([] : List Int32) ++ zPart (hs past) 0 q)).length + 1)), .ref (ad (41)), .int (nI (pat.length)), .ref (ad (42)), .int (nI (ws.length)), .ref (ad (43)), .ref (ad (44))]) := by rw [hp36, va_up_self]
        have hw_38 : cw35 (38) = .inl (cI, 3120, .inl (tf)) := by rw [hp36, va_up_ne _ _ (by decide), va_up_ne _ _ (by decide)]; exact hw_32
        have hw_39 : cw35 (39) = .inl (cI, 13, .inl (lf)) := by rw [hp36, va_up_ne _ _ (by decide), va_up_ne _ _ (by decide)]; exact hw_33
        have hw_40 : cw35 (40) = .inl (cI, 240, .inl (upd (df30) (((([] : List Int32) ++ zPart (hs past) 0 q)).length) (nI u))) := by rw [hp36, va_up_ne _ _ (by decide), va_up_self]
        have hv_41 : cw35 37 = .inr (4, [.int (nI 0), .ref (ad (38)), .ref (ad (39)), .int (nI (past)), .int (nI (fut)), .ref (ad (40)), .int (nI (((([] : List Int32) ++ zPart (hs past) 0 q) ++ [nI u]).length)), .ref (ad (41)), .int (nI (pat.length)), .ref (ad (42)), .int (nI (ws.length)), .ref (ad (43)), .ref (ad (44))]) := by rw [hw_37, len_snoc]
        have hz_42 := zIs_add q29c (nI u)
        refine z_aload_n C dX4_insert_78 0 rfl ?_
        refine z_iload_n C dX4_insert_79 1 rfl ?_
        refine z_aload_n C dX4_insert_80 0 rfl ?_
        refine z_calli (z_runV (As := []) (rest := [.int (nI q), .ref (ad (37))]) C (c_M_length l D cI cR cL B N ad cw35 hN hv_41 hw_39 (by omega) (k2)) (cwV 0 C.2.2.2.2.1 gX4_insert_X4_length rfl rfl rfl (by decide +kernel) ⟨Nat.le_of_ble_eq_true rfl, Nat.le_of_ble_eq_true rfl⟩) (by omega) hv_41 rfl rfl rfl rfl (Nat.le_of_ble_eq_true rfl) dX4_insert_81 ⟨Nat.le_of_ble_eq_true rfl, Nat.le_of_ble_eq_true rfl⟩) (fun r43 cw44 hp45 => ?_)
        refine z_cw hp45.2 ?_
        refine z_top hp45.1 ?_
        have hl2 : (([] : List Int32) ++ zPart (hs past) 0 q ++ [nI u]).length = q + 1 := by rw [len_snoc, hl1]
        refine z_callv (z_runV (As := [.int (nI (q)), .int (nI ((hs past).length))]) (rest := []) C (c_M_draftFrom l D cI cR cL B N ad cw35 hN (dr := ((([] : List Int32) ++ zPart (hs past) 0 q) ++ [nI u])) hv_41 hw_38 hw_40 hz_42 k3 (by omega) (b := q) (k := (hs past).length) (hq) (Nat.le_refl _) k1 (by rw [hl2]; omega)) (cwV 2 C.2.2.2.2.1 gX4_insert_X4_draftFrom rfl rfl rfl (by decide +kernel) ⟨Nat.le_of_ble_eq_true rfl, Nat.le_of_ble_eq_true rfl⟩) (by omega) hv_41 rfl rfl rfl rfl (Nat.le_of_ble_eq_true rfl) dX4_insert_84 ⟨Nat.le_of_ble_eq_true rfl, Nat.le_of_ble_eq_true rfl⟩) (fun cw46 hp47 => ?_)
        obtain ⟨q48a, ⟨df49, q48b, q48c⟩, q48d⟩ := hp47
        have hw_50 : cw46 (37) = .inr (4, [.int (nI 0), .ref (ad (38)), .ref (ad (39)), .int (nI (past)), .int (nI (fut)), .ref (ad (40)), .int (nI (((((([] : List Int32) ++ zPart (hs past) 0 q) ++ [nI u]) ++ zPart (hs past) q ((hs past).length))).length)), .ref (ad (41)), .int (nI (pat.length)), .ref (ad (42)), .int (nI (ws.length)), .ref (ad (43)), .ref (ad (44))]) := q48a
        have hw_51 : cw46 (38) = .inl (cI, 3120, .inl (tf)) := by rw [q48d (38) (by omega)]; exact hw_38
        have hw_52 : cw46 (39) = .inl (cI, 13, .inl (lf)) := by rw [q48d (39) (by omega)]; exact hw_39
        have hw_53 : cw46 (40) = .inl (cI, 240, .inl (df49)) := q48b
        refine z_aload_n C dX4_insert_87 0 rfl ?_
        have hM54 : zRM cI ad cw46 past fut hs pat ws (nI 0) (nI (((((([] : List Int32) ++ zPart (hs past) 0 q) ++ [nI u]) ++ zPart (hs past) q ((hs past).length))).length)) := zRM_dr hM hw_50 ⟨_, hw_53⟩ (fun j hj => by rw [q48d j (by omega)]; rw [hp36, va_up_ne _ _ (by omega), va_up_ne _ _ (by omega)]; rw [q29d j (by omega)]; rw [ecw22, va_up_ne _ _ (by omega)]; rw [ecw16, va_up_ne _ _ (by omega)])
        refine z_calli (z_runV (As := []) (rest := []) C (c_M_act l D cI cR cL B N ad cw46 hN hM54 hw_53 q48c (by show (sIns (hs past) q (nI u)).length ≤ 240; rw [sIns_len hq]; omega)) (cwV 0 C.2.2.2.2.1 gX4_insert_X4_act rfl rfl rfl (by decide +kernel) ⟨Nat.le_of_ble_eq_true rfl, Nat.le_of_ble_eq_true rfl⟩) (by omega) hw_50 rfl rfl rfl rfl (Nat.le_of_ble_eq_true rfl) dX4_insert_88 ⟨Nat.le_of_ble_eq_true rfl, Nat.le_of_ble_eq_true rfl⟩) (fun r55 cw56 hp57 => ?_)
        exact z_iret C hr dX4_insert_91 (⟨Or.inr (Or.inr (Or.inr ⟨q, hq, rfl, ⟨u, hu, rfl⟩, h240, hp57.1, hp57.2.1⟩)), fun j hj => (hp57.2.2 j (by omega)).trans (((fun j hj => by rw [q48d j (by omega)]; rw [hp36, va_up_ne _ _ (by omega), va_up_ne _ _ (by omega)]; rw [q29d j (by omega)]; rw [ecw22, va_up_ne _ _ (by omega)]; rw [ecw16, va_up_ne _ _ (by omega)]) : ∀ j, (j ≠ 37 ∧ j ≠ 40) → _ = cw j) j (by omega))⟩) (Nat.le_of_ble_eq_true rfl) (Nat.le_of_ble_eq_true rfl)
      · skip
        have h240 : (hs past).length = 240 := (nI_eq (by omega) (by omega)).mp c15
        refine z_iconst (v := nI 3) C dX4_insert_45 (by decide) ?_
        refine z_goto (tgt := 50) C dX4_insert_46 (by decide) ?_
        obtain ⟨cw58, ecw58⟩ : ∃ z : Nat → va_E, z = va_up (cw) (37) (.inr (4, [.int (nI 3), .ref (ad (38)), .ref (ad (39)), .int (nI (past)), .int (nI (fut)), .ref (ad (40)), .int (dn), .ref (ad (41)), .int (nI (pat.length)), .ref (ad (42)), .int (nI (ws.length)), .ref (ad (43)), .ref (ad (44))])) := ⟨_, rfl⟩
        refine z_put (Cn := RX4) (T := TX4) (NF := 13) (ci := 4) (ty := .int) (v := .int (nI 3)) C qX4_insert_1 tyX4_ok nmX4 rfl 0 (by decide) (C.2.2.2.2.1 _ qX4_insert_2) (fun _ h9 => h9) rfl (by decide +kernel) dX4_insert_50 (37) (by omega) m1 rfl rfl (Nat.le_of_ble_eq_true rfl) ?_
        refine z_cw ecw58.symm ?_
        have hw_59 : cw58 (37) = .inr (4, [.int (nI 3), .ref (ad (38)), .ref (ad (39)), .int (nI (past)), .int (nI (fut)), .ref (ad (40)), .int (dn), .ref (ad (41)), .int (nI (pat.length)), .ref (ad (42)), .int (nI (ws.length)), .ref (ad (43)), .ref (ad (44))]) := by rw [ecw58, va_up_self]
        have hw_60 : cw58 (38) = .inl (cI, 3120, .inl (tf)) := by rw [ecw58, va_up_ne _ _ (by decide)]; exact m3
        have hw_61 : cw58 (39) = .inl (cI, 13, .inl (lf)) := by rw [ecw58, va_up_ne _ _ (by decide)]; exact m4
        have hw_62 : cw58 (40) = .inl (cI, 240, .inl (df)) := by rw [ecw58, va_up_ne _ _ (by decide)]; exact m6
        refine z_aload_n C dX4_insert_53 0 rfl ?_
        refine z_get (Cn := RX4) (T := TX4) (NF := 13) (ci := 4) (v := .int (nI 3)) C qX4_insert_1 rfl 0 (by decide) (C.2.2.2.2.1 _ qX4_insert_2) (fun _ h9 => h9) dX4_insert_54 (37) (by omega) hw_59 rfl ?_
        refine z_if_le (tgt := 62) C dX4_insert_57 (by decide) (fun c63 => ?_) (fun c63 => ?_)
        · skip
          exact absurd c63 (by decide)
        · skip
          refine z_iconst (v := nI 0) C dX4_insert_60 (by decide) ?_
          exact z_iret C hr dX4_insert_61 (⟨Or.inr (Or.inr (Or.inl ⟨zRM_obj hM hw_59 (fun j hj => by rw [ecw58, va_up_ne _ _ (by omega)]), hin, hch, by omega⟩)), fun j hj => ((fun j hj => by rw [ecw58, va_up_ne _ _ (by omega)]) : ∀ j, (j ≠ 37) → _ = cw j) j (by omega)⟩) (Nat.le_of_ble_eq_true rfl) (Nat.le_of_ble_eq_true rfl)
    · skip
      have nhch : ¬ _ := fun h8 => (by rcases hp10.1 with h9 | h9; exact absurd (h9.1.symm.trans c11) (by decide); exact h9.2 ((z_in255 (x := ch)).mpr h8))
      refine z_iconst (v := nI 2) C dX4_insert_31 (by decide) ?_
      refine z_goto (tgt := 50) C dX4_insert_32 (by decide) ?_
      obtain ⟨cw64, ecw64⟩ : ∃ z : Nat → va_E, z = va_up (cw) (37) (.inr (4, [.int (nI 2), .ref (ad (38)), .ref (ad (39)), .int (nI (past)), .int (nI (fut)), .ref (ad (40)), .int (dn), .ref (ad (41)), .int (nI (pat.length)), .ref (ad (42)), .int (nI (ws.length)), .ref (ad (43)), .ref (ad (44))])) := ⟨_, rfl⟩
      refine z_put (Cn := RX4) (T := TX4) (NF := 13) (ci := 4) (ty := .int) (v := .int (nI 2)) C qX4_insert_1 tyX4_ok nmX4 rfl 0 (by decide) (C.2.2.2.2.1 _ qX4_insert_2) (fun _ h9 => h9) rfl (by decide +kernel) dX4_insert_50 (37) (by omega) m1 rfl rfl (Nat.le_of_ble_eq_true rfl) ?_
      refine z_cw ecw64.symm ?_
      have hw_65 : cw64 (37) = .inr (4, [.int (nI 2), .ref (ad (38)), .ref (ad (39)), .int (nI (past)), .int (nI (fut)), .ref (ad (40)), .int (dn), .ref (ad (41)), .int (nI (pat.length)), .ref (ad (42)), .int (nI (ws.length)), .ref (ad (43)), .ref (ad (44))]) := by rw [ecw64, va_up_self]
      have hw_66 : cw64 (38) = .inl (cI, 3120, .inl (tf)) := by rw [ecw64, va_up_ne _ _ (by decide)]; exact m3
      have hw_67 : cw64 (39) = .inl (cI, 13, .inl (lf)) := by rw [ecw64, va_up_ne _ _ (by decide)]; exact m4
      have hw_68 : cw64 (40) = .inl (cI, 240, .inl (df)) := by rw [ecw64, va_up_ne _ _ (by decide)]; exact m6
      refine z_aload_n C dX4_insert_53 0 rfl ?_
      refine z_get (Cn := RX4) (T := TX4) (NF := 13) (ci := 4) (v := .int (nI 2)) C qX4_insert_1 rfl 0 (by decide) (C.2.2.2.2.1 _ qX4_insert_2) (fun _ h9 => h9) dX4_insert_54 (37) (by omega) hw_65 rfl ?_
      refine z_if_le (tgt := 62) C dX4_insert_57 (by decide) (fun c69 => ?_) (fun c69 => ?_)
      · skip
        exact absurd c69 (by decide)
      · skip
        refine z_iconst (v := nI 0) C dX4_insert_60 (by decide) ?_
        exact z_iret C hr dX4_insert_61 (⟨Or.inr (Or.inl ⟨zRM_obj hM hw_65 (fun j hj => by rw [ecw64, va_up_ne _ _ (by omega)]), hin, nhch⟩), fun j hj => ((fun j hj => by rw [ecw64, va_up_ne _ _ (by omega)]) : ∀ j, (j ≠ 37) → _ = cw j) j (by omega)⟩) (Nat.le_of_ble_eq_true rfl) (Nat.le_of_ble_eq_true rfl)
  · skip
    have nhin : ¬ _ := fun h8 => (by rcases hp6.1 with h9 | h9; exact absurd (h9.1.symm.trans c7) (by decide); exact h9.2 ((z_in0 (x := x) (n := (hs past).length) (by omega)).mpr h8))
    refine z_iconst (v := nI 1) C dX4_insert_15 (by decide) ?_
    refine z_goto (tgt := 50) C dX4_insert_16 (by decide) ?_
    obtain ⟨cw70, ecw70⟩ : ∃ z : Nat → va_E, z = va_up (cw) (37) (.inr (4, [.int (nI 1), .ref (ad (38)), .ref (ad (39)), .int (nI (past)), .int (nI (fut)), .ref (ad (40)), .int (dn), .ref (ad (41)), .int (nI (pat.length)), .ref (ad (42)), .int (nI (ws.length)), .ref (ad (43)), .ref (ad (44))])) := ⟨_, rfl⟩
    refine z_put (Cn := RX4) (T := TX4) (NF := 13) (ci := 4) (ty := .int) (v := .int (nI 1)) C qX4_insert_1 tyX4_ok nmX4 rfl 0 (by decide) (C.2.2.2.2.1 _ qX4_insert_2) (fun _ h9 => h9) rfl (by decide +kernel) dX4_insert_50 (37) (by omega) m1 rfl rfl (Nat.le_of_ble_eq_true rfl) ?_
    refine z_cw ecw70.symm ?_
    have hw_71 : cw70 (37) = .inr (4, [.int (nI 1), .ref (ad (38)), .ref (ad (39)), .int (nI (past)), .int (nI (fut)), .ref (ad (40)), .int (dn), .ref (ad (41)), .int (nI (pat.length)), .ref (ad (42)), .int (nI (ws.length)), .ref (ad (43)), .ref (ad (44))]) := by rw [ecw70, va_up_self]
    have hw_72 : cw70 (38) = .inl (cI, 3120, .inl (tf)) := by rw [ecw70, va_up_ne _ _ (by decide)]; exact m3
    have hw_73 : cw70 (39) = .inl (cI, 13, .inl (lf)) := by rw [ecw70, va_up_ne _ _ (by decide)]; exact m4
    have hw_74 : cw70 (40) = .inl (cI, 240, .inl (df)) := by rw [ecw70, va_up_ne _ _ (by decide)]; exact m6
    refine z_aload_n C dX4_insert_53 0 rfl ?_
    refine z_get (Cn := RX4) (T := TX4) (NF := 13) (ci := 4) (v := .int (nI 1)) C qX4_insert_1 rfl 0 (by decide) (C.2.2.2.2.1 _ qX4_insert_2) (fun _ h9 => h9) dX4_insert_54 (37) (by omega) hw_71 rfl ?_
    refine z_if_le (tgt := 62) C dX4_insert_57 (by decide) (fun c75 => ?_) (fun c75 => ?_)
    · skip
      exact absurd c75 (by decide)
    · skip
      refine z_iconst (v := nI 0) C dX4_insert_60 (by decide) ?_
      exact z_iret C hr dX4_insert_61 (⟨Or.inl ⟨zRM_obj hM hw_71 (fun j hj => by rw [ecw70, va_up_ne _ _ (by omega)]), nhin⟩, fun j hj => ((fun j hj => by rw [ecw70, va_up_ne _ _ (by omega)]) : ∀ j, (j ≠ 37) → _ = cw j) j (by omega)⟩) (Nat.le_of_ble_eq_true rfl) (Nat.le_of_ble_eq_true rfl)
end
