section
-- ===== PART A: goes FIRST, ahead of the names: the tables' words, and 'selects' of the private methods out of them =====
/-- a private method of a class that the tables say can be made, by its rows of tables_1 -/
def lw_okq (q : MethodName × Nat) : Prop := (q.1.cls ≠ "java/lang/invoke/MethodHandle" ∧ q.1.cls ≠ "java/lang/invoke/VarHandle") ∧ Cond.instantiable q.1.cls q.2 ∈ tables_1 ∧ Cond.privateMethod q.1 ∈ tables_1 ∧ Cond.instanceMethod q.1 ∈ tables_1
theorem lw_p0 : lw_okq (⟨"CatalogueHarvester", "harvestOf", "(I)LCatalogueHarvester$Harvest;"⟩, 2) := ⟨⟨by decide +kernel, by decide +kernel⟩, List.mem_of_getElem? (i := 12) (by decide +kernel), List.mem_of_getElem? (i := 142) (by decide +kernel), List.mem_of_getElem? (i := 143) (by decide +kernel)⟩
theorem lw_p1 : lw_okq (⟨"java/lang/Throwable", "fillInStackTrace", "(I)Ljava/lang/Throwable;"⟩, 6) := ⟨⟨by decide +kernel, by decide +kernel⟩, List.mem_of_getElem? (i := 183) (by decide +kernel), List.mem_of_getElem? (i := 181) (by decide +kernel), List.mem_of_getElem? (i := 182) (by decide +kernel)⟩
theorem lw_p2 : lw_okq (⟨"CatalogueHarvester$Harvest", "nextOfList", "()I"⟩, 10) := ⟨⟨by decide +kernel, by decide +kernel⟩, List.mem_of_getElem? (i := 21) (by decide +kernel), List.mem_of_getElem? (i := 333) (by decide +kernel), List.mem_of_getElem? (i := 334) (by decide +kernel)⟩
theorem lw_p3 : lw_okq (⟨"CatalogueHarvester$Harvest", "takeOver", "(I)V"⟩, 10) := ⟨⟨by decide +kernel, by decide +kernel⟩, List.mem_of_getElem? (i := 21) (by decide +kernel), List.mem_of_getElem? (i := 346) (by decide +kernel), List.mem_of_getElem? (i := 347) (by decide +kernel)⟩
theorem lw_p4 : lw_okq (⟨"CatalogueHarvester$Harvest", "finish", "()V"⟩, 10) := ⟨⟨by decide +kernel, by decide +kernel⟩, List.mem_of_getElem? (i := 21) (by decide +kernel), List.mem_of_getElem? (i := 353) (by decide +kernel), List.mem_of_getElem? (i := 354) (by decide +kernel)⟩
theorem lw_p5 : lw_okq (⟨"CatalogueHarvester$Harvest", "dropWhatIsGone", "()V"⟩, 10) := ⟨⟨by decide +kernel, by decide +kernel⟩, List.mem_of_getElem? (i := 21) (by decide +kernel), List.mem_of_getElem? (i := 358) (by decide +kernel), List.mem_of_getElem? (i := 359) (by decide +kernel)⟩
theorem lw_p6 : lw_okq (⟨"CatalogueHarvester$Records", "isLike", "(LCatalogueHarvester$Records;I)Z"⟩, 4) := ⟨⟨by decide +kernel, by decide +kernel⟩, List.mem_of_getElem? (i := 33) (by decide +kernel), List.mem_of_getElem? (i := 401) (by decide +kernel), List.mem_of_getElem? (i := 402) (by decide +kernel)⟩
theorem lw_p7 : lw_okq (⟨"CatalogueHarvesterModel", "goes", "(I)Z"⟩, 22) := ⟨⟨by decide +kernel, by decide +kernel⟩, List.mem_of_getElem? (i := 427) (by decide +kernel), List.mem_of_getElem? (i := 514) (by decide +kernel), List.mem_of_getElem? (i := 515) (by decide +kernel)⟩
theorem lw_p8 : lw_okq (⟨"CatalogueHarvesterModel", "clears", "(I)V"⟩, 22) := ⟨⟨by decide +kernel, by decide +kernel⟩, List.mem_of_getElem? (i := 427) (by decide +kernel), List.mem_of_getElem? (i := 518) (by decide +kernel), List.mem_of_getElem? (i := 519) (by decide +kernel)⟩
theorem lw_p9 : lw_okq (⟨"CatalogueHarvesterModel", "stamp", "(II)I"⟩, 22) := ⟨⟨by decide +kernel, by decide +kernel⟩, List.mem_of_getElem? (i := 427) (by decide +kernel), List.mem_of_getElem? (i := 529) (by decide +kernel), List.mem_of_getElem? (i := 530) (by decide +kernel)⟩
theorem lw_p10 : lw_okq (⟨"CatalogueHarvesterModel", "asks", "(I)Z"⟩, 22) := ⟨⟨by decide +kernel, by decide +kernel⟩, List.mem_of_getElem? (i := 427) (by decide +kernel), List.mem_of_getElem? (i := 549) (by decide +kernel), List.mem_of_getElem? (i := 550) (by decide +kernel)⟩
theorem lw_p11 : lw_okq (⟨"CatalogueHarvesterModel", "count", "(II)I"⟩, 22) := ⟨⟨by decide +kernel, by decide +kernel⟩, List.mem_of_getElem? (i := 427) (by decide +kernel), List.mem_of_getElem? (i := 553) (by decide +kernel), List.mem_of_getElem? (i := 554) (by decide +kernel)⟩
theorem lw_p12 : lw_okq (⟨"CatalogueHarvesterModel", "begins", "(I)V"⟩, 22) := ⟨⟨by decide +kernel, by decide +kernel⟩, List.mem_of_getElem? (i := 427) (by decide +kernel), List.mem_of_getElem? (i := 565) (by decide +kernel), List.mem_of_getElem? (i := 566) (by decide +kernel)⟩
theorem lw_p13 : lw_okq (⟨"CatalogueHarvesterModel", "next", "(I)I"⟩, 22) := ⟨⟨by decide +kernel, by decide +kernel⟩, List.mem_of_getElem? (i := 427) (by decide +kernel), List.mem_of_getElem? (i := 573) (by decide +kernel), List.mem_of_getElem? (i := 574) (by decide +kernel)⟩
theorem lw_p14 : lw_okq (⟨"CatalogueHarvesterModel", "takes", "(II)V"⟩, 22) := ⟨⟨by decide +kernel, by decide +kernel⟩, List.mem_of_getElem? (i := 427) (by decide +kernel), List.mem_of_getElem? (i := 577) (by decide +kernel), List.mem_of_getElem? (i := 578) (by decide +kernel)⟩
theorem lw_p15 : lw_okq (⟨"CatalogueHarvesterModel", "isAlike", "(I)Z"⟩, 22) := ⟨⟨by decide +kernel, by decide +kernel⟩, List.mem_of_getElem? (i := 427) (by decide +kernel), List.mem_of_getElem? (i := 601) (by decide +kernel), List.mem_of_getElem? (i := 602) (by decide +kernel)⟩
def lw_privs_1 : List (MethodName × Nat) := [(⟨"CatalogueHarvester", "harvestOf", "(I)LCatalogueHarvester$Harvest;"⟩, 2), (⟨"java/lang/Throwable", "fillInStackTrace", "(I)Ljava/lang/Throwable;"⟩, 6), (⟨"CatalogueHarvester$Harvest", "nextOfList", "()I"⟩, 10), (⟨"CatalogueHarvester$Harvest", "takeOver", "(I)V"⟩, 10), (⟨"CatalogueHarvester$Harvest", "finish", "()V"⟩, 10), (⟨"CatalogueHarvester$Harvest", "dropWhatIsGone", "()V"⟩, 10), (⟨"CatalogueHarvester$Records", "isLike", "(LCatalogueHarvester$Records;I)Z"⟩, 4), (⟨"CatalogueHarvesterModel", "goes", "(I)Z"⟩, 22), (⟨"CatalogueHarvesterModel", "clears", "(I)V"⟩, 22), (⟨"CatalogueHarvesterModel", "stamp", "(II)I"⟩, 22), (⟨"CatalogueHarvesterModel", "asks", "(I)Z"⟩, 22), (⟨"CatalogueHarvesterModel", "count", "(II)I"⟩, 22), (⟨"CatalogueHarvesterModel", "begins", "(I)V"⟩, 22), (⟨"CatalogueHarvesterModel", "next", "(I)I"⟩, 22), (⟨"CatalogueHarvesterModel", "takes", "(II)V"⟩, 22), (⟨"CatalogueHarvesterModel", "isAlike", "(I)Z"⟩, 22)]
theorem lw_r1 : ∀ q ∈ lw_privs_1, lw_okq q := List.forall_mem_cons.mpr ⟨lw_p0, List.forall_mem_cons.mpr ⟨lw_p1, List.forall_mem_cons.mpr ⟨lw_p2, List.forall_mem_cons.mpr ⟨lw_p3, List.forall_mem_cons.mpr ⟨lw_p4, List.forall_mem_cons.mpr ⟨lw_p5, List.forall_mem_cons.mpr ⟨lw_p6, List.forall_mem_cons.mpr ⟨lw_p7, List.forall_mem_cons.mpr ⟨lw_p8, List.forall_mem_cons.mpr ⟨lw_p9, List.forall_mem_cons.mpr ⟨lw_p10, List.forall_mem_cons.mpr ⟨lw_p11, List.forall_mem_cons.mpr ⟨lw_p12, List.forall_mem_cons.mpr ⟨lw_p13, List.forall_mem_cons.mpr ⟨lw_p14, List.forall_mem_cons.mpr ⟨lw_p15, fun _ h => absurd h List.not_mem_nil⟩⟩⟩⟩⟩⟩⟩⟩⟩⟩⟩⟩⟩⟩⟩⟩
def lw_privs : List (MethodName × Nat) := lw_privs_1
def lw_tbl : List Cond := k2_sels lw_privs ++ tables_1
theorem lw_privs_ok : ∀ q ∈ lw_privs, lw_okq q := lw_r1
-- ===== end of PART A; then your names; then what follows =====
/-! ===== BEGIN words of one list among another's, by their places ===== -/
theorem goodIn_r {big : List Cond} (ws : List Cond) (ps : List Nat) (hp : ws = ps.filterMap (fun i => big[i]?)) (h : ws.all goodWord = true) : GoodIn big ws := by
  intro w hw
  have h1 := List.all_eq_true.mp h w hw
  rw [hp] at hw
  obtain ⟨i, -, hi⟩ := List.mem_filterMap.mp hw
  have hm : w ∈ big := by first | exact List.mem_of_getElem? hi | exact List.getElem?_mem hi
  exact ⟨hm, good_of_word h1⟩
theorem goodIn_app {big a b : List Cond} (ha : GoodIn big a) (hb : GoodIn big b) : GoodIn big (a ++ b) := fun w h => (List.mem_append.mp h).elim (ha w) (hb w)
theorem goodIn_ca {big a b : List Cond} {c : Cond} (ha : GoodIn big (c :: a)) (hb : GoodIn big b) : GoodIn big (c :: (a ++ b)) := fun w h => (List.mem_cons.mp h).elim (fun e => ha w (List.mem_cons.mpr (Or.inl e))) (fun h => (List.mem_append.mp h).elim (fun h => ha w (List.mem_cons.mpr (Or.inr h))) (hb w))
theorem goodIn_sub {big ws : List Cond} (hm : ∀ w ∈ ws, w ∈ big) (h : ws.all goodWord = true) : GoodIn big ws := fun w hw => ⟨hm w hw, good_of_word (List.all_eq_true.mp h w hw)⟩
/-! ===== END ===== -/

/-! ===== BEGIN exceptions that leave a method, and their catching by the caller (launches without stack traces) ===== -/
section VXA
/-! The laws vx_back, vx_callV, vx_callS, vx_callSW, vx_throw0, vx_throwS follow proofs of the library, with one case more: JvmDerived/Free/Laws.lean (Back.of_free), Shelf42/LK1.lean (callV, callS), Shelf/KitTraced.lean (throwNew0V, throwNewS). -/
/-- where a method has thrown q: the class by its name, the cell, what was written, the world -/
def vx_T (XC : String → State → State → Prop) (st : State) (q : Addr) (t : State) (mc ms : Nat) (free : Addr → Prop) : Prop :=
  ∃ (E : String) (ce : Cell) (L : List Loc), XC E st t ∧ t.heap[q]? = some ce ∧ ce.vm = .none ∧ st.vm.findClass E = some ce.cls ∧ st.WarmedH t.vm ∧ st.sameButNew ({ t with vm := st.vm } : State) L mc ms ∧ ∀ z ∈ L, free z.base
def vx_Q (Qc : Array Value → State → Outcome → State → Prop) (XC : String → State → State → Prop) (mc ms : Nat) (free : Addr → Prop) : Array Value → State → Outcome → State → Prop := fun a st o t =>
  (Qc a st o t ∧ ∃ L, FrameEnd st o t L mc ms ∧ ∀ q ∈ L, free q.base) ∨ ∃ q, o = .threw q ∧ vx_T XC st q t mc ms free
/-- a callee that returns or throws -/
def vx_Met (l : Launch) (y : MethodName) (ws : List Cond) (rm : Room) (Pc : Array Value → State → Prop) (Qc : Array Value → State → Outcome → State → Prop) (XC : String → State → State → Prop) (mc ms : Nat) (free : Addr → Prop) : Prop :=
  MetFree l y (headSpec ws rm) Pc (fun _ _ _ _ _ => True) (vx_Q Qc XC mc ms free)
def vx_Post (XC : String → State → State → Prop) (mc ms : Nat) (free : Addr → Prop) : Pt → Array Value → Addr → Pt → Prop := fun A a q B =>
  ∃ (g : JFrame) (mk : MethodId) (t : State) (L : List Loc) (E : String) (ce : Cell), B.U.heap = t.heap ∧ B.U.vm = t.vm ∧ XC E (A.U.calling g mk a) t ∧ t.heap[q]? = some ce ∧ ce.vm = .none ∧ A.U.vm.findClass E = some ce.cls ∧ B.locs = A.locs ++ L ∧ (∀ z ∈ L, free z.base) ∧ B.cells = A.cells + mc ∧ B.slots = A.slots + ms
def vx_Back (l : Launch) (R : Room) (p : Program) (e : Env) (below : List Frame) (s : State) (sargs : Array Value) (y : MethodName) (len W9 : Nat)
    (Pre : Pt → Array Value → Prop) (Post : Pt → Array Value → Option Value → Pt → Prop) (PostX : Pt → Array Value → Addr → Pt → Prop) : Prop :=
  ∀ (m : MethodId) (meth : Method) (c : Code) (A : Pt) (g : JFrame) (ig : Instr) (mk : MethodId) (a : Array Value),
    Stand p l e R s m sargs below meth c A.U A.locs A.cells A.slots → g.method = m → g.locals.size = c.maxLocals → decode c.code g.pc = .ok (ig, len) →
    2 * g.monitorRoom + (g.stack.map fun v => v.category).sum ≤ W9 → A.U.methodNamed? y = some mk → Pre A a →
    (∃ (v : Option Value) (B : Pt), Stand p l e R s m sargs below meth c B.U B.locs B.cells B.slots ∧ Post A a v B ∧
      Steps p.tables e below (doInvoke e (A.U.setTop g) [] mk a).1 (B.U.setTop { g with pc := g.pc + len, stack := v.toList ++ g.stack })) ∨
    (∃ (q : Addr) (B : Pt), Stand p l e R s m sargs below meth c B.U B.locs B.cells B.slots ∧ PostX A a q B ∧
      Steps p.tables e below (doInvoke e (A.U.setTop g) [] mk a).1 ((B.U.setTop g).pushFrame (.throwing q)))
section Payer
variable {l : Launch} {R : Room} {p : Program} {e : Env} {below : List Frame} {s : State} {sargs : Array Value} {y : MethodName} {len W9 : Nat}
theorem vx_back {ws : List Cond} {rm : Room} {Pc : Array Value → State → Prop} {Qc : Array Value → State → Outcome → State → Prop} {XC : String → State → State → Prop} {mc ms : Nat} {free : Addr → Prop} {bytes : ByteArray} {maxL : Nat} {ret : Option FieldType}
    (hM : vx_Met l y ws rm Pc Qc XC mc ms free) (hblind : FrameBlind Pc) (hrc : rm.cells = mc) (hrs : rm.slots = ms)
    (hframes : rm.frames + 1 ≤ R.frames) (hlocals : W9 + (maxL + 11) + rm.locals ≤ R.locals)
    (hws : ∀ w ∈ ws, ∀ a' U, s.WarmedH U.vm → w.before a' U = true) (hcode : Cond.code y bytes maxL ret ∈ ws) (hinit : ∀ a' U, s.WarmedH U.vm → (Cond.initialized y.cls).before a' U = true) :
    vx_Back l R p e below s sargs y len W9 (PreOf R mc ms Pc) (PostOf Qc mc ms free) (vx_Post XC mc ms free) := by
  intro m meth c A g ig mk a X hg hsize hdg hW hn hp
  have h1 : (headSpec ws rm).pre.before a A.U = true := atoms_intro fun w hw => hws w hw _ _ X.warmed
  have h2 : (Cond.code y bytes maxL ret).before a A.U = true := hws _ hcode _ _ X.warmed
  have h3 : (Cond.initialized y.cls).before a A.U = true := hinit _ _ X.warmed
  have h4 : A.cells + (headSpec ws rm).room.cells ≤ R.cells := by rw [show (headSpec ws rm).room.cells = mc from hrc]; exact hp.1
  have h5 : A.slots + (headSpec ws rm).room.slots ≤ R.slots := by rw [show (headSpec ws rm).room.slots = ms from hrs]; exact hp.2.1
  have hPc : Pc a (A.U.calling g mk a) := hblind _ _ _ _ hp.2.2
  obtain ⟨U, Ls, c0, s0⟩ := A
  dsimp only [Pt.U, Pt.locs, Pt.cells, Pt.slots] at h1 h2 h3 h4 h5 X hn hPc ⊢
  obtain ⟨methY, cY, hmY, hcY, -, hlY, -, -, -, -⟩ := Cond.code_spec hn h2
  obtain ⟨kY, hkY, -⟩ := className_of_methodNamed hn
  have hinitY : kY.init = .initialized := Cond.initialized_spec (findClass_of_methodNamed hn) hkY h3
  have h : At U g.method c below := by rw [hg]; exact X.here
  have hlocals9 : W9 + (maxL + 11) + (headSpec ws rm).room.locals ≤ R.locals := hlocals
  have happ : (headSpec ws rm).appliesLoose y e.platform (U.calling g mk a) = true :=
    Spec.appliesLoose_calling (g := g) h hdg hn hkY hinitY
      (X.room_calling (g := g) (R' := (headSpec ws rm).room) hsize hmY hcY hframes (by rw [hlY]; omega) h4 h5) h1
  obtain ⟨mid, hmid⟩ := h.above
  have hfr : (U.setTop g).frames = (.java g :: mid) ++ below := by rw [State.frames_setTop' g h.top, hmid]; rfl
  obtain ⟨o, s₂, hsteps, -, hend, hq⟩ := Steps.callFree hM p X.admits X.cas X.clock (acts := []) hfr happ hPc trivial
  have hq' : vx_Q Qc XC mc ms free a (U.calling g mk a) o s₂ := hq
  rw [State.frames_setTop' g h.top] at hend
  obtain ⟨g₀, hg0⟩ := Option.isSome_iff_exists.mp h.top
  obtain ⟨r, hr⟩ := State.topJava?_eq_some.mp hg0
  have hr' : (({ U with heap := s₂.heap, slotsUsed := s₂.slotsUsed } : State).setVm s₂.vm).frames = .java g₀ :: r := hr
  rcases hq' with ⟨hqc, L, hfe, hL⟩ | ⟨q, rfl, E, ce, L, hx, hce, hcv, hcl, hW₂, hsm, hL⟩
  · obtain ⟨⟨v, rfl⟩, hW₂, e2, q2, q3, q4, q5, q6⟩ := id hfe
    have e3 : s₂ = ({ (U.calling g mk a).setFrames s₂.frames with heap := s₂.heap, slotsUsed := s₂.slotsUsed } : State).setVm s₂.vm := by
      have : s₂ = ({ s₂ with vm := (U.calling g mk a).vm } : State).setVm s₂.vm := rfl
      rw [e2] at this
      exact this
    obtain ⟨c₂, i₂, len₂, hc₂, hd₂, hf₂⟩ := hend
    have hW' : U.WarmedH s₂.vm := hW₂
    have hcc : c₂ = c := by
      have h1 : s₂.code? g.method = U.code? g.method := by
        rw [State.code?_eq, State.code?_eq, hW'.alike.method?]
      exact Option.some.inj (hc₂.symm.trans (h1.trans h.code))
    subst hcc
    have hlen : len₂ = len := by rw [hdg] at hd₂; cases hd₂; rfl
    subst hlen
    have hs₂ : s₂ = (({ U with heap := s₂.heap, slotsUsed := s₂.slotsUsed } : State).setVm s₂.vm).setTop { g with pc := g.pc + len₂, stack := v.toList ++ g.stack } := by
      refine e3.trans ?_
      rw [hf₂, State.calling_eq h.top, State.setFrames_setFrames, State.setTop_of_frames _ hr', hr]
      rfl
    have hsame : U.sameButNew ({ U with heap := s₂.heap, slotsUsed := s₂.slotsUsed } : State) L mc ms := by
      refine ⟨?_, q2, q3, q4, q5, q6⟩
      obtain ⟨t, ht, -⟩ := State.frames_cons hr
      show ({ U with heap := s₂.heap, slotsUsed := s₂.slotsUsed } : State) = { U.setFrames U.frames with heap := s₂.heap, slotsUsed := s₂.slotsUsed }
      rw [State.setFrames_self ht]
    subst hg
    refine Or.inl ⟨v, ⟨(({ U with heap := s₂.heap, slotsUsed := s₂.slotsUsed } : State).setVm s₂.vm), Ls ++ L, c0 + mc, s0 + ms⟩,
      ⟨X.admits, X.cas, X.clock, X.frames, X.room, X.hears, X.method, X.code, (X.here.setHeapUsed s₂.heap s₂.slotsUsed).setVm hW'.alike, X.tail, State.WarmedH.trans X.warmed hW', X.limits, X.bytes, X.same.trans (hsame.setVm s.vm)⟩,
      ⟨g, mk, s₂, L, rfl, rfl, hqc, rfl, hL, rfl, rfl⟩, ?_⟩
    show Steps p.tables e below _ ((({ U with heap := s₂.heap, slotsUsed := s₂.slotsUsed } : State).setVm s₂.vm).setTop { g with pc := g.pc + len₂, stack := v.toList ++ g.stack })
    rw [← hs₂]
    exact hsteps
  · obtain ⟨e2, q2, q3, q4, q5, q6⟩ := id hsm
    have e3 : s₂ = ({ (U.calling g mk a).setFrames s₂.frames with heap := s₂.heap, slotsUsed := s₂.slotsUsed } : State).setVm s₂.vm := by
      have : s₂ = ({ s₂ with vm := (U.calling g mk a).vm } : State).setVm s₂.vm := rfl
      rw [e2] at this
      exact this
    have hf₂ : s₂.frames = .throwing q :: .java g :: U.frames.tail := hend
    have hW' : U.WarmedH s₂.vm := hW₂
    have hs₂ : s₂ = ((({ U with heap := s₂.heap, slotsUsed := s₂.slotsUsed } : State).setVm s₂.vm).setTop g).pushFrame (.throwing q) := by
      refine e3.trans ?_
      rw [hf₂, State.calling_eq h.top, State.setFrames_setFrames, State.pushFrame, State.frames_setTop _ hr', State.setTop_of_frames _ hr', State.setFrames_setFrames, hr]
      rfl
    have hsame : U.sameButNew ({ U with heap := s₂.heap, slotsUsed := s₂.slotsUsed } : State) L mc ms := by
      refine ⟨?_, q2, q3, q4, q5, q6⟩
      obtain ⟨t, ht, -⟩ := State.frames_cons hr
      show ({ U with heap := s₂.heap, slotsUsed := s₂.slotsUsed } : State) = { U.setFrames U.frames with heap := s₂.heap, slotsUsed := s₂.slotsUsed }
      rw [State.setFrames_self ht]
    subst hg
    refine Or.inr ⟨q, ⟨(({ U with heap := s₂.heap, slotsUsed := s₂.slotsUsed } : State).setVm s₂.vm), Ls ++ L, c0 + mc, s0 + ms⟩,
      ⟨X.admits, X.cas, X.clock, X.frames, X.room, X.hears, X.method, X.code, (X.here.setHeapUsed s₂.heap s₂.slotsUsed).setVm hW'.alike, X.tail, State.WarmedH.trans X.warmed hW', X.limits, X.bytes, X.same.trans (hsame.setVm s.vm)⟩,
      ⟨g, mk, s₂, L, E, ce, rfl, rfl, hx, hce, hcv, hcl, rfl, hL, rfl, rfl⟩, ?_⟩
    show Steps p.tables e below _ (((({ U with heap := s₂.heap, slotsUsed := s₂.slotsUsed } : State).setVm s₂.vm).setTop g).pushFrame (.throwing q))
    rw [← hs₂]
    exact hsteps
end Payer
section Calls
variable {p : Program} {l : Launch} {e : Env} {R : Room} {s : State} {m : MethodId} {args : Array Value} {below : List Frame} {meth : Method} {c : Code} {T : State} {locs : List Loc} {cells slots : Nat}
theorem vx_callV (X : Stand p l e R s m args below meth c T locs cells slots) (hexec : p.tables.exec = Jvm.exec) {own C : String} {index : Nat} {y : MethodName} {bytes : ByteArray} {maxL : Nat} {ret : Option FieldType}
    (hown : s.vm.findClass own = some m.cls) (hlink : (Cond.methodLink own index y).before args s = true) (hinst : (Cond.instanceMethod y).before args s = true) (hsel : (Cond.selects C y y).before args s = true)
    (hcode : (Cond.code y bytes maxL ret).before args s = true) (hy : y.cls ≠ "java/lang/invoke/MethodHandle" ∧ y.cls ≠ "java/lang/invoke/VarHandle")
    {W9 : Nat} {Pre : Pt → Array Value → Prop} {Post : Pt → Array Value → Option Value → Pt → Prop} {PostX : Pt → Array Value → Addr → Pt → Prop} (hK : vx_Back l R p e below s args y 3 W9 Pre Post PostX)
    {b : Addr} {cellB : Cell} (hcell : T.heap[b]? = some cellB) (hobj : cellB.vm.isStatics = false) (hcls : s.vm.findClass C = some cellB.cls)
    {g : JFrame} (hg : g.method = m) (hsize : g.locals.size = c.maxLocals) {argsL rest : List Value} (hlen : ∀ sig, parseMethodDescriptor y.desc = some sig → argsL.length = sig.parameters.length)
    (hstack : g.stack = argsL.reverse ++ .ref b :: rest) (hW : 2 * g.monitorRoom + (rest.map fun v => v.category).sum ≤ W9) (hdg : decode c.code g.pc = .ok (.invokevirtual index, 3))
    (hpre : ∀ vm₁, s.WarmedH vm₁ → Pre ⟨T.setVm vm₁, locs, cells, slots⟩ (Value.ref b :: argsL).toArray) :
    (∃ (v : Option Value) (vm₁ : Vm) (B : Pt), s.WarmedH vm₁ ∧ Stand p l e R s m args below meth c B.U B.locs B.cells B.slots ∧ Post ⟨T.setVm vm₁, locs, cells, slots⟩ (Value.ref b :: argsL).toArray v B ∧
      ∀ target, Steps p.tables e below (B.U.setTop { g with pc := g.pc + 3, stack := v.toList ++ rest }) target → Steps p.tables e below (T.setTop g) target) ∨
    (∃ (q : Addr) (vm₁ : Vm) (B : Pt), s.WarmedH vm₁ ∧ Stand p l e R s m args below meth c B.U B.locs B.cells B.slots ∧ PostX ⟨T.setVm vm₁, locs, cells, slots⟩ (Value.ref b :: argsL).toArray q B ∧
      Steps p.tables e below (T.setTop g) ((B.U.setTop { g with stack := rest }).pushFrame (.throwing q))) := by
  obtain ⟨mk, methM, hnamed, hmethM, hstM, habM⟩ := Cond.instanceMethod_spec hinst
  obtain ⟨methM', cM, hmethM', -, -, -, -, -, -, hsigM⟩ := Cond.code_spec hnamed hcode
  cases hmethM.symm.trans hmethM'
  obtain ⟨c2, r2, m2, q1, q2, q3, q4, kP, hkP, hkPi⟩ := Cond.selects_spec hsel
  cases hcls.symm.trans q1
  cases (State.methodFound?_of_named hnamed hy).symm.trans q2
  cases hnamed.symm.trans q3
  have hselP : selectMethod e.platform s.vm cellB.cls mk = .method mk := by rw [Launch.admits_selectMethod X.admits]; exact q4
  obtain ⟨vm₁, X₁, hstep₁⟩ := X.invokevirtual hexec hown hlink hnamed hmethM hstM hkP hkPi hy (a := b) (cell := cellB) hcell
    (fun z h => by rw [h] at hobj; cases hobj) hselP hmethM habM hkP hkPi (g := g) hg (argsL := argsL) (rest := rest) (hlen _ hsigM) hstack hdg
  rcases hK m meth c ⟨T.setVm vm₁, locs, cells, slots⟩ { g with stack := rest } (.invokevirtual index) mk (Value.ref b :: argsL).toArray X₁ hg hsize hdg hW (X₁.named hnamed) (hpre vm₁ X₁.warmed) with ⟨v, B, X', hpost, hsteps⟩ | ⟨q, B, X', hpost, hsteps⟩
  · exact Or.inl ⟨v, vm₁, B, X₁.warmed, X', hpost, fun target h => hstep₁ _ fun acts => by rw [doInvoke_state]; exact hsteps.trans h⟩
  · exact Or.inr ⟨q, vm₁, B, X₁.warmed, X', hpost, hstep₁ _ fun acts => by rw [doInvoke_state]; exact hsteps⟩
theorem vx_callS (X : Stand p l e R s m args below meth c T locs cells slots) (hexec : p.tables.exec = Jvm.exec) {own : String} {index : Nat} {y : MethodName} {bytes : ByteArray} {maxL : Nat} {ret : Option FieldType}
    (hown : s.vm.findClass own = some m.cls) (hlink : (Cond.methodLink own index y).before args s = true) (hstat : (Cond.static y).before args s = true) (hinit : (Cond.initialized y.cls).before args s = true)
    (hcode : (Cond.code y bytes maxL ret).before args s = true) (hy : y.cls ≠ "java/lang/invoke/MethodHandle" ∧ y.cls ≠ "java/lang/invoke/VarHandle")
    {W9 : Nat} {Pre : Pt → Array Value → Prop} {Post : Pt → Array Value → Option Value → Pt → Prop} {PostX : Pt → Array Value → Addr → Pt → Prop} (hK : vx_Back l R p e below s args y 3 W9 Pre Post PostX)
    {g : JFrame} (hg : g.method = m) (hsize : g.locals.size = c.maxLocals) {argsL rest : List Value} (hlen : ∀ sig, parseMethodDescriptor y.desc = some sig → argsL.length = sig.parameters.length)
    (hstack : g.stack = argsL.reverse ++ rest) (hW : 2 * g.monitorRoom + (rest.map fun v => v.category).sum ≤ W9) (hdg : decode c.code g.pc = .ok (.invokestatic index, 3))
    (hpre : ∀ vm₁, s.WarmedH vm₁ → Pre ⟨T.setVm vm₁, locs, cells, slots⟩ argsL.toArray) :
    (∃ (v : Option Value) (vm₁ : Vm) (B : Pt), s.WarmedH vm₁ ∧ Stand p l e R s m args below meth c B.U B.locs B.cells B.slots ∧ Post ⟨T.setVm vm₁, locs, cells, slots⟩ argsL.toArray v B ∧
      ∀ target, Steps p.tables e below (B.U.setTop { g with pc := g.pc + 3, stack := v.toList ++ rest }) target → Steps p.tables e below (T.setTop g) target) ∨
    (∃ (q : Addr) (vm₁ : Vm) (B : Pt), s.WarmedH vm₁ ∧ Stand p l e R s m args below meth c B.U B.locs B.cells B.slots ∧ PostX ⟨T.setVm vm₁, locs, cells, slots⟩ argsL.toArray q B ∧
      Steps p.tables e below (T.setTop g) ((B.U.setTop { g with stack := rest }).pushFrame (.throwing q))) := by
  obtain ⟨mk, hnamed⟩ := Cond.code_named hcode
  obtain ⟨methM, cM, hmethM, -, -, -, -, -, -, hsigM⟩ := Cond.code_spec hnamed hcode
  have hstatic : methM.isStatic = true := Cond.static_spec hnamed hmethM hstat
  obtain ⟨kP, hkP, -⟩ := className_of_methodNamed hnamed
  have hinitP : kP.init = .initialized := Cond.initialized_spec (findClass_of_methodNamed hnamed) hkP hinit
  obtain ⟨vm₁, X₁, hstep₁⟩ := X.invokestatic hexec hown hlink hnamed hmethM hstatic hkP hinitP hy (g := g) hg (argsL := argsL) (rest := rest) (hlen _ hsigM) hstack hdg
  rcases hK m meth c ⟨T.setVm vm₁, locs, cells, slots⟩ { g with stack := rest } (.invokestatic index) mk argsL.toArray X₁ hg hsize hdg hW (X₁.named hnamed) (hpre vm₁ X₁.warmed) with ⟨v, B, X', hpost, hsteps⟩ | ⟨q, B, X', hpost, hsteps⟩
  · exact Or.inl ⟨v, vm₁, B, X₁.warmed, X', hpost, fun target h => hstep₁ _ fun acts => by rw [doInvoke_state]; exact hsteps.trans h⟩
  · exact Or.inr ⟨q, vm₁, B, X₁.warmed, X', hpost, hstep₁ _ fun acts => by rw [doInvoke_state]; exact hsteps⟩
end Calls
theorem vx_cls {s : State} {T : State} {vm₁ : Vm} {E : String} {k : ClassId} (hW : s.WarmedH vm₁) (h : (T.setVm vm₁).vm.findClass E = some k) : s.vm.findClass E = some k := by
  have h1 : vm₁.findClass E = some k := h
  rw [hW.alike.findClass] at h1
  exact h1
/-- the method's frame g, with q thrown over it -/
def vx_W (p : Program) (l : Launch) (e : Env) (R : Room) (s : State) (m : MethodId) (args : Array Value) (below : List Frame) (meth : Method) (c : Code) (H : Heap) (locs : List Loc) (cells slots : Nat) (Q : State → Prop) (g : JFrame) (q : Addr) : Prop :=
  ∀ T : State, T.heap = H → Stand p l e R s m args below meth c T locs cells slots → ∃ t, Steps p.tables e below ((T.setTop g).pushFrame (.throwing q)) t ∧ Q t
def vx_Run (p : Program) (l : Launch) (e : Env) (R : Room) (s : State) (m : MethodId) (args : Array Value) (below : List Frame) (meth : Method) (c : Code) (H : Heap) (locs : List Loc) (cells slots mc ms : Nat) (g : JFrame) (rest : List Value) (Qa : State → Outcome → State → Prop) (XC : String → State → State → Prop) (free : Addr → Prop) : Prop :=
  ∀ T : State, T.heap = H → Stand p l e R s m args below meth c T locs cells slots →
    (∃ (v : Option Value) (st₀ t T' : State) (L : List Loc), st₀.heap = H ∧ Stand p l e R s m args below meth c T' (locs ++ L) (cells + mc) (slots + ms) ∧ (∀ q ∈ L, free q.base) ∧ T'.heap = t.heap ∧ T'.vm = t.vm ∧ Qa st₀ (.returned v) t ∧
      Goes p e below T g T' { g with pc := g.pc + 3, stack := v.toList ++ rest }) ∨
    (∃ (q : Addr) (st₀ t T' : State) (L : List Loc) (E : String) (ce : Cell), st₀.heap = H ∧ Stand p l e R s m args below meth c T' (locs ++ L) (cells + mc) (slots + ms) ∧ (∀ z ∈ L, free z.base) ∧ T'.heap = t.heap ∧ T'.vm = t.vm ∧ XC E st₀ t ∧ t.heap[q]? = some ce ∧ ce.vm = .none ∧ s.vm.findClass E = some ce.cls ∧
      Steps p.tables e below (T.setTop g) ((T'.setTop { g with stack := rest }).pushFrame (.throwing q)))
def vx_X {S : Type} (px : S → Prop) (B : String → S → State → Prop) (A : Nat → Prop) : String → State → State → Prop := fun E st t => ∃ u : S, px u ∧ B E u t ∧ va_F A st t
section Runs
variable {p : Program} {l : Launch} {e : Env} {R : Room} {s : State} {m : MethodId} {args : Array Value} {below : List Frame} {meth : Method} {c : Code} {H : Heap} {locs : List Loc} {cells slots : Nat}
variable {y : MethodName} {bytes cc : ByteArray} {maxL nL mc ms n index : Nat} {ret : Option FieldType} {ws : List Cond} {rm : Room} {Pc : Array Value → State → Prop} {Qc : Array Value → State → Outcome → State → Prop} {XC : String → State → State → Prop} {free : Addr → Prop} {Ts : List Cond} {own C : String} {b : Addr} {As rest : List Value} {g : JFrame}
theorem vx_callBack (cb : CallB R s args own index y bytes maxL ret ws rm mc ms n) (hM : vx_Met l y ws rm Pc Qc XC mc ms free) (hbl : FrameBlind Pc) : vx_Back l R p e below s args y 3 8 (PreOf R mc ms Pc) (PostOf Qc mc ms free) (vx_Post XC mc ms free) := by
  obtain ⟨hrc, hrs, hfr, hlo, hws, hcw, -, hini, -⟩ := cb
  exact vx_back (bytes := bytes) (maxL := maxL) (ret := ret) hM hbl hrc hrs hfr hlo hws hcw (fun a' U hW => word_at hW (Or.inl (by first | rfl | simp [Cond.onTables, Cond.keeps, Cond.steady])) hini)
theorem vx_runV (S : CallFix p m c cc nL s args Ts own) (hM : vx_Met l y ws rm Pc Qc XC mc ms free) (cw : CallW R s args own C index y bytes maxL ret ws rm mc ms n) (hp : PreV s H C b Pc As)
    (hg : g.method = m) (hn : As.length = n) (hsize : g.locals.size = nL) (hstack : g.stack = As.reverse ++ .ref b :: rest) (hW : 2 * g.monitorRoom + (rest.map fun v => v.category).sum ≤ 8) (hdg : decode cc g.pc = .ok (.invokevirtual index, 3)) (hf : cells + mc ≤ R.cells ∧ slots + ms ≤ R.slots) :
    vx_Run p l e R s m args below meth c H locs cells slots mc ms g rest (Qc (Value.ref b :: As).toArray) XC free := by
  have hK : vx_Back l R p e below s args y 3 8 (PreOf R mc ms Pc) (PostOf Qc mc ms free) (vx_Post XC mc ms free) := vx_callBack cw.1 hM hp.1
  obtain ⟨⟨-, -, -, -, -, -, hcode, -, hy, hlen, hl⟩, hin, hse⟩ := cw
  obtain ⟨hx, hb, hml, ho, -⟩ := S
  obtain ⟨-, ⟨cellB, hcB, hoB, hclB⟩, hPc⟩ := hp
  intro T hT X
  rcases vx_callV X hx (C := C) (bytes := bytes) (maxL := maxL) (ret := ret) ho hl hin hse hcode hy hK (by rw [hT]; exact hcB) hoB hclB hg (hsize.trans hml.symm) (argsL := As) (rest := rest) (fun sig h => hn.trans (hlen sig h)) hstack hW (by rw [hb]; exact hdg)
    (fun vm₁ hW₁ => ⟨hf.1, hf.2, hPc (T.setVm vm₁) hT hW₁⟩) with ⟨v, vm₁, ⟨U', l2, c2, s2⟩, hW₁, X', ⟨g', mk, t, L, e1, e2, hq, h1, hL, h2, h3⟩, st⟩ | ⟨q, vm₁, ⟨U', l2, c2, s2⟩, hW₁, X', ⟨g', mk, t, L, E, ce, e1, e2, hq, hce, hcv, hcl, h1, hL, h2, h3⟩, st⟩
  · dsimp only [Pt.U, Pt.locs, Pt.cells, Pt.slots] at X' e1 e2 h1 h2 h3 st
    subst h1; subst h2; subst h3
    exact Or.inl ⟨v, (T.setVm vm₁).calling g' mk (Value.ref b :: As).toArray, t, U', L, hT, X', hL, e1, e2, hq, st⟩
  · dsimp only [Pt.U, Pt.locs, Pt.cells, Pt.slots] at X' e1 e2 h1 h2 h3 st hcl
    subst h1; subst h2; subst h3
    exact Or.inr ⟨q, (T.setVm vm₁).calling g' mk (Value.ref b :: As).toArray, t, U', L, E, ce, hT, X', hL, e1, e2, hq, hce, hcv, vx_cls hW₁ hcl, st⟩
theorem vx_runS (S : CallFix p m c cc nL s args Ts own) (hM : vx_Met l y ws rm Pc Qc XC mc ms free) (cw : CallB R s args own index y bytes maxL ret ws rm mc ms n ∧ (Cond.static y).before args s = true) (hp : PreS s H Pc As)
    (hg : g.method = m) (hn : As.length = n) (hsize : g.locals.size = nL) (hstack : g.stack = As.reverse ++ rest) (hW : 2 * g.monitorRoom + (rest.map fun v => v.category).sum ≤ 8) (hdg : decode cc g.pc = .ok (.invokestatic index, 3)) (hf : cells + mc ≤ R.cells ∧ slots + ms ≤ R.slots) :
    vx_Run p l e R s m args below meth c H locs cells slots mc ms g rest (Qc As.toArray) XC free := by
  have hK : vx_Back l R p e below s args y 3 8 (PreOf R mc ms Pc) (PostOf Qc mc ms free) (vx_Post XC mc ms free) := vx_callBack cw.1 hM hp.1
  obtain ⟨⟨-, -, -, -, -, -, hcode, hini, hy, hlen, hl⟩, hstt⟩ := cw
  obtain ⟨hx, hb, hml, ho, -⟩ := S
  intro T hT X
  rcases vx_callS X hx (bytes := bytes) (maxL := maxL) (ret := ret) ho hl hstt hini hcode hy hK hg (hsize.trans hml.symm) (argsL := As) (rest := rest) (fun sig h => hn.trans (hlen sig h)) hstack hW (by rw [hb]; exact hdg)
    (fun vm₁ hW₁ => ⟨hf.1, hf.2, hp.2 (T.setVm vm₁) hT hW₁⟩) with ⟨v, vm₁, ⟨U', l2, c2, s2⟩, hW₁, X', ⟨g', mk, t, L, e1, e2, hq, h1, hL, h2, h3⟩, st⟩ | ⟨q, vm₁, ⟨U', l2, c2, s2⟩, hW₁, X', ⟨g', mk, t, L, E, ce, e1, e2, hq, hce, hcv, hcl, h1, hL, h2, h3⟩, st⟩
  · dsimp only [Pt.U, Pt.locs, Pt.cells, Pt.slots] at X' e1 e2 h1 h2 h3 st
    subst h1; subst h2; subst h3
    exact Or.inl ⟨v, (T.setVm vm₁).calling g' mk As.toArray, t, U', L, hT, X', hL, e1, e2, hq, st⟩
  · dsimp only [Pt.U, Pt.locs, Pt.cells, Pt.slots] at X' e1 e2 h1 h2 h3 st hcl
    subst h1; subst h2; subst h3
    exact Or.inr ⟨q, (T.setVm vm₁).calling g' mk As.toArray, t, U', L, E, ce, hT, X', hL, e1, e2, hq, hce, hcv, vx_cls hW₁ hcl, st⟩
end Runs
section Rows
variable {p : Program} {l : Launch} {e : Env} {R : Room} {s : State} {m : MethodId} {args : Array Value} {below : List Frame} {meth : Method} {c : Code} {H : Heap} {locs : List Loc} {cells slots : Nat} {Q : State → Prop}
variable {mc ms : Nat} {free : Addr → Prop} {A0 A1 : Nat → Prop} {H0 : Heap} {a : Array Value} {pc : Nat} {ls : Array Slot} {st0 rest : List Value}
theorem vx_keep {st₀ t T' : State} {L : List Loc} (h0 : st₀.heap = H) (e1 : T'.heap = t.heap) (hS : va_S A0 H0 H locs) (hA : ∀ q, q < H.size → A1 q → A0 q) (hf : ∀ q, free q → A0 q) (hL : ∀ q ∈ L, free q.base) (hF : va_F A1 st₀ t) :
    H.size ≤ T'.heap.size ∧ (∀ q : Nat, q < H.size → ¬ A1 q → T'.heap[q]? = H[q]?) ∧ va_S A0 H0 T'.heap (locs ++ L) := by
  obtain ⟨hz, hk⟩ := hF
  rw [h0] at hz hk
  exact ⟨by rw [e1]; exact hz, fun q h1 h2 => by rw [e1]; exact hk q h1 h2,
    ⟨Nat.le_trans hS.1 (by rw [e1]; exact hz), fun q h1 h2 => by rw [e1, hk q (Nat.lt_of_lt_of_le h1 hS.1) (fun z => h2 (hA q (Nat.lt_of_lt_of_le h1 hS.1) z))]; exact hS.2.1 q h1 h2, fun q hq => by
      rcases List.mem_append.mp hq with h | h
      · exact hS.2.2 q h
      · exact hf _ (hL q h)⟩⟩
theorem vx_calli {S SX : Type} {post : Int32 → S → Prop} {px : SX → Prop} {B : S → State → Prop} {BX : String → SX → State → Prop} {AX : Nat → Prop} (hr : vx_Run p l e R s m args below meth c H locs cells slots mc ms (F0 m pc ls st0) rest (va_Qi post B A1 a) (vx_X px BX AX) free) (hS : va_S A0 H0 H locs) (hA : ∀ q, q < H.size → A1 q → A0 q) (hf : ∀ q, free q → A0 q) (hAX : ∀ q, q < H.size → AX q → A0 q)
    (kx : ∀ (E : String) (ce : Cell) (q9 : Addr) (u : SX) (t : State) (H1 : Heap) (locs1 : List Loc), t.heap = H1 → s.vm.Alike t.vm → px u → BX E u t → H.size ≤ H1.size → (∀ q : Nat, q < H.size → ¬ AX q → H1[q]? = H[q]?) → va_S A0 H0 H1 locs1 → H1[q9]? = some ce → ce.vm = .none → s.vm.findClass E = some ce.cls → vx_W p l e R s m args below meth c H1 locs1 (cells + mc) (slots + ms) Q (F0 m pc ls rest) q9)
    (kk : ∀ (r : Int32) (u : S) (t : State) (H1 : Heap) (locs1 : List Loc), t.heap = H1 → s.vm.Alike t.vm → post r u → B u t → H.size ≤ H1.size → (∀ q : Nat, q < H.size → ¬ A1 q → H1[q]? = H[q]?) → va_S A0 H0 H1 locs1 → W p l e R s m args below meth c H1 locs1 (cells + mc) (slots + ms) Q (F0 m (pc + 3) ls (.int r :: rest))) : W p l e R s m args below meth c H locs cells slots Q (F0 m pc ls st0) := by
  intro T hT X
  rcases hr T hT X with ⟨v, st₀, t, T', L, h0, X', hL, e1, e2, ⟨⟨r, u, hv, hp, hb⟩, hF⟩, st⟩ | ⟨q, st₀, t, T', L, E, ce, h0, X', hL, e1, e2, ⟨u, hp, hb, hF⟩, hce, hcv, hcl, st⟩
  · cases hv
    obtain ⟨k1, k2, k3⟩ := vx_keep h0 e1 hS hA hf hL hF
    obtain ⟨t2, a1, b1⟩ := kk r u t T'.heap (locs ++ L) e1.symm (by rw [← e2]; exact X'.warmed.alike) hp hb k1 k2 k3 T' rfl X'
    exact ⟨t2, st t2 a1, b1⟩
  · obtain ⟨k1, k2, k3⟩ := vx_keep h0 e1 hS hAX hf hL hF
    obtain ⟨t2, a1, b1⟩ := kx E ce q u t T'.heap (locs ++ L) e1.symm (by rw [← e2]; exact X'.warmed.alike) hp hb k1 k2 k3 (by rw [e1]; exact hce) hcv hcl T' rfl X'
    exact ⟨t2, st.trans a1, b1⟩
theorem vx_calll {S SX : Type} {post : Int64 → S → Prop} {px : SX → Prop} {B : S → State → Prop} {BX : String → SX → State → Prop} {AX : Nat → Prop} (hr : vx_Run p l e R s m args below meth c H locs cells slots mc ms (F0 m pc ls st0) rest (va_Ql post B A1 a) (vx_X px BX AX) free) (hS : va_S A0 H0 H locs) (hA : ∀ q, q < H.size → A1 q → A0 q) (hf : ∀ q, free q → A0 q) (hAX : ∀ q, q < H.size → AX q → A0 q)
    (kx : ∀ (E : String) (ce : Cell) (q9 : Addr) (u : SX) (t : State) (H1 : Heap) (locs1 : List Loc), t.heap = H1 → s.vm.Alike t.vm → px u → BX E u t → H.size ≤ H1.size → (∀ q : Nat, q < H.size → ¬ AX q → H1[q]? = H[q]?) → va_S A0 H0 H1 locs1 → H1[q9]? = some ce → ce.vm = .none → s.vm.findClass E = some ce.cls → vx_W p l e R s m args below meth c H1 locs1 (cells + mc) (slots + ms) Q (F0 m pc ls rest) q9)
    (kk : ∀ (r : Int64) (u : S) (t : State) (H1 : Heap) (locs1 : List Loc), t.heap = H1 → s.vm.Alike t.vm → post r u → B u t → H.size ≤ H1.size → (∀ q : Nat, q < H.size → ¬ A1 q → H1[q]? = H[q]?) → va_S A0 H0 H1 locs1 → W p l e R s m args below meth c H1 locs1 (cells + mc) (slots + ms) Q (F0 m (pc + 3) ls (.long r :: rest))) : W p l e R s m args below meth c H locs cells slots Q (F0 m pc ls st0) := by
  intro T hT X
  rcases hr T hT X with ⟨v, st₀, t, T', L, h0, X', hL, e1, e2, ⟨⟨r, u, hv, hp, hb⟩, hF⟩, st⟩ | ⟨q, st₀, t, T', L, E, ce, h0, X', hL, e1, e2, ⟨u, hp, hb, hF⟩, hce, hcv, hcl, st⟩
  · cases hv
    obtain ⟨k1, k2, k3⟩ := vx_keep h0 e1 hS hA hf hL hF
    obtain ⟨t2, a1, b1⟩ := kk r u t T'.heap (locs ++ L) e1.symm (by rw [← e2]; exact X'.warmed.alike) hp hb k1 k2 k3 T' rfl X'
    exact ⟨t2, st t2 a1, b1⟩
  · obtain ⟨k1, k2, k3⟩ := vx_keep h0 e1 hS hAX hf hL hF
    obtain ⟨t2, a1, b1⟩ := kx E ce q u t T'.heap (locs ++ L) e1.symm (by rw [← e2]; exact X'.warmed.alike) hp hb k1 k2 k3 (by rw [e1]; exact hce) hcv hcl T' rfl X'
    exact ⟨t2, st.trans a1, b1⟩
theorem vx_callf {S SX : Type} {post : UInt32 → S → Prop} {px : SX → Prop} {B : S → State → Prop} {BX : String → SX → State → Prop} {AX : Nat → Prop} (hr : vx_Run p l e R s m args below meth c H locs cells slots mc ms (F0 m pc ls st0) rest (va_Qf post B A1 a) (vx_X px BX AX) free) (hS : va_S A0 H0 H locs) (hA : ∀ q, q < H.size → A1 q → A0 q) (hf : ∀ q, free q → A0 q) (hAX : ∀ q, q < H.size → AX q → A0 q)
    (kx : ∀ (E : String) (ce : Cell) (q9 : Addr) (u : SX) (t : State) (H1 : Heap) (locs1 : List Loc), t.heap = H1 → s.vm.Alike t.vm → px u → BX E u t → H.size ≤ H1.size → (∀ q : Nat, q < H.size → ¬ AX q → H1[q]? = H[q]?) → va_S A0 H0 H1 locs1 → H1[q9]? = some ce → ce.vm = .none → s.vm.findClass E = some ce.cls → vx_W p l e R s m args below meth c H1 locs1 (cells + mc) (slots + ms) Q (F0 m pc ls rest) q9)
    (kk : ∀ (r : UInt32) (u : S) (t : State) (H1 : Heap) (locs1 : List Loc), t.heap = H1 → s.vm.Alike t.vm → post r u → B u t → H.size ≤ H1.size → (∀ q : Nat, q < H.size → ¬ A1 q → H1[q]? = H[q]?) → va_S A0 H0 H1 locs1 → W p l e R s m args below meth c H1 locs1 (cells + mc) (slots + ms) Q (F0 m (pc + 3) ls (.float r :: rest))) : W p l e R s m args below meth c H locs cells slots Q (F0 m pc ls st0) := by
  intro T hT X
  rcases hr T hT X with ⟨v, st₀, t, T', L, h0, X', hL, e1, e2, ⟨⟨r, u, hv, hp, hb⟩, hF⟩, st⟩ | ⟨q, st₀, t, T', L, E, ce, h0, X', hL, e1, e2, ⟨u, hp, hb, hF⟩, hce, hcv, hcl, st⟩
  · cases hv
    obtain ⟨k1, k2, k3⟩ := vx_keep h0 e1 hS hA hf hL hF
    obtain ⟨t2, a1, b1⟩ := kk r u t T'.heap (locs ++ L) e1.symm (by rw [← e2]; exact X'.warmed.alike) hp hb k1 k2 k3 T' rfl X'
    exact ⟨t2, st t2 a1, b1⟩
  · obtain ⟨k1, k2, k3⟩ := vx_keep h0 e1 hS hAX hf hL hF
    obtain ⟨t2, a1, b1⟩ := kx E ce q u t T'.heap (locs ++ L) e1.symm (by rw [← e2]; exact X'.warmed.alike) hp hb k1 k2 k3 (by rw [e1]; exact hce) hcv hcl T' rfl X'
    exact ⟨t2, st.trans a1, b1⟩
theorem vx_calld {S SX : Type} {post : UInt64 → S → Prop} {px : SX → Prop} {B : S → State → Prop} {BX : String → SX → State → Prop} {AX : Nat → Prop} (hr : vx_Run p l e R s m args below meth c H locs cells slots mc ms (F0 m pc ls st0) rest (va_Qd post B A1 a) (vx_X px BX AX) free) (hS : va_S A0 H0 H locs) (hA : ∀ q, q < H.size → A1 q → A0 q) (hf : ∀ q, free q → A0 q) (hAX : ∀ q, q < H.size → AX q → A0 q)
    (kx : ∀ (E : String) (ce : Cell) (q9 : Addr) (u : SX) (t : State) (H1 : Heap) (locs1 : List Loc), t.heap = H1 → s.vm.Alike t.vm → px u → BX E u t → H.size ≤ H1.size → (∀ q : Nat, q < H.size → ¬ AX q → H1[q]? = H[q]?) → va_S A0 H0 H1 locs1 → H1[q9]? = some ce → ce.vm = .none → s.vm.findClass E = some ce.cls → vx_W p l e R s m args below meth c H1 locs1 (cells + mc) (slots + ms) Q (F0 m pc ls rest) q9)
    (kk : ∀ (r : UInt64) (u : S) (t : State) (H1 : Heap) (locs1 : List Loc), t.heap = H1 → s.vm.Alike t.vm → post r u → B u t → H.size ≤ H1.size → (∀ q : Nat, q < H.size → ¬ A1 q → H1[q]? = H[q]?) → va_S A0 H0 H1 locs1 → W p l e R s m args below meth c H1 locs1 (cells + mc) (slots + ms) Q (F0 m (pc + 3) ls (.double r :: rest))) : W p l e R s m args below meth c H locs cells slots Q (F0 m pc ls st0) := by
  intro T hT X
  rcases hr T hT X with ⟨v, st₀, t, T', L, h0, X', hL, e1, e2, ⟨⟨r, u, hv, hp, hb⟩, hF⟩, st⟩ | ⟨q, st₀, t, T', L, E, ce, h0, X', hL, e1, e2, ⟨u, hp, hb, hF⟩, hce, hcv, hcl, st⟩
  · cases hv
    obtain ⟨k1, k2, k3⟩ := vx_keep h0 e1 hS hA hf hL hF
    obtain ⟨t2, a1, b1⟩ := kk r u t T'.heap (locs ++ L) e1.symm (by rw [← e2]; exact X'.warmed.alike) hp hb k1 k2 k3 T' rfl X'
    exact ⟨t2, st t2 a1, b1⟩
  · obtain ⟨k1, k2, k3⟩ := vx_keep h0 e1 hS hAX hf hL hF
    obtain ⟨t2, a1, b1⟩ := kx E ce q u t T'.heap (locs ++ L) e1.symm (by rw [← e2]; exact X'.warmed.alike) hp hb k1 k2 k3 (by rw [e1]; exact hce) hcv hcl T' rfl X'
    exact ⟨t2, st.trans a1, b1⟩
theorem vx_callv {S SX : Type} {post : S → Prop} {px : SX → Prop} {B : S → State → Prop} {BX : String → SX → State → Prop} {AX : Nat → Prop} (hr : vx_Run p l e R s m args below meth c H locs cells slots mc ms (F0 m pc ls st0) rest (va_Qv post B A1 a) (vx_X px BX AX) free) (hS : va_S A0 H0 H locs) (hA : ∀ q, q < H.size → A1 q → A0 q) (hf : ∀ q, free q → A0 q) (hAX : ∀ q, q < H.size → AX q → A0 q)
    (kx : ∀ (E : String) (ce : Cell) (q9 : Addr) (u : SX) (t : State) (H1 : Heap) (locs1 : List Loc), t.heap = H1 → s.vm.Alike t.vm → px u → BX E u t → H.size ≤ H1.size → (∀ q : Nat, q < H.size → ¬ AX q → H1[q]? = H[q]?) → va_S A0 H0 H1 locs1 → H1[q9]? = some ce → ce.vm = .none → s.vm.findClass E = some ce.cls → vx_W p l e R s m args below meth c H1 locs1 (cells + mc) (slots + ms) Q (F0 m pc ls rest) q9)
    (kk : ∀ (u : S) (t : State) (H1 : Heap) (locs1 : List Loc), t.heap = H1 → s.vm.Alike t.vm → post u → B u t → H.size ≤ H1.size → (∀ q : Nat, q < H.size → ¬ A1 q → H1[q]? = H[q]?) → va_S A0 H0 H1 locs1 → W p l e R s m args below meth c H1 locs1 (cells + mc) (slots + ms) Q (F0 m (pc + 3) ls (rest))) : W p l e R s m args below meth c H locs cells slots Q (F0 m pc ls st0) := by
  intro T hT X
  rcases hr T hT X with ⟨v, st₀, t, T', L, h0, X', hL, e1, e2, ⟨⟨u, hv, hp, hb⟩, hF⟩, st⟩ | ⟨q, st₀, t, T', L, E, ce, h0, X', hL, e1, e2, ⟨u, hp, hb, hF⟩, hce, hcv, hcl, st⟩
  · cases hv
    obtain ⟨k1, k2, k3⟩ := vx_keep h0 e1 hS hA hf hL hF
    obtain ⟨t2, a1, b1⟩ := kk u t T'.heap (locs ++ L) e1.symm (by rw [← e2]; exact X'.warmed.alike) hp hb k1 k2 k3 T' rfl X'
    exact ⟨t2, st t2 a1, b1⟩
  · obtain ⟨k1, k2, k3⟩ := vx_keep h0 e1 hS hAX hf hL hF
    obtain ⟨t2, a1, b1⟩ := kx E ce q u t T'.heap (locs ++ L) e1.symm (by rw [← e2]; exact X'.warmed.alike) hp hb k1 k2 k3 (by rw [e1]; exact hce) hcv hcl T' rfl X'
    exact ⟨t2, st.trans a1, b1⟩
/-- caught by the row x of this method's table; the rows ahead don't take it -/
theorem vx_catch {own name : String} {E : String} {ce : Cell} {q : Addr} (hown : s.vm.findClass own = some m.cls) (pre : List ExceptionTableEntry) (x : ExceptionTableEntry) (suf : List ExceptionTableEntry) (hsplit : c.exceptionTable.toList = pre ++ x :: suf)
    (hpass : ∀ z ∈ pre, covers z pc = false ∨ (z.catchType ≠ 0 ∧ ∃ nm : String, (Cond.classLink own z.catchType nm).before args s = true ∧ va_Nc E nm s)) (hx : covers x pc = true) (h0 : x.catchType ≠ 0)
    (hlink : (Cond.classLink own x.catchType name).before args s = true) (hcast : (Cond.castable E name).before args s = true) (hcell : H[q]? = some ce) (hv : ce.vm = .none) (hcl : s.vm.findClass E = some ce.cls)
    (kk : W p l e R s m args below meth c H locs cells slots Q (F0 m x.handlerPc ls [.ref q])) : vx_W p l e R s m args below meth c H locs cells slots Q (F0 m pc ls rest) q := by
  intro T hT X
  have hpl : e.platform.magicAccessors = ({} : Platform).magicAccessors := by rw [X.admits.platform]
  obtain ⟨c3, c4, hc3, hc4, hasg⟩ := Cond.castable_spec hcast
  cases Option.some.inj (hc3.symm.trans hcl)
  obtain ⟨c5, hc5, hcl5⟩ := Cond.classLink_spec hown hlink e.platform hpl
  cases Option.some.inj (hc4.symm.trans hc5)
  obtain ⟨vm', X', st⟩ := X.thenCaughtThrough q (g := F0 m pc ls rest) rfl (Steps.refl _) (by rw [hT]; exact hcell) (by rw [hv]; rfl) (by obtain ⟨k9, h9, -⟩ := Vm.findClass_spec hcl; exact ⟨k9, h9⟩) pre x suf hsplit
    (fun z hz => by
      rcases hpass z hz with h | ⟨hz0, nm, hl1, hn1⟩
      · exact Or.inl h
      · obtain ⟨c6, hc6, hcl6⟩ := Cond.classLink_spec hown hl1 e.platform hpl
        obtain ⟨a8, b8, h1, h2, h3⟩ := hn1
        cases Option.some.inj (h1.symm.trans hcl)
        cases Option.some.inj (h2.symm.trans hc6)
        exact Or.inr ⟨hz0, _, hcl6, h3⟩) hx (Or.inr ⟨h0, c4, hcl5, hasg⟩)
  obtain ⟨t, a1, b1⟩ := kk (T.setVm vm') hT X'
  exact ⟨t, st.trans a1, b1⟩
end Rows
section Ends
variable {p : Program} {l : Launch} {e : Env} {R : Room} {s : State} {m : MethodId} {args : Array Value} {below : List Frame} {meth : Method} {c : Code} {H : Heap} {locs : List Loc} {cells slots : Nat} {Q : State → Prop}
variable {mc ms : Nat} {free : Addr → Prop} {A0 A1 : Nat → Prop} {H0 : Heap} {a : Array Value} {ls : Array Slot} {st0 rest : List Value}
variable {Qc : Array Value → State → Outcome → State → Prop} {XC : String → State → State → Prop}
/-- what a body that may throw owes at its end -/
def vx_MQ (below : List Frame) (Qc : Array Value → State → Outcome → State → Prop) (XC : String → State → State → Prop) (a : Array Value) (s : State) (mc ms : Nat) (free : Addr → Prop) : State → Prop := fun t =>
  ∃ o, t.status = .running ∧ Ended t below o ∧ vx_Q Qc XC mc ms free a s o t
theorem vx_ret {g : JFrame} {mc ms : Nat} (k : W p l e R s m args below meth c H locs cells slots (MQ below Qc args s mc ms free) g) : W p l e R s m args below meth c H locs cells slots (vx_MQ below Qc XC args s mc ms free) g := by
  intro T hT X
  obtain ⟨t, a1, o, b1, b2, b3, b4⟩ := k T hT X
  exact ⟨t, a1, o, b1, b2, Or.inl ⟨b3, b4⟩⟩
/-- not caught here: it goes on to the caller -/
theorem vx_widen {g : JFrame} {q : Addr} {k n : Nat} (h1 : cells ≤ k) (h2 : slots ≤ n) (kk : vx_W p l e R s m args below meth c H locs k n Q g q) : vx_W p l e R s m args below meth c H locs cells slots Q g q := fun T hT X => kk T hT (stand_widen X h1 h2)
theorem vx_out {pc : Nat} {E : String} {ce : Cell} {q : Addr} {mc ms : Nat} (hout : ∀ x ∈ c.exceptionTable.toList, covers x pc = false) (hlocks : meth.locks = false) (hcell : H[q]? = some ce) (hv : ce.vm = .none) (hcl : s.vm.findClass E = some ce.cls)
    (hx : ∀ t : State, t.heap = H → s.vm.Alike t.vm → XC E s t) (hf : ∀ z ∈ locs, free z.base) (hc : cells ≤ mc) (hs : slots ≤ ms) :
    vx_W p l e R s m args below meth c H locs cells slots (vx_MQ below Qc XC args s mc ms free) (F0 m pc ls rest) q := by
  intro T hT X
  obtain ⟨st1, hrun, hend, hW, hsm⟩ := X.leaveThrown q (g := F0 m pc ls rest) rfl rfl rfl hout hlocks
  have hcell9 : (T.setFrames (.throwing q :: below)).heap[q]? = some ce := by
    show T.heap[q]? = some ce
    rw [hT]; exact hcell
  exact ⟨_, st1, .threw q, hrun, hend, Or.inr ⟨q, rfl, E, ce, locs, hx _ hT hW.alike, hcell9, hv, hcl, hW, hsm.mono hc hs, hf⟩⟩
theorem vx_frame {U : State} {k n : Nat} (h : s.sameButNew ({ U with vm := s.vm } : State) locs k n) : s.heap.size ≤ U.heap.size ∧ ∀ q : Nat, q < s.heap.size → (∀ z ∈ locs, z.base ≠ q) → U.heap[q]? = s.heap[q]? := by
  obtain ⟨-, h2, -, -, -, h6⟩ := h
  refine ⟨h2, fun q hq hz => ?_⟩
  obtain ⟨c9, e1, e2, e3, e4⟩ := h6 q _ (Array.getElem?_eq_getElem hq)
  have hs : c9.slots = (s.heap[q]).slots := Array.ext_getElem? fun i => e4 i fun hm => hz _ hm rfl
  have h9 : c9 = s.heap[q] := by
    rw [hs] at e2
    exact e2
  have e5 : U.heap[q]? = some c9 := e1
  rw [e5, h9, Array.getElem?_eq_getElem hq]
/-- the words of a throw but the four that speak of the heap -/
def vx_no (w : Cond) : Bool := decide (w ≠ .isRef (.static Bundle.tN "UNASSIGNED_STACK" Bundle.steD)) && decide (w ≠ .isRef (.static Bundle.tN "SUPPRESSED_SENTINEL" Bundle.listD)) && decide (w ≠ .laysStatic Bundle.tN "UNASSIGNED_STACK" Bundle.steD) && decide (w ≠ .laysStatic Bundle.tN "SUPPRESSED_SENTINEL" Bundle.listD)
def vx_at0 (own : String) (ic : Nat) (X : String) (names : List String) : List Cond := (Bundle.ownAtoms0 own ic X names).filter vx_no
def vx_atS (own : String) (ic : Nat) (X : String) (names : List String) : List Cond := (Bundle.ownAtoms own ic X names).filter vx_no
/-- a word that the tables alone decide, or a good one -/
def vx_ot (w : Cond) : Bool := w.onTables || goodWord w
theorem vx_ot_at {args a' : Array Value} {s U : State} {w : Cond} (hW : s.WarmedH U.vm) (hvm : s.vm = U.vm) (hg : vx_ot w = true) (h : w.before args s = true) : w.before a' U = true := by
  simp only [vx_ot, Bool.or_eq_true] at hg
  rcases hg with hg | hg
  · exact va_tabs hg hvm h
  · exact word_at hW (good_of_word hg) h
/-- a list's words: the good ones out of the method's own list, the others by premises of their own -/
theorem vx_hat {args : Array Value} {s : State} {L B : List Cond} (h1 : ∀ w ∈ L.filter goodWord, w.before args s = true) (h2 : ∀ w ∈ L.filter (fun w => !goodWord w), w ∈ B) (h3 : ∀ w ∈ B, w.before args s = true) : ∀ w ∈ L, w.before args s = true := by
  intro w hw
  by_cases g : goodWord w = true
  · exact h1 w (List.mem_filter.mpr ⟨hw, g⟩)
  · refine h3 w (h2 w (List.mem_filter.mpr ⟨hw, ?_⟩))
    show (!goodWord w) = true
    cases hgw : goodWord w
    · rfl
    · exact absurd hgw g
theorem vx_c {args : Array Value} {s : State} {w : Cond} {B : List Cond} (h : w.before args s = true) (t : ∀ w ∈ B, w.before args s = true) : ∀ w' ∈ w :: B, w'.before args s = true := fun w' h' => (List.mem_cons.mp h').elim (fun e => by rw [e]; exact h) (t w')
theorem vx_n {args : Array Value} {s : State} : ∀ w ∈ ([] : List Cond), w.before args s = true := fun _ h => nomatch h
theorem vx_own {args : Array Value} {s : State} {L : List Cond} (h1 : ∀ w ∈ L.filter vx_no, w.before args s = true)
    (hU : (Cond.isRef (.static Bundle.tN "UNASSIGNED_STACK" Bundle.steD)).before args s = true) (hN : (Cond.isRef (.static Bundle.tN "SUPPRESSED_SENTINEL" Bundle.listD)).before args s = true)
    (lU : (Cond.laysStatic Bundle.tN "UNASSIGNED_STACK" Bundle.steD).before args s = true) (lN : (Cond.laysStatic Bundle.tN "SUPPRESSED_SENTINEL" Bundle.listD).before args s = true) : ∀ w ∈ L, w.before args s = true := by
  intro w hw
  by_cases e1 : w = .isRef (.static Bundle.tN "UNASSIGNED_STACK" Bundle.steD)
  · rw [e1]; exact hU
  · by_cases e2 : w = .isRef (.static Bundle.tN "SUPPRESSED_SENTINEL" Bundle.listD)
    · rw [e2]; exact hN
    · by_cases e3 : w = .laysStatic Bundle.tN "UNASSIGNED_STACK" Bundle.steD
      · rw [e3]; exact lU
      · by_cases e4 : w = .laysStatic Bundle.tN "SUPPRESSED_SENTINEL" Bundle.listD
        · rw [e4]; exact lN
        · exact h1 w (List.mem_filter.mpr ⟨hw, by unfold vx_no; rw [decide_eq_true e1, decide_eq_true e2, decide_eq_true e3, decide_eq_true e4]; rfl⟩)
/-- where a static field lies, its class's statics cell in H -/
def vx_L (C n d : String) (A : Nat → Prop) (U : State) (H : Heap) : Prop := ∃ (c : ClassId) (k : Class) (i : Nat) (f : Field) (a : Nat) (cell : Cell), U.vm.findClass C = some c ∧ U.fieldFound? C n d = some (c, k, i, f) ∧ f.isStatic = true ∧ k.statics = some a ∧ H[a]? = some cell ∧ cell.vm.isStatics = true ∧ cell.cls = c ∧ f.slot < cell.slots.size ∧ k.staticTypes[f.slot]? = some f.type ∧ ¬ A a
theorem vx_L.moved {C n d : String} {A : Nat → Prop} {u U : State} {H : Heap} (hvm : u.vm.Alike U.vm) (h : vx_L C n d A u H) : vx_L C n d A U H := by
  obtain ⟨c, k, i, f, a, cell, h1, h2, h3, h4, h5, h6, h7, h8, h9, h10⟩ := h
  obtain ⟨k', hi', he⟩ := State.fieldFound?_setVm hvm h2
  exact ⟨c, k', i, f, a, cell, by rw [hvm.findClass]; exact h1, hi', h3, by rw [he]; exact h4, h5, h6, h7, h8, by rw [he]; exact h9, h10⟩
theorem vx_L.kept {C n d : String} {A : Nat → Prop} {U : State} {H H1 : Heap} (h : vx_L C n d A U H) (hq : ∀ a : Nat, a < H.size → ¬ A a → H1[a]? = H[a]?) : vx_L C n d A U H1 := by
  obtain ⟨c, k, i, f, a, cell, h1, h2, h3, h4, h5, h6, h7, h8, h9, h10⟩ := h
  exact ⟨c, k, i, f, a, cell, h1, h2, h3, h4, by rw [hq a (Array.getElem?_eq_some_iff.mp h5).1 h10]; exact h5, h6, h7, h8, h9, h10⟩
theorem vx_L.narrow {C n d : String} {A B : Nat → Prop} {U : State} {H : Heap} (h : vx_L C n d A U H) (hAB : ∀ q, B q → A q) : vx_L C n d B U H := by
  obtain ⟨c, k, i, f, a, cell, h1, h2, h3, h4, h5, h6, h7, h8, h9, h10⟩ := h
  exact ⟨c, k, i, f, a, cell, h1, h2, h3, h4, h5, h6, h7, h8, h9, fun z => h10 (hAB _ z)⟩
theorem vx_L.word {C n d : String} {A : Nat → Prop} {s : State} {args : Array Value} (h : vx_L C n d A s s.heap) : (Cond.laysStatic C n d).before args s = true := by
  obtain ⟨c, k, i, f, a, cell, h1, h2, h3, h4, h5, h6, h7, h8, h9, -⟩ := h
  show (Cond.laysStatic C n d).holds args s none s [] = true
  exact Cond.laysStatic_of h1 h2 h3 h4 h5 h6 h7 h8 h9
/-- .. and what it holds: null or some reference -/
def vx_Zq (C n d : String) (A : Nat → Prop) (U : State) (H : Heap) : Prop := va_Zq C n d A U H ∧ vx_L C n d A U H
theorem vx_Zq.moved {C n d : String} {A : Nat → Prop} {u U : State} {H : Heap} (hvm : u.vm.Alike U.vm) (h : vx_Zq C n d A u H) : vx_Zq C n d A U H := ⟨va_Zq.moved hvm h.1, vx_L.moved hvm h.2⟩
theorem vx_Zq.kept {C n d : String} {A : Nat → Prop} {U : State} {H H1 : Heap} (h : vx_Zq C n d A U H) (hq : ∀ a : Nat, a < H.size → ¬ A a → H1[a]? = H[a]?) : vx_Zq C n d A U H1 := ⟨va_Zq.kept h.1 hq, vx_L.kept h.2 hq⟩
theorem vx_Zq.narrow {C n d : String} {A B : Nat → Prop} {U : State} {H : Heap} (h : vx_Zq C n d A U H) (hAB : ∀ q, B q → A q) : vx_Zq C n d B U H := ⟨va_Zq.narrow h.1 hAB, vx_L.narrow h.2 hAB⟩
theorem vx_Zqof {args : Array Value} {s : State} {C n d : String} {A : Nat → Prop} (hl : (Cond.laysStatic C n d).before args s = true) (hini : (Cond.initialized C).before args s = true) (h : (Cond.isRef (.static C n d)).before args s = true) (hA : ∀ a : Nat, a < s.heap.size → ¬ A a) : vx_Zq C n d A s s.heap := by
  refine ⟨va_Zqof hl hini h hA, ?_⟩
  obtain ⟨c, k, i, f, a, cell, h1, h2, h3, h4, h5, h6, h7, h8, h9⟩ := Cond.laysStatic_spec hl
  exact ⟨c, k, i, f, a, cell, h1, h2, h3, h4, h5, h6, h7, h8, h9, hA a (Array.getElem?_eq_some_iff.mp h5).1⟩
theorem vx_isRef {C n d : String} {v : Value} {A : Nat → Prop} {s : State} {args : Array Value} (h : va_Z C n d v A s s.heap) (hv : v.isRef = true) : (Cond.isRef (.static C n d)).before args s = true := by
  obtain ⟨cf, kf, fi, f, a, cell, h1, h2, h3, h4, h5, h6, h7, -⟩ := h
  have he : (Term.static C n d).eval args s none [] s = some v := by
    simp [Term.eval, State.fieldNamed?, h1, h2, h4, h5, h6, h7]
  simp only [Cond.before, Cond.holds, Cond.value, he]
  cases v <;> simp_all [Value.isRef]
theorem vx_isRefq {C n d : String} {A : Nat → Prop} {s : State} {args : Array Value} (h : va_Zq C n d A s s.heap) : (Cond.isRef (.static C n d)).before args s = true := by
  rcases h with h | ⟨t, h⟩
  · exact vx_isRef h rfl
  · exact vx_isRef h rfl
/-- the same frame, seen from here: as if the method were called anew in this heap -/
theorem vx_rebase {T : State} (X : Stand p l e R s m args below meth c T locs cells slots) {R' : Room} (hf : R'.frames ≤ R.frames) (hl : R'.locals ≤ R.locals) (hc : cells + R'.cells ≤ R.cells) (hs : slots + R'.slots ≤ R.slots) :
    Stand p l e R' ((T.setVm s.vm).setFrames (.invoking m args :: below)) m args below meth c T [] 0 0 := by
  have htop : (T.setVm s.vm).topJava?.isSome := X.here.top
  have hF : ((T.setVm s.vm).setFrames (.invoking m args :: below)).frames = .invoking m args :: below := State.frames_setFrames _ (State.cur_lt_of_top htop)
  obtain ⟨g₀, hg0⟩ := Option.isSome_iff_exists.mp htop
  obtain ⟨r, hr⟩ := State.topJava?_eq_some.mp hg0
  have hl9 : e.platform.stackLimits (T.setVm s.vm).me = e.platform.stackLimits s.me := X.limits
  have hb9 : (T.setVm s.vm).me.stackBytes = s.me.stackBytes := X.bytes
  refine ⟨X.admits, X.cas, X.clock, hF, ?_, X.hears, X.method, X.code, X.here, X.tail, X.warmed, ?_, ?_, ?_⟩
  · have h := X.room
    have hU : ((T.setVm s.vm).setFrames (.invoking m args :: below)).localsInUse = s.localsInUse := by
      rw [State.localsInUse_invoking hF (meth := meth) (c := c) X.method X.code, State.localsInUse_invoking X.frames X.method X.code]
    simp only [State.hasRoom, Bool.and_eq_true, decide_eq_true_eq] at h ⊢
    obtain ⟨⟨⟨⟨h1, h2, h3, h4, h5, h6⟩, h7⟩, h8⟩, h9⟩ := h
    rw [X.frames, List.length_cons] at h2 h3
    have q1 := X.heapSize
    have q2 := X.used
    simp only [hF, hU, List.length_cons, State.stackLimits_setFrames, State.stackBytes_setFrames, hl9, hb9]
    refine ⟨⟨⟨⟨by omega, by omega, by omega, by omega, by omega, h6⟩, ?_⟩, ?_⟩, X.book⟩
    · show T.heap.size + R'.cells ≤ e.platform.maxCells
      omega
    · show T.slotsUsed + R'.slots ≤ e.platform.maxSlots
      omega
  · rw [State.stackLimits_setFrames]; rfl
  · rw [State.stackBytes_setFrames]; rfl
  · refine ⟨?_, Nat.le_refl _, Nat.le_refl _, ?_, ?_, fun a c9 h9 => ⟨c9, h9, rfl, rfl, fun _ _ => rfl⟩⟩
    · obtain ⟨t, ht, -⟩ := State.frames_cons hr
      show T.setVm s.vm = { ((T.setVm s.vm).setFrames (.invoking m args :: below)).setFrames (T.setVm s.vm).frames with heap := T.heap, slotsUsed := T.slotsUsed }
      rw [State.setFrames_setFrames, State.setFrames_self ht]
      rfl
    · show T.slotsUsed = T.slotsUsed + ((T.heap.toList.drop T.heap.size).map (·.slots.size)).sum
      rw [List.drop_eq_nil_of_le (Nat.le_of_eq Array.length_toList)]
      rfl
    · show ((T.heap.toList.drop T.heap.size).map (·.slots.size)).sum ≤ 0
      rw [List.drop_eq_nil_of_le (Nat.le_of_eq Array.length_toList)]
      exact Nat.le_refl _
/-- 'throw new E()': new; dup; invokespecial; athrow -/
theorem vx_throw0 {cc : ByteArray} {pc : Nat} (hexec : p.tables.exec = Jvm.exec) (hb : c.code = cc) (hl : l.stackTraces = false) {own cls : String} {names : List String} {ik ic mc ms : Nat} {A : Nat → Prop}
    (hown : s.vm.findClass own = some m.cls) (hcls : Bundle.fit cls = true) (hnames : ∀ n ∈ names, Bundle.fit n = true)
    (hk : (Cond.classLink own ik cls).before args s = true) (hini : (Cond.initialized cls).before args s = true) (hat : ∀ w ∈ vx_at0 own ic cls names, w.before args s = true)
    (hgood : ∀ w ∈ Cond.classLink own ik cls :: Cond.initialized cls :: vx_at0 own ic cls names, vx_ot w = true)
    (hU : vx_Zq Bundle.tN "UNASSIGNED_STACK" Bundle.steD A s s.heap) (hN : vx_Zq Bundle.tN "SUPPRESSED_SENTINEL" Bundle.listD A s s.heap) (hS : va_S A s.heap H locs) (hsize : ls.size = c.maxLocals)
    (d0 : decode cc pc = .ok (.new ik, 3)) (d3 : decode cc (pc + 3) = .ok (.dup, 1)) (d4 : decode cc (pc + 4) = .ok (.invokespecial ic, 3)) (d7 : decode cc (pc + 7) = .ok (.athrow, 1))
    (hout : ∀ x ∈ c.exceptionTable.toList, covers x (pc + 7) = false)
    (hRframes : names.length + 3 < R.frames) (hRlocals : (rest.map fun v => v.category).sum + (13 * (names.length + 1) + 42) ≤ R.locals) (hRcells : cells + 1 ≤ R.cells) (hRslots : slots + 6 ≤ R.slots) (hlocks : meth.locks = false)
    (hx : ∀ t : State, s.vm.Alike t.vm → H.size ≤ t.heap.size → (∀ q : Nat, q < H.size → t.heap[q]? = H[q]?) → XC cls s t)
    (hf : ∀ z ∈ locs, free z.base) (hc : cells + 1 ≤ mc) (hs : slots + 6 ≤ ms) :
    W p l e R s m args below meth c H locs cells slots (vx_MQ below Qc XC args s mc ms free) (F0 m pc ls rest) := by
  intro T hT X
  have htr : e.platform.stackTraces = false := (show e.platform.stackTraces = l.stackTraces by rw [X.admits.platform]).trans hl
  have Y := vx_rebase X (R' := { frames := R.frames, locals := R.locals, cells := 1, slots := 6 }) (Nat.le_refl _) (Nat.le_refl _) hRcells hRslots
  obtain ⟨s', hA⟩ : ∃ z, z = (T.setVm s.vm).setFrames (.invoking m args :: below) := ⟨_, rfl⟩
  rw [← hA] at Y
  have hvm : s'.vm = s.vm := by rw [hA]; rfl
  have hhp : s'.heap = H := by rw [hA]; exact hT
  have hW0 : s.WarmedH s'.vm := by rw [hvm]; exact State.WarmedH.refl s
  have hat' : ∀ w ∈ vx_at0 own ic cls names, w.before args s' = true := fun w hw => vx_ot_at hW0 hvm.symm (hgood w (List.mem_cons_of_mem _ (List.mem_cons_of_mem _ hw))) (hat w hw)
  have hk' : (Cond.classLink own ik cls).before args s' = true := vx_ot_at hW0 hvm.symm (hgood _ List.mem_cons_self) hk
  have hini' : (Cond.initialized cls).before args s' = true := vx_ot_at hW0 hvm.symm (hgood _ (List.mem_cons_of_mem _ List.mem_cons_self)) hini
  have hU' : vx_Zq Bundle.tN "UNASSIGNED_STACK" Bundle.steD A s' s'.heap := by rw [hhp]; exact vx_Zq.moved hW0.alike (hU.kept hS.2.1)
  have hN' : vx_Zq Bundle.tN "SUPPRESSED_SENTINEL" Bundle.listD A s' s'.heap := by rw [hhp]; exact vx_Zq.moved hW0.alike (hN.kept hS.2.1)
  have h : ∀ w ∈ Bundle.ownAtoms0 own ic cls names, w.before args s' = true := vx_own hat' (vx_isRefq hU'.1) (vx_isRefq hN'.1) hU'.2.word hN'.2.word
  have hown' : s'.vm.findClass own = some m.cls := by rw [hvm]; exact hown
  have hins : (Cond.instantiable cls 6).before args s' = true := h _ (by simp [Bundle.ownAtoms0])
  obtain ⟨vm₁, cX, kX, hfX, hkX, -, -, X₁, st1⟩ := Y.newCold hexec (own := own) (C := cls) (index := ik) (n := 6) hown' hk' hins hini'
    (g := F0 m pc ls rest) rfl (by rw [hb]; exact d0) (Nat.le_refl _) (Nat.le_refl _)
  generalize hT1 : (T.setVm vm₁).pushCell { cls := cX, slots := kX.instanceTypes.map defaultValue, vm := .none } = T1 at X₁ st1
  have hcat : (Value.ref T.heap.size).category = 1 := rfl
  have hcellA : T1.heap[T.heap.size]? = some (freshCell cX kX) := by rw [← hT1]; exact State.heap_pushCell_size _ _
  have d3' : decode c.code (pc + 3) = .ok (.dup, 1) := by rw [hb]; exact d3
  obtain ⟨U, hsteps, hrun, hend, hW, hsame, ce, hce, hO⟩ := X₁.ctorThrow0 hexec htr (own := own) (cls := cls) (names := names) (ic := ic) hown' hcls hnames h (fun x hx => nomatch hx) hfX hkX hcellA (by rw [hhp, hT]; exact Nat.le_refl _)
    (g := { method := m, pc := pc + 4, locals := ls, stack := .ref T.heap.size :: .ref T.heap.size :: rest, locked := none }) rfl hsize rfl rfl (rest := rest) rfl
    (by rw [hb]; exact d4) (by rw [hb]; exact d7) hout hRframes (by simp only [List.map_cons, List.sum_cons, hcat]; omega) hlocks
  obtain ⟨f1, f2⟩ := vx_frame hsame
  rw [hhp] at f1 f2
  have hWs : s.WarmedH U.vm := State.WarmedH.trans hW0 hW
  have hcl : s.vm.findClass cls = some ce.cls := by
    have h9 := hO.cls
    rw [hvm] at h9
    exact h9
  have hall : s.sameButNew ({ U with vm := s.vm } : State) locs mc ms := by
    subst hA
    obtain ⟨e1, e2⟩ := hsame
    rw [State.setFrames_setFrames] at e1
    have h2 : (T.setVm s.vm).sameButNew ({ U with vm := s.vm } : State) [] (0 + 1) (0 + 6) := ⟨e1, e2⟩
    have h3 := X.same.trans h2
    rw [List.append_nil] at h3
    exact h3.mono hc hs
  refine ⟨U, ?_, .threw T.heap.size, hrun, hend, Or.inr ⟨T.heap.size, rfl, cls, ce, locs, hx U hWs.alike f1 (fun q hq => f2 q hq (fun z hz => nomatch hz)), hce, hO.vm, hcl, hWs, hall, hf⟩⟩
  refine st1 _ ?_
  show Steps p.tables e below (T1.setTop { method := m, pc := pc + 3, locals := ls, stack := .ref T.heap.size :: rest, locked := none }) _
  jvm_step X₁.here [X₁.here.top, hexec, d3', Value.category]
  exact hsteps
/-- 'throw new E("text")': new; dup; ldc; invokespecial; athrow -/
theorem vx_throwS {cc : ByteArray} {pc : Nat} (hexec : p.tables.exec = Jvm.exec) (hb : c.code = cc) (hl : l.stackTraces = false) {own cls text : String} {names : List String} {ik is ic mc ms sa : Nat} {A : Nat → Prop}
    (hown : s.vm.findClass own = some m.cls) (hcls : Bundle.fit cls = true) (hnames : ∀ n ∈ names, Bundle.fit n = true)
    (hk : (Cond.classLink own ik cls).before args s = true) (hini : (Cond.initialized cls).before args s = true) (hstr : vk_R own is text sa s) (hat : ∀ w ∈ vx_atS own ic cls names, w.before args s = true)
    (hgood : ∀ w ∈ Cond.classLink own ik cls :: Cond.initialized cls :: vx_atS own ic cls names, vx_ot w = true)
    (hU : vx_Zq Bundle.tN "UNASSIGNED_STACK" Bundle.steD A s s.heap) (hN : vx_Zq Bundle.tN "SUPPRESSED_SENTINEL" Bundle.listD A s s.heap) (hS : va_S A s.heap H locs) (hsize : ls.size = c.maxLocals)
    (d0 : decode cc pc = .ok (.new ik, 3)) (d3 : decode cc (pc + 3) = .ok (.dup, 1)) (d4 : decode cc (pc + 4) = .ok (.ldc is, 2)) (d6 : decode cc (pc + 6) = .ok (.invokespecial ic, 3)) (d9 : decode cc (pc + 9) = .ok (.athrow, 1))
    (hout : ∀ x ∈ c.exceptionTable.toList, covers x (pc + 9) = false)
    (hRframes : names.length + 3 < R.frames) (hRlocals : (rest.map fun v => v.category).sum + (13 * (names.length + 1) + 43) ≤ R.locals) (hRcells : cells + 1 ≤ R.cells) (hRslots : slots + 6 ≤ R.slots) (hlocks : meth.locks = false)
    (hx : ∀ t : State, s.vm.Alike t.vm → H.size ≤ t.heap.size → (∀ q : Nat, q < H.size → t.heap[q]? = H[q]?) → XC cls s t)
    (hf : ∀ z ∈ locs, free z.base) (hc : cells + 1 ≤ mc) (hs : slots + 6 ≤ ms) :
    W p l e R s m args below meth c H locs cells slots (vx_MQ below Qc XC args s mc ms free) (F0 m pc ls rest) := by
  intro T hT X
  have htr : e.platform.stackTraces = false := (show e.platform.stackTraces = l.stackTraces by rw [X.admits.platform]).trans hl
  have Y := vx_rebase X (R' := { frames := R.frames, locals := R.locals, cells := 1, slots := 6 }) (Nat.le_refl _) (Nat.le_refl _) hRcells hRslots
  obtain ⟨s', hA⟩ : ∃ z, z = (T.setVm s.vm).setFrames (.invoking m args :: below) := ⟨_, rfl⟩
  rw [← hA] at Y
  have hvm : s'.vm = s.vm := by rw [hA]; rfl
  have hhp : s'.heap = H := by rw [hA]; exact hT
  have hW0 : s.WarmedH s'.vm := by rw [hvm]; exact State.WarmedH.refl s
  have hat' : ∀ w ∈ vx_atS own ic cls names, w.before args s' = true := fun w hw => vx_ot_at hW0 hvm.symm (hgood w (List.mem_cons_of_mem _ (List.mem_cons_of_mem _ hw))) (hat w hw)
  have hk' : (Cond.classLink own ik cls).before args s' = true := vx_ot_at hW0 hvm.symm (hgood _ List.mem_cons_self) hk
  have hini' : (Cond.initialized cls).before args s' = true := vx_ot_at hW0 hvm.symm (hgood _ (List.mem_cons_of_mem _ List.mem_cons_self)) hini
  have hU' : vx_Zq Bundle.tN "UNASSIGNED_STACK" Bundle.steD A s' s'.heap := by rw [hhp]; exact vx_Zq.moved hW0.alike (hU.kept hS.2.1)
  have hN' : vx_Zq Bundle.tN "SUPPRESSED_SENTINEL" Bundle.listD A s' s'.heap := by rw [hhp]; exact vx_Zq.moved hW0.alike (hN.kept hS.2.1)
  have h : ∀ w ∈ Bundle.ownAtoms own ic cls names, w.before args s' = true := vx_own hat' (vx_isRefq hU'.1) (vx_isRefq hN'.1) hU'.2.word hN'.2.word
  have hown' : s'.vm.findClass own = some m.cls := by rw [hvm]; exact hown
  have hins : (Cond.instantiable cls 6).before args s' = true := h _ (by simp [Bundle.ownAtoms])
  obtain ⟨vm₁, cX, kX, hfX, hkX, -, -, X₁, st1⟩ := Y.newCold hexec (own := own) (C := cls) (index := ik) (n := 6) hown' hk' hins hini'
    (g := F0 m pc ls rest) rfl (by rw [hb]; exact d0) (Nat.le_refl _) (Nat.le_refl _)
  generalize hT1 : (T.setVm vm₁).pushCell { cls := cX, slots := kX.instanceTypes.map defaultValue, vm := .none } = T1 at X₁ st1
  have hcat : (Value.ref T.heap.size).category = 1 := rfl
  have hcellA : T1.heap[T.heap.size]? = some (freshCell cX kX) := by rw [← hT1]; exact State.heap_pushCell_size _ _
  have d3' : decode c.code (pc + 3) = .ok (.dup, 1) := by rw [hb]; exact d3
  have d4' : decode c.code (pc + 4) = .ok (.ldc is, 2) := by rw [hb]; exact d4
  have hstr' : vk_R own is text sa s' := vk_R.warm hW0 hstr
  obtain ⟨U, hsteps, hrun, hend, hW, hsame, ce, hce, hO⟩ := X₁.ctorThrowS hexec htr (own := own) (cls := cls) (names := names) (ic := ic) hown' hcls hnames h (fun x hx => nomatch hx) hfX hkX hcellA (by rw [hhp, hT]; exact Nat.le_refl _) (msg := .ref sa) rfl
    (g := { method := m, pc := pc + 6, locals := ls, stack := .ref sa :: .ref T.heap.size :: .ref T.heap.size :: rest, locked := none }) rfl hsize rfl rfl (rest := rest) rfl
    (by rw [hb]; exact d6) (by rw [hb]; exact d9) hout hRframes (by simp only [List.map_cons, List.sum_cons, hcat]; omega) hlocks
  obtain ⟨f1, f2⟩ := vx_frame hsame
  rw [hhp] at f1 f2
  have hWs : s.WarmedH U.vm := State.WarmedH.trans hW0 hW
  have hcl : s.vm.findClass cls = some ce.cls := by
    have h9 := hO.cls
    rw [hvm] at h9
    exact h9
  have hall : s.sameButNew ({ U with vm := s.vm } : State) locs mc ms := by
    subst hA
    obtain ⟨e1, e2⟩ := hsame
    rw [State.setFrames_setFrames] at e1
    have h2 : (T.setVm s.vm).sameButNew ({ U with vm := s.vm } : State) [] (0 + 1) (0 + 6) := ⟨e1, e2⟩
    have h3 := X.same.trans h2
    rw [List.append_nil] at h3
    exact h3.mono hc hs
  refine ⟨U, ?_, .threw T.heap.size, hrun, hend, Or.inr ⟨T.heap.size, rfl, cls, ce, locs, hx U hWs.alike f1 (fun q hq => f2 q hq (fun z hz => nomatch hz)), hce, hO.vm, hcl, hWs, hall, hf⟩⟩
  refine st1 _ ?_
  show Steps p.tables e below (T1.setTop { method := m, pc := pc + 3, locals := ls, stack := .ref T.heap.size :: rest, locked := none }) _
  jvm_step X₁.here [X₁.here.top, hexec, d3', Value.category]
  exact X₁.ldcString hexec (own := own) (text := text) (index := is) (a := sa) hown' hstr'.1 hstr'.2
    (g := { method := m, pc := pc + 4, locals := ls, stack := .ref T.heap.size :: .ref T.heap.size :: rest, locked := none }) rfl d4' _ hsteps
/-- 'throw new E("text")', the text by a wide index -/
theorem vx_throwSW {cc : ByteArray} {pc : Nat} (hexec : p.tables.exec = Jvm.exec) (hb : c.code = cc) (hl : l.stackTraces = false) {own cls text : String} {names : List String} {ik is ic mc ms sa : Nat} {A : Nat → Prop}
    (hown : s.vm.findClass own = some m.cls) (hcls : Bundle.fit cls = true) (hnames : ∀ n ∈ names, Bundle.fit n = true)
    (hk : (Cond.classLink own ik cls).before args s = true) (hini : (Cond.initialized cls).before args s = true) (hstr : vk_R own is text sa s) (hat : ∀ w ∈ vx_atS own ic cls names, w.before args s = true)
    (hgood : ∀ w ∈ Cond.classLink own ik cls :: Cond.initialized cls :: vx_atS own ic cls names, vx_ot w = true)
    (hU : vx_Zq Bundle.tN "UNASSIGNED_STACK" Bundle.steD A s s.heap) (hN : vx_Zq Bundle.tN "SUPPRESSED_SENTINEL" Bundle.listD A s s.heap) (hS : va_S A s.heap H locs) (hsize : ls.size = c.maxLocals)
    (d0 : decode cc pc = .ok (.new ik, 3)) (d3 : decode cc (pc + 3) = .ok (.dup, 1)) (d4 : decode cc (pc + 4) = .ok (.ldc_w is, 3)) (d7 : decode cc (pc + 7) = .ok (.invokespecial ic, 3)) (d10 : decode cc (pc + 10) = .ok (.athrow, 1))
    (hout : ∀ x ∈ c.exceptionTable.toList, covers x (pc + 10) = false)
    (hRframes : names.length + 3 < R.frames) (hRlocals : (rest.map fun v => v.category).sum + (13 * (names.length + 1) + 43) ≤ R.locals) (hRcells : cells + 1 ≤ R.cells) (hRslots : slots + 6 ≤ R.slots) (hlocks : meth.locks = false)
    (hx : ∀ t : State, s.vm.Alike t.vm → H.size ≤ t.heap.size → (∀ q : Nat, q < H.size → t.heap[q]? = H[q]?) → XC cls s t)
    (hf : ∀ z ∈ locs, free z.base) (hc : cells + 1 ≤ mc) (hs : slots + 6 ≤ ms) :
    W p l e R s m args below meth c H locs cells slots (vx_MQ below Qc XC args s mc ms free) (F0 m pc ls rest) := by
  intro T hT X
  have htr : e.platform.stackTraces = false := (show e.platform.stackTraces = l.stackTraces by rw [X.admits.platform]).trans hl
  have Y := vx_rebase X (R' := { frames := R.frames, locals := R.locals, cells := 1, slots := 6 }) (Nat.le_refl _) (Nat.le_refl _) hRcells hRslots
  obtain ⟨s', hA⟩ : ∃ z, z = (T.setVm s.vm).setFrames (.invoking m args :: below) := ⟨_, rfl⟩
  rw [← hA] at Y
  have hvm : s'.vm = s.vm := by rw [hA]; rfl
  have hhp : s'.heap = H := by rw [hA]; exact hT
  have hW0 : s.WarmedH s'.vm := by rw [hvm]; exact State.WarmedH.refl s
  have hat' : ∀ w ∈ vx_atS own ic cls names, w.before args s' = true := fun w hw => vx_ot_at hW0 hvm.symm (hgood w (List.mem_cons_of_mem _ (List.mem_cons_of_mem _ hw))) (hat w hw)
  have hk' : (Cond.classLink own ik cls).before args s' = true := vx_ot_at hW0 hvm.symm (hgood _ List.mem_cons_self) hk
  have hini' : (Cond.initialized cls).before args s' = true := vx_ot_at hW0 hvm.symm (hgood _ (List.mem_cons_of_mem _ List.mem_cons_self)) hini
  have hU' : vx_Zq Bundle.tN "UNASSIGNED_STACK" Bundle.steD A s' s'.heap := by rw [hhp]; exact vx_Zq.moved hW0.alike (hU.kept hS.2.1)
  have hN' : vx_Zq Bundle.tN "SUPPRESSED_SENTINEL" Bundle.listD A s' s'.heap := by rw [hhp]; exact vx_Zq.moved hW0.alike (hN.kept hS.2.1)
  have h : ∀ w ∈ Bundle.ownAtoms own ic cls names, w.before args s' = true := vx_own hat' (vx_isRefq hU'.1) (vx_isRefq hN'.1) hU'.2.word hN'.2.word
  have hown' : s'.vm.findClass own = some m.cls := by rw [hvm]; exact hown
  have hins : (Cond.instantiable cls 6).before args s' = true := h _ (by simp [Bundle.ownAtoms])
  obtain ⟨vm₁, cX, kX, hfX, hkX, -, -, X₁, st1⟩ := Y.newCold hexec (own := own) (C := cls) (index := ik) (n := 6) hown' hk' hins hini'
    (g := F0 m pc ls rest) rfl (by rw [hb]; exact d0) (Nat.le_refl _) (Nat.le_refl _)
  generalize hT1 : (T.setVm vm₁).pushCell { cls := cX, slots := kX.instanceTypes.map defaultValue, vm := .none } = T1 at X₁ st1
  have hcat : (Value.ref T.heap.size).category = 1 := rfl
  have hcellA : T1.heap[T.heap.size]? = some (freshCell cX kX) := by rw [← hT1]; exact State.heap_pushCell_size _ _
  have d3' : decode c.code (pc + 3) = .ok (.dup, 1) := by rw [hb]; exact d3
  have d4' : decode c.code (pc + 4) = .ok (.ldc_w is, 3) := by rw [hb]; exact d4
  have hstr' : vk_R own is text sa s' := vk_R.warm hW0 hstr
  obtain ⟨U, hsteps, hrun, hend, hW, hsame, ce, hce, hO⟩ := X₁.ctorThrowS hexec htr (own := own) (cls := cls) (names := names) (ic := ic) hown' hcls hnames h (fun x hx => nomatch hx) hfX hkX hcellA (by rw [hhp, hT]; exact Nat.le_refl _) (msg := .ref sa) rfl
    (g := { method := m, pc := pc + 7, locals := ls, stack := .ref sa :: .ref T.heap.size :: .ref T.heap.size :: rest, locked := none }) rfl hsize rfl rfl (rest := rest) rfl
    (by rw [hb]; exact d7) (by rw [hb]; exact d10) hout hRframes (by simp only [List.map_cons, List.sum_cons, hcat]; omega) hlocks
  obtain ⟨f1, f2⟩ := vx_frame hsame
  rw [hhp] at f1 f2
  have hWs : s.WarmedH U.vm := State.WarmedH.trans hW0 hW
  have hcl : s.vm.findClass cls = some ce.cls := by
    have h9 := hO.cls
    rw [hvm] at h9
    exact h9
  have hall : s.sameButNew ({ U with vm := s.vm } : State) locs mc ms := by
    subst hA
    obtain ⟨e1, e2⟩ := hsame
    rw [State.setFrames_setFrames] at e1
    have h2 : (T.setVm s.vm).sameButNew ({ U with vm := s.vm } : State) [] (0 + 1) (0 + 6) := ⟨e1, e2⟩
    have h3 := X.same.trans h2
    rw [List.append_nil] at h3
    exact h3.mono hc hs
  refine ⟨U, ?_, .threw T.heap.size, hrun, hend, Or.inr ⟨T.heap.size, rfl, cls, ce, locs, hx U hWs.alike f1 (fun q hq => f2 q hq (fun z hz => nomatch hz)), hce, hO.vm, hcl, hWs, hall, hf⟩⟩
  refine st1 _ ?_
  show Steps p.tables e below (T1.setTop { method := m, pc := pc + 3, locals := ls, stack := .ref T.heap.size :: rest, locked := none }) _
  jvm_step X₁.here [X₁.here.top, hexec, d3', Value.category]
  exact X₁.ldcStringW hexec (own := own) (text := text) (index := is) (a := sa) hown' hstr'.1 hstr'.2
    (g := { method := m, pc := pc + 4, locals := ls, stack := .ref T.heap.size :: .ref T.heap.size :: rest, locked := none }) rfl d4' _ hsteps
end Ends
section Bodies
variable {l : Launch}
theorem vx_ofW {y : MethodName} {ws ws' : List Cond} {rm : Room} {Pc : Array Value → State → Prop} {Qc : Array Value → State → Outcome → State → Prop} {XC : String → State → State → Prop} {mc ms : Nat} {free : Addr → Prop} {cc : ByteArray} {maxL : Nat} {ret : Option FieldType}
    (hy : plainName y.cls = true) (hw : ws = Cond.code y cc maxL ret :: ws')
    (body : ∀ p e s m args below meth c s₁, BodyLoose p l y (headSpec ws rm) cc maxL ret e s m args below meth c s₁ → c.maxLocals = maxL → (∀ x ∈ c.exceptionTable.toList, False) → Pc args s →
      W p l e (headSpec ws rm).room s m args below meth c s.heap [] 0 0 (vx_MQ below Qc XC args s mc ms free) (entryFrame m args maxL)) : vx_Met l y ws rm Pc Qc XC mc ms free := by
  refine MetFree.of_bodyS (code := cc) (maxLocals := maxL) (ret := ret) hy ?_ ?_
  · intro args s m h hn
    obtain ⟨meth, c, h1, h2, h3, h4, h5, h6, -, -⟩ := Cond.code_spec hn (atoms_spec (ws := ws) h _ (by rw [hw]; exact List.mem_cons_self))
    exact ⟨meth, c, h1, h2, h3, h4, h5, h6⟩
  · intro p e s m args below meth c s₁ B hml hP _
    have hh0 : s₁.heap = s.heap := by rw [B.state]; rfl
    have ht : ∀ x ∈ c.exceptionTable.toList, False := by
      obtain ⟨meth9, c9, h1, h2, -, -, -, -, h7, -⟩ := Cond.code_spec B.named (atoms_spec (ws := ws) B.pre _ (by rw [hw]; exact List.mem_cons_self))
      cases Option.some.inj (h1.symm.trans B.method)
      cases Option.some.inj (h2.symm.trans (Stand.of_body B).code)
      intro x hx
      rw [Array.isEmpty_iff.mp h7] at hx
      cases hx
    obtain ⟨t, a1, o, b1, b2, b3⟩ := body p e s m args below meth c s₁ B hml ht hP s₁ hh0 (Stand.of_body B)
    exact ⟨t, o, a1, b1, b2, b3⟩
/-- the table of a body with handlers -/
theorem vx_table {p : Program} {x y : MethodName} {S : Spec} {cc bytes : ByteArray} {maxL maxL' : Nat} {ret ret' : Option FieldType} {e : Env} {s s₁ : State} {m : MethodId} {args : Array Value} {below : List Frame} {meth : Method} {c : Code} {hh : List (Nat × Nat × Nat × Nat)}
    (B : BodyLoose p l y S cc maxL ret e s m args below meth c s₁) (h : (Cond.codeWith y bytes maxL' ret' hh).before args s = true) : c.exceptionTable.toList = tableOf hh := by
  obtain ⟨m9, meth9, c9, hn9, h1, h2, -, -, h6, -⟩ := Cond.codeWith_spec h
  cases Option.some.inj (hn9.symm.trans B.named)
  cases Option.some.inj (h1.symm.trans B.method)
  cases Option.some.inj (h2.symm.trans (Stand.of_body B).code)
  rw [← h6, table_eq]
end Bodies
end VXA
/-! ===== END ===== -/
/-! ===== BEGIN a static call of a method with an exception table ===== -/
section VXS
variable {p : Program} {l : Launch} {e : Env} {R : Room} {s : State} {m : MethodId} {args : Array Value} {below : List Frame} {meth : Method} {c : Code} {T : State} {H : Heap} {locs : List Loc} {cells slots : Nat}
abbrev vx_CSW (R : Room) (s : State) (args : Array Value) (own : String) (index : Nat) (y : MethodName) (bytes : ByteArray) (maxL : Nat) (ret : Option FieldType) (hh : List (Nat × Nat × Nat × Nat)) (ws : List Cond) (rm : Room) (mc ms n : Nat) : Prop :=
  (rm.cells = mc ∧ rm.slots = ms ∧ rm.frames + 1 ≤ R.frames ∧ 8 + (maxL + 11) + rm.locals ≤ R.locals ∧ (∀ w ∈ ws, ∀ (a' : Array Value) (U : State), s.WarmedH U.vm → w.before a' U = true) ∧ Cond.codeWith y bytes maxL ret hh ∈ ws) ∧
  (Cond.codeWith y bytes maxL ret hh).before args s = true ∧ (Cond.initialized y.cls).before args s = true ∧ (y.cls ≠ "java/lang/invoke/MethodHandle" ∧ y.cls ≠ "java/lang/invoke/VarHandle") ∧
  (∀ sig, parseMethodDescriptor y.desc = some sig → n = sig.parameters.length) ∧ (Cond.methodLink own index y).before args s = true ∧ (Cond.static y).before args s = true
theorem vx_cwSW {own : String} {index maxL mc ms : Nat} {y : MethodName} {bytes : ByteArray} {ret : Option FieldType} {hh : List (Nat × Nat × Nat × Nat)} {Ts ws ws' : List Cond} {rm : Room} (n : Nat) (ht : ∀ w ∈ Ts, w.before args s = true) (hT : GoodIn Ts (va_wsS own index y ws)) (hw : ws = Cond.codeWith y bytes maxL ret hh :: ws') (hrc : rm.cells = mc) (hrs : rm.slots = ms)
    (hd : y.cls ≠ "java/lang/invoke/MethodHandle" ∧ y.cls ≠ "java/lang/invoke/VarHandle" ∧ (parseMethodDescriptor y.desc).map (fun d => d.parameters.length) = some n) (hR : rm.frames + 1 ≤ R.frames ∧ 8 + (maxL + 11) + rm.locals ≤ R.locals) :
    vx_CSW R s args own index y bytes maxL ret hh ws rm mc ms n := by
  have ok : ∀ w ∈ va_wsS own index y ws, w.before args s = true := fun w h => ht w (hT w h).1
  have hG : GoodIn Ts ws := fun w h => hT w (by unfold va_wsS; exact List.mem_append_right _ h)
  have hc : Cond.codeWith y bytes maxL ret hh ∈ ws := by rw [hw]; exact List.mem_cons_self
  refine ⟨⟨hrc, hrs, hR.1, hR.2, pay_in ht hG, hc⟩, ht _ (hG _ hc).1, ok _ (by simp [va_wsS]), ⟨hd.1, hd.2.1⟩, fun sig h => ?_, ok _ (by simp [va_wsS]), ok _ (by simp [va_wsS])⟩
  have h2 := hd.2.2
  rw [h] at h2
  exact (Option.some.inj h2).symm
theorem vx_callSW (X : Stand p l e R s m args below meth c T locs cells slots) (hexec : p.tables.exec = Jvm.exec) {own : String} {index : Nat} {y : MethodName} {bytes : ByteArray} {maxL : Nat} {ret : Option FieldType} {hh : List (Nat × Nat × Nat × Nat)}
    (hown : s.vm.findClass own = some m.cls) (hlink : (Cond.methodLink own index y).before args s = true) (hstat : (Cond.static y).before args s = true) (hinit : (Cond.initialized y.cls).before args s = true)
    (hcode : (Cond.codeWith y bytes maxL ret hh).before args s = true) (hy : y.cls ≠ "java/lang/invoke/MethodHandle" ∧ y.cls ≠ "java/lang/invoke/VarHandle")
    {W9 : Nat} {Pre : Pt → Array Value → Prop} {Post : Pt → Array Value → Option Value → Pt → Prop} (hK : Back l R p e below s args y 3 W9 Pre Post)
    {g : JFrame} (hg : g.method = m) (hsize : g.locals.size = c.maxLocals) {argsL rest : List Value} (hlen : ∀ sig, parseMethodDescriptor y.desc = some sig → argsL.length = sig.parameters.length)
    (hstack : g.stack = argsL.reverse ++ rest) (hW : 2 * g.monitorRoom + (rest.map fun v => v.category).sum ≤ W9) (hdg : decode c.code g.pc = .ok (.invokestatic index, 3))
    (hpre : ∀ vm₁, s.WarmedH vm₁ → Pre ⟨T.setVm vm₁, locs, cells, slots⟩ argsL.toArray) :
    ∃ (v : Option Value) (vm₁ : Vm) (B : Pt), s.WarmedH vm₁ ∧ Stand p l e R s m args below meth c B.U B.locs B.cells B.slots ∧ Post ⟨T.setVm vm₁, locs, cells, slots⟩ argsL.toArray v B ∧
      ∀ target, Steps p.tables e below (B.U.setTop { g with pc := g.pc + 3, stack := v.toList ++ rest }) target → Steps p.tables e below (T.setTop g) target := by
  obtain ⟨mk, methM, cM, hnamed, hmethM, -, -, -, -, -, -, hsigM⟩ := Cond.codeWith_spec hcode
  have hstatic : methM.isStatic = true := Cond.static_spec hnamed hmethM hstat
  obtain ⟨kP, hkP, -⟩ := className_of_methodNamed hnamed
  have hinitP : kP.init = .initialized := Cond.initialized_spec (findClass_of_methodNamed hnamed) hkP hinit
  obtain ⟨vm₁, X₁, hstep₁⟩ := X.invokestatic hexec hown hlink hnamed hmethM hstatic hkP hinitP hy (g := g) hg (argsL := argsL) (rest := rest) (hlen _ hsigM) hstack hdg
  obtain ⟨v, B, X', hpost, hsteps⟩ := hK m meth c ⟨T.setVm vm₁, locs, cells, slots⟩ { g with stack := rest } (.invokestatic index) mk argsL.toArray X₁ hg hsize hdg hW (X₁.named hnamed) (hpre vm₁ X₁.warmed)
  exact ⟨v, vm₁, B, X₁.warmed, X', hpost, fun target h => hstep₁ _ fun acts => by rw [doInvoke_state]; exact hsteps.trans h⟩
theorem vx_runSW {y : MethodName} {bytes cc : ByteArray} {maxL nL mc ms n index : Nat} {ret : Option FieldType} {hh : List (Nat × Nat × Nat × Nat)} {ws : List Cond} {rm : Room} {Pc : Array Value → State → Prop} {Qc : Array Value → State → Outcome → State → Prop} {free : Addr → Prop} {Ts : List Cond} {own : String} {As rest : List Value} {g : JFrame}
    (S : CallFix p m c cc nL s args Ts own) (hM : Met l y ws rm Pc Qc mc ms free) (cw : vx_CSW R s args own index y bytes maxL ret hh ws rm mc ms n) (hp : PreS s H Pc As)
    (hg : g.method = m) (hn : As.length = n) (hsize : g.locals.size = nL) (hstack : g.stack = As.reverse ++ rest) (hW : 2 * g.monitorRoom + (rest.map fun v => v.category).sum ≤ 8) (hdg : decode cc g.pc = .ok (.invokestatic index, 3)) (hf : cells + mc ≤ R.cells ∧ slots + ms ≤ R.slots) :
    va_Run p l e R s m args below meth c H locs cells slots mc ms g rest (Qc As.toArray) (free) := by
  obtain ⟨⟨hrc, hrs, hfr, hlo, hws, hcw⟩, hcode, hini, hy, hlen, hl, hstt⟩ := cw
  have hK : Back l R p e below s args y 3 8 (PreOf R mc ms Pc) (PostOf Qc mc ms free) := va_backW (hh := hh) (bytes := bytes) (maxL := maxL) (ret := ret) hM hp.1 hrc hrs hfr hlo hws hcw (fun a' U hW => word_at hW (Or.inl (by first | rfl | simp [Cond.onTables, Cond.keeps, Cond.steady])) hini)
  obtain ⟨hx, hb, hml, ho, -⟩ := S
  intro T hT X
  obtain ⟨v, vm₁, ⟨U', l2, c2, s2⟩, hW₁, X', ⟨g', mk, t, L, e1, e2, hq, h1, hL, h2, h3⟩, st⟩ := vx_callSW X hx (hh := hh) (bytes := bytes) (maxL := maxL) (ret := ret) ho hl hstt hini hcode hy hK hg (hsize.trans hml.symm) (argsL := As) (rest := rest) (fun sig h => hn.trans (hlen sig h)) hstack hW (by rw [hb]; exact hdg)
    (fun vm₁ hW₁ => ⟨hf.1, hf.2, hp.2 (T.setVm vm₁) hT hW₁⟩)
  dsimp only [Pt.U, Pt.locs, Pt.cells, Pt.slots] at X' e1 e2 h1 h2 h3 st
  subst h1; subst h2; subst h3
  exact ⟨v, (T.setVm vm₁).calling g' mk As.toArray, t, U', L, hT, X', hL, e1, e2, hq, st⟩
/-- not caught here, past rows that name other classes: it goes on to the caller -/
theorem vx_outP {p : Program} {l : Launch} {e : Env} {R : Room} {s : State} {m : MethodId} {args : Array Value} {below : List Frame} {meth : Method} {c : Code} {H : Heap} {locs : List Loc} {cells slots : Nat} {free : Addr → Prop} {ls : Array Slot} {rest : List Value} {Qc : Array Value → State → Outcome → State → Prop} {XC : String → State → State → Prop}
    {pc : Nat} {own E : String} {ce : Cell} {q : Addr} {mc ms : Nat} (hown : s.vm.findClass own = some m.cls) (hlocks : meth.locks = false)
    (hpass : ∀ z ∈ c.exceptionTable.toList, covers z pc = false ∨ (z.catchType ≠ 0 ∧ ∃ nm : String, (Cond.classLink own z.catchType nm).before args s = true ∧ va_Nc E nm s)) (hcell : H[q]? = some ce) (hv : ce.vm = .none) (hcl : s.vm.findClass E = some ce.cls)
    (hx : ∀ t : State, t.heap = H → s.vm.Alike t.vm → XC E s t) (hf : ∀ z ∈ locs, free z.base) (hc : cells ≤ mc) (hs : slots ≤ ms) :
    vx_W p l e R s m args below meth c H locs cells slots (vx_MQ below Qc XC args s mc ms free) (F0 m pc ls rest) q := by
  intro T hT X
  have hpl : e.platform.magicAccessors = ({} : Platform).magicAccessors := by rw [X.admits.platform]
  obtain ⟨vm', hW', X', st⟩ := X.outThrough hlocks q (g := F0 m pc ls rest) rfl rfl rfl (cell := ce) (by rw [hT]; exact hcell) (by rw [hv]; rfl)
    (by obtain ⟨k9, h9, -⟩ := Vm.findClass_spec hcl; exact ⟨k9, h9⟩) (fun z hz => by
      rcases hpass z hz with h | ⟨hz0, nm, hl1, hn1⟩
      · exact Or.inl h
      · obtain ⟨c6, hc6, hcl6⟩ := Cond.classLink_spec hown hl1 e.platform hpl
        obtain ⟨a8, b8, h1, h2, h3⟩ := hn1
        cases Option.some.inj (h1.symm.trans hcl)
        cases Option.some.inj (h2.symm.trans hc6)
        exact Or.inr ⟨hz0, _, hcl6, h3⟩)
  obtain ⟨g₀, hfr⟩ := X'.frames_eq
  have hcell9 : ((T.setVm vm').setFrames (.throwing q :: below)).heap[q]? = some ce := by
    show T.heap[q]? = some ce
    rw [hT]; exact hcell
  have hend : Ended ((T.setVm vm').setFrames (.throwing q :: below)) below (.threw q) := State.frames_setFrames _ (State.cur_lt_of_frames hfr)
  refine ⟨(T.setVm vm').setFrames (.throwing q :: below), ?_, .threw q, X'.here.running, hend, Or.inr ⟨q, rfl, E, ce, locs, hx _ hT (X'.ends _).1.alike, hcell9, hv, hcl, (X'.ends _).1, (X'.ends _).2.mono hc hs, hf⟩⟩
  rw [X.pushThrowing_eq]
  exact st
/-- a thing of a world lies in the heap -/
theorem vx_lt {D : va_G} {cl : List vw_C} {ws : va_W} {H1 : Heap} (h : va_P D cl ws H1) {k : Nat} {q : Nat × va_E} (hk : ws[k]? = some q) : q.1 < H1.size := (h k q hk).lt
end VXS
/-! ===== END ===== -/
/-! ===== BEGIN methods with a table of their own: called by a name, returning or throwing ===== -/
section VXH
/-! vx_backW, vx_callVX, vx_callSX, vx_callVW, vx_runVW, vx_runVX, vx_runSX, vx_ofWH follow the same proofs as their sisters above (Free/Laws.lean, Shelf42/LK1.lean); vx_outP calls Shelf42/NT130.lean (outThrough). -/
section
variable {l : Launch} {R : Room} {p : Program} {e : Env} {below : List Frame} {s : State} {sargs : Array Value} {y : MethodName} {len W9 : Nat}
theorem vx_backW {ws : List Cond} {rm : Room} {Pc : Array Value → State → Prop} {Qc : Array Value → State → Outcome → State → Prop} {XC : String → State → State → Prop} {mc ms : Nat} {free : Addr → Prop} {bytes : ByteArray} {maxL : Nat} {ret : Option FieldType} {hh : List (Nat × Nat × Nat × Nat)}
    (hM : vx_Met l y ws rm Pc Qc XC mc ms free) (hblind : FrameBlind Pc) (hrc : rm.cells = mc) (hrs : rm.slots = ms)
    (hframes : rm.frames + 1 ≤ R.frames) (hlocals : W9 + (maxL + 11) + rm.locals ≤ R.locals)
    (hws : ∀ w ∈ ws, ∀ a' U, s.WarmedH U.vm → w.before a' U = true) (hcode : Cond.codeWith y bytes maxL ret hh ∈ ws) (hinit : ∀ a' U, s.WarmedH U.vm → (Cond.initialized y.cls).before a' U = true) :
    vx_Back l R p e below s sargs y len W9 (PreOf R mc ms Pc) (PostOf Qc mc ms free) (vx_Post XC mc ms free) := by
  intro m meth c A g ig mk a X hg hsize hdg hW hn hp
  have h1 : (headSpec ws rm).pre.before a A.U = true := atoms_intro fun w hw => hws w hw _ _ X.warmed
  have h2 : (Cond.codeWith y bytes maxL ret hh).before a A.U = true := hws _ hcode _ _ X.warmed
  have h3 : (Cond.initialized y.cls).before a A.U = true := hinit _ _ X.warmed
  have h4 : A.cells + (headSpec ws rm).room.cells ≤ R.cells := by rw [show (headSpec ws rm).room.cells = mc from hrc]; exact hp.1
  have h5 : A.slots + (headSpec ws rm).room.slots ≤ R.slots := by rw [show (headSpec ws rm).room.slots = ms from hrs]; exact hp.2.1
  have hPc : Pc a (A.U.calling g mk a) := hblind _ _ _ _ hp.2.2
  obtain ⟨U, Ls, c0, s0⟩ := A
  dsimp only [Pt.U, Pt.locs, Pt.cells, Pt.slots] at h1 h2 h3 h4 h5 X hn hPc ⊢
  obtain ⟨m9, methY, cY, hn9, hmY, hcY, -, hlY, -⟩ := Cond.codeWith_spec h2
  cases Option.some.inj (hn9.symm.trans hn)
  obtain ⟨kY, hkY, -⟩ := className_of_methodNamed hn
  have hinitY : kY.init = .initialized := Cond.initialized_spec (findClass_of_methodNamed hn) hkY h3
  have h : At U g.method c below := by rw [hg]; exact X.here
  have hlocals9 : W9 + (maxL + 11) + (headSpec ws rm).room.locals ≤ R.locals := hlocals
  have happ : (headSpec ws rm).appliesLoose y e.platform (U.calling g mk a) = true :=
    Spec.appliesLoose_calling (g := g) h hdg hn hkY hinitY
      (X.room_calling (g := g) (R' := (headSpec ws rm).room) hsize hmY hcY hframes (by rw [hlY]; omega) h4 h5) h1
  obtain ⟨mid, hmid⟩ := h.above
  have hfr : (U.setTop g).frames = (.java g :: mid) ++ below := by rw [State.frames_setTop' g h.top, hmid]; rfl
  obtain ⟨o, s₂, hsteps, -, hend, hq⟩ := Steps.callFree hM p X.admits X.cas X.clock (acts := []) hfr happ hPc trivial
  have hq' : vx_Q Qc XC mc ms free a (U.calling g mk a) o s₂ := hq
  rw [State.frames_setTop' g h.top] at hend
  obtain ⟨g₀, hg0⟩ := Option.isSome_iff_exists.mp h.top
  obtain ⟨r, hr⟩ := State.topJava?_eq_some.mp hg0
  have hr' : (({ U with heap := s₂.heap, slotsUsed := s₂.slotsUsed } : State).setVm s₂.vm).frames = .java g₀ :: r := hr
  rcases hq' with ⟨hqc, L, hfe, hL⟩ | ⟨q, rfl, E, ce, L, hx, hce, hcv, hcl, hW₂, hsm, hL⟩
  · obtain ⟨⟨v, rfl⟩, hW₂, e2, q2, q3, q4, q5, q6⟩ := id hfe
    have e3 : s₂ = ({ (U.calling g mk a).setFrames s₂.frames with heap := s₂.heap, slotsUsed := s₂.slotsUsed } : State).setVm s₂.vm := by
      have : s₂ = ({ s₂ with vm := (U.calling g mk a).vm } : State).setVm s₂.vm := rfl
      rw [e2] at this
      exact this
    obtain ⟨c₂, i₂, len₂, hc₂, hd₂, hf₂⟩ := hend
    have hW' : U.WarmedH s₂.vm := hW₂
    have hcc : c₂ = c := by
      have h1 : s₂.code? g.method = U.code? g.method := by
        rw [State.code?_eq, State.code?_eq, hW'.alike.method?]
      exact Option.some.inj (hc₂.symm.trans (h1.trans h.code))
    subst hcc
    have hlen : len₂ = len := by rw [hdg] at hd₂; cases hd₂; rfl
    subst hlen
    have hs₂ : s₂ = (({ U with heap := s₂.heap, slotsUsed := s₂.slotsUsed } : State).setVm s₂.vm).setTop { g with pc := g.pc + len₂, stack := v.toList ++ g.stack } := by
      refine e3.trans ?_
      rw [hf₂, State.calling_eq h.top, State.setFrames_setFrames, State.setTop_of_frames _ hr', hr]
      rfl
    have hsame : U.sameButNew ({ U with heap := s₂.heap, slotsUsed := s₂.slotsUsed } : State) L mc ms := by
      refine ⟨?_, q2, q3, q4, q5, q6⟩
      obtain ⟨t, ht, -⟩ := State.frames_cons hr
      show ({ U with heap := s₂.heap, slotsUsed := s₂.slotsUsed } : State) = { U.setFrames U.frames with heap := s₂.heap, slotsUsed := s₂.slotsUsed }
      rw [State.setFrames_self ht]
    subst hg
    refine Or.inl ⟨v, ⟨(({ U with heap := s₂.heap, slotsUsed := s₂.slotsUsed } : State).setVm s₂.vm), Ls ++ L, c0 + mc, s0 + ms⟩,
      ⟨X.admits, X.cas, X.clock, X.frames, X.room, X.hears, X.method, X.code, (X.here.setHeapUsed s₂.heap s₂.slotsUsed).setVm hW'.alike, X.tail, State.WarmedH.trans X.warmed hW', X.limits, X.bytes, X.same.trans (hsame.setVm s.vm)⟩,
      ⟨g, mk, s₂, L, rfl, rfl, hqc, rfl, hL, rfl, rfl⟩, ?_⟩
    show Steps p.tables e below _ ((({ U with heap := s₂.heap, slotsUsed := s₂.slotsUsed } : State).setVm s₂.vm).setTop { g with pc := g.pc + len₂, stack := v.toList ++ g.stack })
    rw [← hs₂]
    exact hsteps
  · obtain ⟨e2, q2, q3, q4, q5, q6⟩ := id hsm
    have e3 : s₂ = ({ (U.calling g mk a).setFrames s₂.frames with heap := s₂.heap, slotsUsed := s₂.slotsUsed } : State).setVm s₂.vm := by
      have : s₂ = ({ s₂ with vm := (U.calling g mk a).vm } : State).setVm s₂.vm := rfl
      rw [e2] at this
      exact this
    have hf₂ : s₂.frames = .throwing q :: .java g :: U.frames.tail := hend
    have hW' : U.WarmedH s₂.vm := hW₂
    have hs₂ : s₂ = ((({ U with heap := s₂.heap, slotsUsed := s₂.slotsUsed } : State).setVm s₂.vm).setTop g).pushFrame (.throwing q) := by
      refine e3.trans ?_
      rw [hf₂, State.calling_eq h.top, State.setFrames_setFrames, State.pushFrame, State.frames_setTop _ hr', State.setTop_of_frames _ hr', State.setFrames_setFrames, hr]
      rfl
    have hsame : U.sameButNew ({ U with heap := s₂.heap, slotsUsed := s₂.slotsUsed } : State) L mc ms := by
      refine ⟨?_, q2, q3, q4, q5, q6⟩
      obtain ⟨t, ht, -⟩ := State.frames_cons hr
      show ({ U with heap := s₂.heap, slotsUsed := s₂.slotsUsed } : State) = { U.setFrames U.frames with heap := s₂.heap, slotsUsed := s₂.slotsUsed }
      rw [State.setFrames_self ht]
    subst hg
    refine Or.inr ⟨q, ⟨(({ U with heap := s₂.heap, slotsUsed := s₂.slotsUsed } : State).setVm s₂.vm), Ls ++ L, c0 + mc, s0 + ms⟩,
      ⟨X.admits, X.cas, X.clock, X.frames, X.room, X.hears, X.method, X.code, (X.here.setHeapUsed s₂.heap s₂.slotsUsed).setVm hW'.alike, X.tail, State.WarmedH.trans X.warmed hW', X.limits, X.bytes, X.same.trans (hsame.setVm s.vm)⟩,
      ⟨g, mk, s₂, L, E, ce, rfl, rfl, hx, hce, hcv, hcl, rfl, hL, rfl, rfl⟩, ?_⟩
    show Steps p.tables e below _ (((({ U with heap := s₂.heap, slotsUsed := s₂.slotsUsed } : State).setVm s₂.vm).setTop g).pushFrame (.throwing q))
    rw [← hs₂]
    exact hsteps
end
variable {p : Program} {l : Launch} {e : Env} {R : Room} {s : State} {m : MethodId} {args : Array Value} {below : List Frame} {meth : Method} {c : Code} {T : State} {H : Heap} {locs : List Loc} {cells slots : Nat}
theorem vx_callVX (X : Stand p l e R s m args below meth c T locs cells slots) (hexec : p.tables.exec = Jvm.exec) {own C : String} {index : Nat} {y : MethodName} {bytes : ByteArray} {maxL : Nat} {ret : Option FieldType} {hh : List (Nat × Nat × Nat × Nat)}
    (hown : s.vm.findClass own = some m.cls) (hlink : (Cond.methodLink own index y).before args s = true) (hinst : (Cond.instanceMethod y).before args s = true) (hsel : (Cond.selects C y y).before args s = true)
    (hcode : (Cond.codeWith y bytes maxL ret hh).before args s = true) (hy : y.cls ≠ "java/lang/invoke/MethodHandle" ∧ y.cls ≠ "java/lang/invoke/VarHandle")
    {W9 : Nat} {Pre : Pt → Array Value → Prop} {Post : Pt → Array Value → Option Value → Pt → Prop} {PostX : Pt → Array Value → Addr → Pt → Prop} (hK : vx_Back l R p e below s args y 3 W9 Pre Post PostX)
    {b : Addr} {cellB : Cell} (hcell : T.heap[b]? = some cellB) (hobj : cellB.vm.isStatics = false) (hcls : s.vm.findClass C = some cellB.cls)
    {g : JFrame} (hg : g.method = m) (hsize : g.locals.size = c.maxLocals) {argsL rest : List Value} (hlen : ∀ sig, parseMethodDescriptor y.desc = some sig → argsL.length = sig.parameters.length)
    (hstack : g.stack = argsL.reverse ++ .ref b :: rest) (hW : 2 * g.monitorRoom + (rest.map fun v => v.category).sum ≤ W9) (hdg : decode c.code g.pc = .ok (.invokevirtual index, 3))
    (hpre : ∀ vm₁, s.WarmedH vm₁ → Pre ⟨T.setVm vm₁, locs, cells, slots⟩ (Value.ref b :: argsL).toArray) :
    (∃ (v : Option Value) (vm₁ : Vm) (B : Pt), s.WarmedH vm₁ ∧ Stand p l e R s m args below meth c B.U B.locs B.cells B.slots ∧ Post ⟨T.setVm vm₁, locs, cells, slots⟩ (Value.ref b :: argsL).toArray v B ∧
      ∀ target, Steps p.tables e below (B.U.setTop { g with pc := g.pc + 3, stack := v.toList ++ rest }) target → Steps p.tables e below (T.setTop g) target) ∨
    (∃ (q : Addr) (vm₁ : Vm) (B : Pt), s.WarmedH vm₁ ∧ Stand p l e R s m args below meth c B.U B.locs B.cells B.slots ∧ PostX ⟨T.setVm vm₁, locs, cells, slots⟩ (Value.ref b :: argsL).toArray q B ∧
      Steps p.tables e below (T.setTop g) ((B.U.setTop { g with stack := rest }).pushFrame (.throwing q))) := by
  obtain ⟨mk, methM, hnamed, hmethM, hstM, habM⟩ := Cond.instanceMethod_spec hinst
  obtain ⟨m8, methM', cM, hn8, hmethM', -, -, -, -, -, -, hsigM⟩ := Cond.codeWith_spec hcode
  cases Option.some.inj (hn8.symm.trans hnamed)
  cases hmethM.symm.trans hmethM'
  obtain ⟨c2, r2, m2, q1, q2, q3, q4, kP, hkP, hkPi⟩ := Cond.selects_spec hsel
  cases hcls.symm.trans q1
  cases (State.methodFound?_of_named hnamed hy).symm.trans q2
  cases hnamed.symm.trans q3
  have hselP : selectMethod e.platform s.vm cellB.cls mk = .method mk := by rw [Launch.admits_selectMethod X.admits]; exact q4
  obtain ⟨vm₁, X₁, hstep₁⟩ := X.invokevirtual hexec hown hlink hnamed hmethM hstM hkP hkPi hy (a := b) (cell := cellB) hcell
    (fun z h => by rw [h] at hobj; cases hobj) hselP hmethM habM hkP hkPi (g := g) hg (argsL := argsL) (rest := rest) (hlen _ hsigM) hstack hdg
  rcases hK m meth c ⟨T.setVm vm₁, locs, cells, slots⟩ { g with stack := rest } (.invokevirtual index) mk (Value.ref b :: argsL).toArray X₁ hg hsize hdg hW (X₁.named hnamed) (hpre vm₁ X₁.warmed) with ⟨v, B, X', hpost, hsteps⟩ | ⟨q, B, X', hpost, hsteps⟩
  · exact Or.inl ⟨v, vm₁, B, X₁.warmed, X', hpost, fun target h => hstep₁ _ fun acts => by rw [doInvoke_state]; exact hsteps.trans h⟩
  · exact Or.inr ⟨q, vm₁, B, X₁.warmed, X', hpost, hstep₁ _ fun acts => by rw [doInvoke_state]; exact hsteps⟩
theorem vx_callSX (X : Stand p l e R s m args below meth c T locs cells slots) (hexec : p.tables.exec = Jvm.exec) {own : String} {index : Nat} {y : MethodName} {bytes : ByteArray} {maxL : Nat} {ret : Option FieldType} {hh : List (Nat × Nat × Nat × Nat)}
    (hown : s.vm.findClass own = some m.cls) (hlink : (Cond.methodLink own index y).before args s = true) (hstat : (Cond.static y).before args s = true) (hinit : (Cond.initialized y.cls).before args s = true)
    (hcode : (Cond.codeWith y bytes maxL ret hh).before args s = true) (hy : y.cls ≠ "java/lang/invoke/MethodHandle" ∧ y.cls ≠ "java/lang/invoke/VarHandle")
    {W9 : Nat} {Pre : Pt → Array Value → Prop} {Post : Pt → Array Value → Option Value → Pt → Prop} {PostX : Pt → Array Value → Addr → Pt → Prop} (hK : vx_Back l R p e below s args y 3 W9 Pre Post PostX)
    {g : JFrame} (hg : g.method = m) (hsize : g.locals.size = c.maxLocals) {argsL rest : List Value} (hlen : ∀ sig, parseMethodDescriptor y.desc = some sig → argsL.length = sig.parameters.length)
    (hstack : g.stack = argsL.reverse ++ rest) (hW : 2 * g.monitorRoom + (rest.map fun v => v.category).sum ≤ W9) (hdg : decode c.code g.pc = .ok (.invokestatic index, 3))
    (hpre : ∀ vm₁, s.WarmedH vm₁ → Pre ⟨T.setVm vm₁, locs, cells, slots⟩ argsL.toArray) :
    (∃ (v : Option Value) (vm₁ : Vm) (B : Pt), s.WarmedH vm₁ ∧ Stand p l e R s m args below meth c B.U B.locs B.cells B.slots ∧ Post ⟨T.setVm vm₁, locs, cells, slots⟩ argsL.toArray v B ∧
      ∀ target, Steps p.tables e below (B.U.setTop { g with pc := g.pc + 3, stack := v.toList ++ rest }) target → Steps p.tables e below (T.setTop g) target) ∨
    (∃ (q : Addr) (vm₁ : Vm) (B : Pt), s.WarmedH vm₁ ∧ Stand p l e R s m args below meth c B.U B.locs B.cells B.slots ∧ PostX ⟨T.setVm vm₁, locs, cells, slots⟩ argsL.toArray q B ∧
      Steps p.tables e below (T.setTop g) ((B.U.setTop { g with stack := rest }).pushFrame (.throwing q))) := by
  obtain ⟨mk, methM, cM, hnamed, hmethM, -, -, -, -, -, -, hsigM⟩ := Cond.codeWith_spec hcode
  have hstatic : methM.isStatic = true := Cond.static_spec hnamed hmethM hstat
  obtain ⟨kP, hkP, -⟩ := className_of_methodNamed hnamed
  have hinitP : kP.init = .initialized := Cond.initialized_spec (findClass_of_methodNamed hnamed) hkP hinit
  obtain ⟨vm₁, X₁, hstep₁⟩ := X.invokestatic hexec hown hlink hnamed hmethM hstatic hkP hinitP hy (g := g) hg (argsL := argsL) (rest := rest) (hlen _ hsigM) hstack hdg
  rcases hK m meth c ⟨T.setVm vm₁, locs, cells, slots⟩ { g with stack := rest } (.invokestatic index) mk argsL.toArray X₁ hg hsize hdg hW (X₁.named hnamed) (hpre vm₁ X₁.warmed) with ⟨v, B, X', hpost, hsteps⟩ | ⟨q, B, X', hpost, hsteps⟩
  · exact Or.inl ⟨v, vm₁, B, X₁.warmed, X', hpost, fun target h => hstep₁ _ fun acts => by rw [doInvoke_state]; exact hsteps.trans h⟩
  · exact Or.inr ⟨q, vm₁, B, X₁.warmed, X', hpost, hstep₁ _ fun acts => by rw [doInvoke_state]; exact hsteps⟩
theorem vx_callVW (X : Stand p l e R s m args below meth c T locs cells slots) (hexec : p.tables.exec = Jvm.exec) {own C : String} {index : Nat} {y : MethodName} {bytes : ByteArray} {maxL : Nat} {ret : Option FieldType} {hh : List (Nat × Nat × Nat × Nat)}
    (hown : s.vm.findClass own = some m.cls) (hlink : (Cond.methodLink own index y).before args s = true) (hinst : (Cond.instanceMethod y).before args s = true) (hsel : (Cond.selects C y y).before args s = true)
    (hcode : (Cond.codeWith y bytes maxL ret hh).before args s = true) (hy : y.cls ≠ "java/lang/invoke/MethodHandle" ∧ y.cls ≠ "java/lang/invoke/VarHandle")
    {W9 : Nat} {Pre : Pt → Array Value → Prop} {Post : Pt → Array Value → Option Value → Pt → Prop} (hK : Back l R p e below s args y 3 W9 Pre Post)
    {b : Addr} {cellB : Cell} (hcell : T.heap[b]? = some cellB) (hobj : cellB.vm.isStatics = false) (hcls : s.vm.findClass C = some cellB.cls)
    {g : JFrame} (hg : g.method = m) (hsize : g.locals.size = c.maxLocals) {argsL rest : List Value} (hlen : ∀ sig, parseMethodDescriptor y.desc = some sig → argsL.length = sig.parameters.length)
    (hstack : g.stack = argsL.reverse ++ .ref b :: rest) (hW : 2 * g.monitorRoom + (rest.map fun v => v.category).sum ≤ W9) (hdg : decode c.code g.pc = .ok (.invokevirtual index, 3))
    (hpre : ∀ vm₁, s.WarmedH vm₁ → Pre ⟨T.setVm vm₁, locs, cells, slots⟩ (Value.ref b :: argsL).toArray) :
    ∃ (v : Option Value) (vm₁ : Vm) (B : Pt), s.WarmedH vm₁ ∧ Stand p l e R s m args below meth c B.U B.locs B.cells B.slots ∧ Post ⟨T.setVm vm₁, locs, cells, slots⟩ (Value.ref b :: argsL).toArray v B ∧
      ∀ target, Steps p.tables e below (B.U.setTop { g with pc := g.pc + 3, stack := v.toList ++ rest }) target → Steps p.tables e below (T.setTop g) target := by
  obtain ⟨mk, methM, hnamed, hmethM, hstM, habM⟩ := Cond.instanceMethod_spec hinst
  obtain ⟨m8, methM', cM, hn8, hmethM', -, -, -, -, -, -, hsigM⟩ := Cond.codeWith_spec hcode
  cases Option.some.inj (hn8.symm.trans hnamed)
  cases hmethM.symm.trans hmethM'
  obtain ⟨c2, r2, m2, q1, q2, q3, q4, kP, hkP, hkPi⟩ := Cond.selects_spec hsel
  cases hcls.symm.trans q1
  cases (State.methodFound?_of_named hnamed hy).symm.trans q2
  cases hnamed.symm.trans q3
  have hselP : selectMethod e.platform s.vm cellB.cls mk = .method mk := by rw [Launch.admits_selectMethod X.admits]; exact q4
  obtain ⟨vm₁, X₁, hstep₁⟩ := X.invokevirtual hexec hown hlink hnamed hmethM hstM hkP hkPi hy (a := b) (cell := cellB) hcell
    (fun z h => by rw [h] at hobj; cases hobj) hselP hmethM habM hkP hkPi (g := g) hg (argsL := argsL) (rest := rest) (hlen _ hsigM) hstack hdg
  obtain ⟨v, B, X', hpost, hsteps⟩ := hK m meth c ⟨T.setVm vm₁, locs, cells, slots⟩ { g with stack := rest } (.invokevirtual index) mk (Value.ref b :: argsL).toArray X₁ hg hsize hdg hW (X₁.named hnamed) (hpre vm₁ X₁.warmed)
  exact ⟨v, vm₁, B, X₁.warmed, X', hpost, fun target h => hstep₁ _ fun acts => by rw [doInvoke_state]; exact hsteps.trans h⟩
abbrev vx_CVW (R : Room) (s : State) (args : Array Value) (own C : String) (index : Nat) (y : MethodName) (bytes : ByteArray) (maxL : Nat) (ret : Option FieldType) (hh : List (Nat × Nat × Nat × Nat)) (ws : List Cond) (rm : Room) (mc ms n : Nat) : Prop :=
  (rm.cells = mc ∧ rm.slots = ms ∧ rm.frames + 1 ≤ R.frames ∧ 8 + (maxL + 11) + rm.locals ≤ R.locals ∧ (∀ w ∈ ws, ∀ (a' : Array Value) (U : State), s.WarmedH U.vm → w.before a' U = true) ∧ Cond.codeWith y bytes maxL ret hh ∈ ws) ∧
  (Cond.codeWith y bytes maxL ret hh).before args s = true ∧ (Cond.initialized y.cls).before args s = true ∧ (y.cls ≠ "java/lang/invoke/MethodHandle" ∧ y.cls ≠ "java/lang/invoke/VarHandle") ∧
  (∀ sig, parseMethodDescriptor y.desc = some sig → n = sig.parameters.length) ∧ (Cond.methodLink own index y).before args s = true ∧ (Cond.instanceMethod y).before args s = true ∧ (Cond.selects C y y).before args s = true
theorem vx_cwVW {own C : String} {index maxL mc ms : Nat} {y : MethodName} {bytes : ByteArray} {ret : Option FieldType} {hh : List (Nat × Nat × Nat × Nat)} {Ts ws ws' : List Cond} {rm : Room} (n : Nat) (ht : ∀ w ∈ Ts, w.before args s = true) (hT : GoodIn Ts (wsV own index C y ws)) (hw : ws = Cond.codeWith y bytes maxL ret hh :: ws') (hrc : rm.cells = mc) (hrs : rm.slots = ms)
    (hd : y.cls = C ∧ y.cls ≠ "java/lang/invoke/MethodHandle" ∧ y.cls ≠ "java/lang/invoke/VarHandle" ∧ (parseMethodDescriptor y.desc).map (fun d => d.parameters.length) = some n) (hR : rm.frames + 1 ≤ R.frames ∧ 8 + (maxL + 11) + rm.locals ≤ R.locals) :
    vx_CVW R s args own C index y bytes maxL ret hh ws rm mc ms n := by
  obtain ⟨hC, hd⟩ := hd
  subst hC
  have ok : ∀ w ∈ wsV own index y.cls y ws, w.before args s = true := fun w h => ht w (hT w h).1
  have hG : GoodIn Ts ws := fun w h => hT w (by unfold wsV; exact List.mem_append_right _ h)
  have hc : Cond.codeWith y bytes maxL ret hh ∈ ws := by rw [hw]; exact List.mem_cons_self
  refine ⟨⟨hrc, hrs, hR.1, hR.2, pay_in ht hG, hc⟩, ht _ (hG _ hc).1, ok _ (by simp [wsV]), ⟨hd.1, hd.2.1⟩, fun sig h => ?_, ok _ (by simp [wsV]), ok _ (by simp [wsV]), ok _ (by simp [wsV])⟩
  have h2 := hd.2.2
  rw [h] at h2
  exact (Option.some.inj h2).symm
theorem vx_runVW {y : MethodName} {bytes cc : ByteArray} {maxL nL mc ms n index : Nat} {ret : Option FieldType} {hh : List (Nat × Nat × Nat × Nat)} {ws : List Cond} {rm : Room} {Pc : Array Value → State → Prop} {Qc : Array Value → State → Outcome → State → Prop} {free : Addr → Prop} {Ts : List Cond} {own C : String} {b : Addr} {As rest : List Value} {g : JFrame}
    (S : CallFix p m c cc nL s args Ts own) (hM : Met l y ws rm Pc Qc mc ms free) (cw : vx_CVW R s args own C index y bytes maxL ret hh ws rm mc ms n) (hp : PreV s H C b Pc As)
    (hg : g.method = m) (hn : As.length = n) (hsize : g.locals.size = nL) (hstack : g.stack = As.reverse ++ .ref b :: rest) (hW : 2 * g.monitorRoom + (rest.map fun v => v.category).sum ≤ 8) (hdg : decode cc g.pc = .ok (.invokevirtual index, 3)) (hf : cells + mc ≤ R.cells ∧ slots + ms ≤ R.slots) :
    va_Run p l e R s m args below meth c H locs cells slots mc ms g rest (Qc (Value.ref b :: As).toArray) free := by
  obtain ⟨⟨hrc, hrs, hfr, hlo, hws, hcw⟩, hcode, hini, hy, hlen, hl, hin, hse⟩ := cw
  have hK : Back l R p e below s args y 3 8 (PreOf R mc ms Pc) (PostOf Qc mc ms free) := va_backW (hh := hh) (bytes := bytes) (maxL := maxL) (ret := ret) hM hp.1 hrc hrs hfr hlo hws hcw (fun a' U hW => word_at hW (Or.inl (by first | rfl | simp [Cond.onTables, Cond.keeps, Cond.steady])) hini)
  obtain ⟨hx, hb, hml, ho, -⟩ := S
  obtain ⟨-, ⟨cellB, hcB, hoB, hclB⟩, hPc⟩ := hp
  intro T hT X
  obtain ⟨v, vm₁, ⟨U', l2, c2, s2⟩, hW₁, X', ⟨g', mk, t, L, e1, e2, hq, h1, hL, h2, h3⟩, st⟩ := vx_callVW X hx (C := C) (hh := hh) (bytes := bytes) (maxL := maxL) (ret := ret) ho hl hin hse hcode hy hK (by rw [hT]; exact hcB) hoB hclB hg (hsize.trans hml.symm) (argsL := As) (rest := rest) (fun sig h => hn.trans (hlen sig h)) hstack hW (by rw [hb]; exact hdg)
    (fun vm₁ hW₁ => ⟨hf.1, hf.2, hPc (T.setVm vm₁) hT hW₁⟩)
  dsimp only [Pt.U, Pt.locs, Pt.cells, Pt.slots] at X' e1 e2 h1 h2 h3 st
  subst h1; subst h2; subst h3
  exact ⟨v, (T.setVm vm₁).calling g' mk (Value.ref b :: As).toArray, t, U', L, hT, X', hL, e1, e2, hq, st⟩
section
variable {y : MethodName} {bytes cc : ByteArray} {maxL nL mc ms n index : Nat} {ret : Option FieldType} {ws : List Cond} {rm : Room} {Pc : Array Value → State → Prop} {Qc : Array Value → State → Outcome → State → Prop} {XC : String → State → State → Prop} {free : Addr → Prop} {Ts : List Cond} {own C : String} {b : Addr} {As rest : List Value} {g : JFrame}
theorem vx_runVX {hh : List (Nat × Nat × Nat × Nat)} (S : CallFix p m c cc nL s args Ts own) (hM : vx_Met l y ws rm Pc Qc XC mc ms free) (cw : vx_CVW R s args own C index y bytes maxL ret hh ws rm mc ms n) (hp : PreV s H C b Pc As)
    (hg : g.method = m) (hn : As.length = n) (hsize : g.locals.size = nL) (hstack : g.stack = As.reverse ++ .ref b :: rest) (hW : 2 * g.monitorRoom + (rest.map fun v => v.category).sum ≤ 8) (hdg : decode cc g.pc = .ok (.invokevirtual index, 3)) (hf : cells + mc ≤ R.cells ∧ slots + ms ≤ R.slots) :
    vx_Run p l e R s m args below meth c H locs cells slots mc ms g rest (Qc (Value.ref b :: As).toArray) XC free := by
  obtain ⟨⟨hrc, hrs, hfr, hlo, hws, hcw⟩, hcode, hini, hy, hlen, hl, hin, hse⟩ := cw
  have hK : vx_Back l R p e below s args y 3 8 (PreOf R mc ms Pc) (PostOf Qc mc ms free) (vx_Post XC mc ms free) := vx_backW (hh := hh) (bytes := bytes) (maxL := maxL) (ret := ret) hM hp.1 hrc hrs hfr hlo hws hcw (fun a' U hW => word_at hW (Or.inl (by first | rfl | simp [Cond.onTables, Cond.keeps, Cond.steady])) hini)
  obtain ⟨hx, hb, hml, ho, -⟩ := S
  obtain ⟨-, ⟨cellB, hcB, hoB, hclB⟩, hPc⟩ := hp
  intro T hT X
  rcases vx_callVX X hx (C := C) (hh := hh) (bytes := bytes) (maxL := maxL) (ret := ret) ho hl hin hse hcode hy hK (by rw [hT]; exact hcB) hoB hclB hg (hsize.trans hml.symm) (argsL := As) (rest := rest) (fun sig h => hn.trans (hlen sig h)) hstack hW (by rw [hb]; exact hdg)
    (fun vm₁ hW₁ => ⟨hf.1, hf.2, hPc (T.setVm vm₁) hT hW₁⟩) with ⟨v, vm₁, ⟨U', l2, c2, s2⟩, hW₁, X', ⟨g', mk, t, L, e1, e2, hq, h1, hL, h2, h3⟩, st⟩ | ⟨q, vm₁, ⟨U', l2, c2, s2⟩, hW₁, X', ⟨g', mk, t, L, E, ce, e1, e2, hq, hce, hcv, hcl, h1, hL, h2, h3⟩, st⟩
  · dsimp only [Pt.U, Pt.locs, Pt.cells, Pt.slots] at X' e1 e2 h1 h2 h3 st
    subst h1; subst h2; subst h3
    exact Or.inl ⟨v, (T.setVm vm₁).calling g' mk (Value.ref b :: As).toArray, t, U', L, hT, X', hL, e1, e2, hq, st⟩
  · dsimp only [Pt.U, Pt.locs, Pt.cells, Pt.slots] at X' e1 e2 h1 h2 h3 st hcl
    subst h1; subst h2; subst h3
    exact Or.inr ⟨q, (T.setVm vm₁).calling g' mk (Value.ref b :: As).toArray, t, U', L, E, ce, hT, X', hL, e1, e2, hq, hce, hcv, vx_cls hW₁ hcl, st⟩
theorem vx_runSX {hh : List (Nat × Nat × Nat × Nat)} (S : CallFix p m c cc nL s args Ts own) (hM : vx_Met l y ws rm Pc Qc XC mc ms free) (cw : vx_CSW R s args own index y bytes maxL ret hh ws rm mc ms n) (hp : PreS s H Pc As)
    (hg : g.method = m) (hn : As.length = n) (hsize : g.locals.size = nL) (hstack : g.stack = As.reverse ++ rest) (hW : 2 * g.monitorRoom + (rest.map fun v => v.category).sum ≤ 8) (hdg : decode cc g.pc = .ok (.invokestatic index, 3)) (hf : cells + mc ≤ R.cells ∧ slots + ms ≤ R.slots) :
    vx_Run p l e R s m args below meth c H locs cells slots mc ms g rest (Qc As.toArray) XC free := by
  obtain ⟨⟨hrc, hrs, hfr, hlo, hws, hcw⟩, hcode, hini, hy, hlen, hl, hstt⟩ := cw
  have hK : vx_Back l R p e below s args y 3 8 (PreOf R mc ms Pc) (PostOf Qc mc ms free) (vx_Post XC mc ms free) := vx_backW (hh := hh) (bytes := bytes) (maxL := maxL) (ret := ret) hM hp.1 hrc hrs hfr hlo hws hcw (fun a' U hW => word_at hW (Or.inl (by first | rfl | simp [Cond.onTables, Cond.keeps, Cond.steady])) hini)
  obtain ⟨hx, hb, hml, ho, -⟩ := S
  intro T hT X
  rcases vx_callSX X hx (hh := hh) (bytes := bytes) (maxL := maxL) (ret := ret) ho hl hstt hini hcode hy hK hg (hsize.trans hml.symm) (argsL := As) (rest := rest) (fun sig h => hn.trans (hlen sig h)) hstack hW (by rw [hb]; exact hdg)
    (fun vm₁ hW₁ => ⟨hf.1, hf.2, hp.2 (T.setVm vm₁) hT hW₁⟩) with ⟨v, vm₁, ⟨U', l2, c2, s2⟩, hW₁, X', ⟨g', mk, t, L, e1, e2, hq, h1, hL, h2, h3⟩, st⟩ | ⟨q, vm₁, ⟨U', l2, c2, s2⟩, hW₁, X', ⟨g', mk, t, L, E, ce, e1, e2, hq, hce, hcv, hcl, h1, hL, h2, h3⟩, st⟩
  · dsimp only [Pt.U, Pt.locs, Pt.cells, Pt.slots] at X' e1 e2 h1 h2 h3 st
    subst h1; subst h2; subst h3
    exact Or.inl ⟨v, (T.setVm vm₁).calling g' mk As.toArray, t, U', L, hT, X', hL, e1, e2, hq, st⟩
  · dsimp only [Pt.U, Pt.locs, Pt.cells, Pt.slots] at X' e1 e2 h1 h2 h3 st hcl
    subst h1; subst h2; subst h3
    exact Or.inr ⟨q, (T.setVm vm₁).calling g' mk As.toArray, t, U', L, E, ce, hT, X', hL, e1, e2, hq, hce, hcv, vx_cls hW₁ hcl, st⟩
end
end VXH
theorem vx_ofWH {l : Launch} {y : MethodName} {ws ws' : List Cond} {rm : Room} {Pc : Array Value → State → Prop} {Qc : Array Value → State → Outcome → State → Prop} {XC : String → State → State → Prop} {mc ms : Nat} {free : Addr → Prop} {cc : ByteArray} {maxL : Nat} {ret : Option FieldType} {hh : List (Nat × Nat × Nat × Nat)}
    (hy : plainName y.cls = true) (hw : ws = Cond.codeWith y cc maxL ret hh :: ws')
    (body : ∀ p e s m args below meth c s₁, BodyLoose p l y (headSpec ws rm) cc maxL ret e s m args below meth c s₁ → c.maxLocals = maxL → Pc args s →
      W p l e (headSpec ws rm).room s m args below meth c s.heap [] 0 0 (vx_MQ below Qc XC args s mc ms free) (entryFrame m args maxL)) : vx_Met l y ws rm Pc Qc XC mc ms free := by
  refine MetFree.of_bodyS (code := cc) (maxLocals := maxL) (ret := ret) hy ?_ ?_
  · intro args s m h hn
    obtain ⟨m9, meth, c, hn9, h1, h2, h3, h4, -, h5, h6, -⟩ := Cond.codeWith_spec (atoms_spec (ws := ws) h _ (by rw [hw]; exact List.mem_cons_self))
    cases hn.symm.trans hn9
    exact ⟨meth, c, h1, h2, h3, h4, h5, h6⟩
  · intro p e s m args below meth c s₁ B hml hP _
    have hh0 : s₁.heap = s.heap := by rw [B.state]; rfl
    obtain ⟨t, a1, o, b1, b2, b3⟩ := body p e s m args below meth c s₁ B hml hP s₁ hh0 (Stand.of_body B)
    exact ⟨t, o, a1, b1, b2, b3⟩
/-! ===== END ===== -/
end
section
/-! ===== BEGIN printed: names, fields, word lists, decode rows ===== -/
def RX0 : String := "CatalogueHarvester$FarCatalogue"
def TX0 : u_T := fun k => match k with
  | 0 => ("CatalogueHarvester$FarCatalogue", "records", "LCatalogueHarvester$Records;", true)
  | 1 => ("CatalogueHarvester$FarCatalogue", "isTold", "[Z", true)
  | 2 => ("CatalogueHarvester$FarCatalogue", "toldStamps", "[I", true)
  | 3 => ("CatalogueHarvester$FarCatalogue", "removalDays", "[I", true)
  | 4 => ("CatalogueHarvester$FarCatalogue", "unit", "I", false)
  | _ => ("CatalogueHarvester$FarCatalogue", "deletes", "I", false)
def tyX0 : Nat → FieldType := fun k => match k with
  | 0 => .object "CatalogueHarvester$Records"
  | 1 => .array .boolean
  | 2 => .array .int
  | 3 => .array .int
  | 4 => .int
  | _ => .int
abbrev wsX00 : List Cond := u_ws RX0 TX0 6
theorem nmX0 : ∀ a, a < 6 → ∀ b, b < 6 → a ≠ b → (TX0 a).2.1 ≠ (TX0 b).2.1 := by decide +kernel
theorem tyX0_ok : ∀ k, k < 6 → parseFieldDescriptor (TX0 k).2.2.1 = some (tyX0 k) := by decide +kernel
abbrev cX0_init : ByteArray := prog_2_method_1_code
def yX0_init : MethodName := ⟨RX0, "<init>", "()V"⟩
abbrev cX0_stampOfDay : ByteArray := prog_2_method_2_code
def yX0_stampOfDay : MethodName := ⟨RX0, "stampOfDay", "(I)I"⟩
abbrev cX0_change : ByteArray := prog_2_method_3_code
def yX0_change : MethodName := ⟨RX0, "change", "(IIII)I"⟩
abbrev cX0_delete : ByteArray := prog_2_method_4_code
def yX0_delete : MethodName := ⟨RX0, "delete", "(II)Z"⟩
abbrev cX0_forgetToldDeletes : ByteArray := prog_2_method_5_code
def yX0_forgetToldDeletes : MethodName := ⟨RX0, "forgetToldDeletes", "(I)V"⟩
abbrev cX0_countTold : ByteArray := prog_2_method_6_code
def yX0_countTold : MethodName := ⟨RX0, "countTold", "()I"⟩
abbrev cX0_listedStamp : ByteArray := prog_2_method_7_code
def yX0_listedStamp : MethodName := ⟨RX0, "listedStamp", "(I)I"⟩
abbrev cX0_nextListed : ByteArray := prog_2_method_8_code
def yX0_nextListed : MethodName := ⟨RX0, "nextListed", "(III)I"⟩
def RX1 : String := "CatalogueHarvester$Harvest"
def TX1 : u_T := fun k => match k with
  | 0 => ("CatalogueHarvester$Harvest", "far", "LCatalogueHarvester$FarCatalogue;", true)
  | 1 => ("CatalogueHarvester$Harvest", "store", "LCatalogueHarvester$Records;", true)
  | 2 => ("CatalogueHarvester$Harvest", "mark", "I", false)
  | 3 => ("CatalogueHarvester$Harvest", "hasOpenList", "Z", false)
  | 4 => ("CatalogueHarvester$Harvest", "isFullList", "Z", false)
  | 5 => ("CatalogueHarvester$Harvest", "openingDay", "I", false)
  | 6 => ("CatalogueHarvester$Harvest", "tokenDay", "I", false)
  | 7 => ("CatalogueHarvester$Harvest", "placeStamp", "I", false)
  | 8 => ("CatalogueHarvester$Harvest", "placeRecord", "I", false)
  | _ => ("CatalogueHarvester$Harvest", "isTakenOver", "[Z", true)
def tyX1 : Nat → FieldType := fun k => match k with
  | 0 => .object "CatalogueHarvester$FarCatalogue"
  | 1 => .object "CatalogueHarvester$Records"
  | 2 => .int
  | 3 => .boolean
  | 4 => .boolean
  | 5 => .int
  | 6 => .int
  | 7 => .int
  | 8 => .int
  | _ => .array .boolean
abbrev wsX10 : List Cond := u_ws RX1 TX1 10
theorem nmX1 : ∀ a, a < 10 → ∀ b, b < 10 → a ≠ b → (TX1 a).2.1 ≠ (TX1 b).2.1 := by decide +kernel
theorem tyX1_ok : ∀ k, k < 10 → parseFieldDescriptor (TX1 k).2.2.1 = some (tyX1 k) := by decide +kernel
abbrev cX1_init : ByteArray := prog_3_method_1_code
def yX1_init : MethodName := ⟨RX1, "<init>", "()V"⟩
abbrev cX1_begin : ByteArray := prog_3_method_2_code
def yX1_begin : MethodName := ⟨RX1, "begin", "(ZI)V"⟩
abbrev cX1_firstStamp : ByteArray := prog_3_method_3_code
def yX1_firstStamp : MethodName := ⟨RX1, "firstStamp", "()I"⟩
abbrev cX1_takePage : ByteArray := prog_3_method_4_code
def yX1_takePage : MethodName := ⟨RX1, "takePage", "(I)I"⟩
abbrev cX1_nextOfList : ByteArray := prog_3_method_5_code
def yX1_nextOfList : MethodName := ⟨RX1, "nextOfList", "()I"⟩
abbrev cX1_takeOver : ByteArray := prog_3_method_6_code
def yX1_takeOver : MethodName := ⟨RX1, "takeOver", "(I)V"⟩
abbrev cX1_finish : ByteArray := prog_3_method_7_code
def yX1_finish : MethodName := ⟨RX1, "finish", "()V"⟩
abbrev cX1_dropWhatIsGone : ByteArray := prog_3_method_8_code
def yX1_dropWhatIsGone : MethodName := ⟨RX1, "dropWhatIsGone", "()V"⟩
def RX2 : String := "CatalogueHarvester$Records"
def TX2 : u_T := fun k => match k with
  | 0 => ("CatalogueHarvester$Records", "isThere", "[Z", true)
  | 1 => ("CatalogueHarvester$Records", "works", "[I", true)
  | 2 => ("CatalogueHarvester$Records", "values", "[I", true)
  | _ => ("CatalogueHarvester$Records", "stamps", "[I", true)
def tyX2 : Nat → FieldType := fun k => match k with
  | 0 => .array .boolean
  | 1 => .array .int
  | 2 => .array .int
  | _ => .array .int
abbrev wsX20 : List Cond := u_ws RX2 TX2 4
theorem nmX2 : ∀ a, a < 4 → ∀ b, b < 4 → a ≠ b → (TX2 a).2.1 ≠ (TX2 b).2.1 := by decide +kernel
theorem tyX2_ok : ∀ k, k < 4 → parseFieldDescriptor (TX2 k).2.2.1 = some (tyX2 k) := by decide +kernel
abbrev cX2_init : ByteArray := prog_4_method_1_code
def yX2_init : MethodName := ⟨RX2, "<init>", "()V"⟩
abbrev cX2_keep : ByteArray := prog_4_method_2_code
def yX2_keep : MethodName := ⟨RX2, "keep", "(IIII)V"⟩
abbrev cX2_drop : ByteArray := prog_4_method_3_code
def yX2_drop : MethodName := ⟨RX2, "drop", "(I)V"⟩
abbrev cX2_count : ByteArray := prog_4_method_4_code
def yX2_count : MethodName := ⟨RX2, "count", "()I"⟩
abbrev cX2_countOfWork : ByteArray := prog_4_method_5_code
def yX2_countOfWork : MethodName := ⟨RX2, "countOfWork", "(I)I"⟩
abbrev cX2_countUnlike : ByteArray := prog_4_method_6_code
def yX2_countUnlike : MethodName := ⟨RX2, "countUnlike", "(LCatalogueHarvester$Records;)I"⟩
abbrev cX2_isLike : ByteArray := prog_4_method_7_code
def yX2_isLike : MethodName := ⟨RX2, "isLike", "(LCatalogueHarvester$Records;I)Z"⟩
abbrev cX2_latestOfWork : ByteArray := prog_4_method_8_code
def yX2_latestOfWork : MethodName := ⟨RX2, "latestOfWork", "(I)I"⟩
def RX3 : String := "CatalogueHarvester"
def TX3 : u_T := fun k => match k with
  | 0 => ("CatalogueHarvester", "harvests", "[LCatalogueHarvester$Harvest;", true)
  | _ => ("CatalogueHarvester", "today", "I", false)
def tyX3 : Nat → FieldType := fun k => match k with
  | 0 => .array (.object "CatalogueHarvester$Harvest")
  | _ => .int
abbrev wsX30 : List Cond := u_ws RX3 TX3 2
theorem nmX3 : ∀ a, a < 2 → ∀ b, b < 2 → a ≠ b → (TX3 a).2.1 ≠ (TX3 b).2.1 := by decide +kernel
theorem tyX3_ok : ∀ k, k < 2 → parseFieldDescriptor (TX3 k).2.2.1 = some (tyX3 k) := by decide +kernel
abbrev cX3_init : ByteArray := prog_1_method_1_code
def yX3_init : MethodName := ⟨RX3, "<init>", "()V"⟩
abbrev cX3_setCatalogue : ByteArray := prog_1_method_2_code
def yX3_setCatalogue : MethodName := ⟨RX3, "setCatalogue", "(III)I"⟩
abbrev cX3_put : ByteArray := prog_1_method_3_code
def yX3_put : MethodName := ⟨RX3, "put", "(IIII)I"⟩
abbrev cX3_remove : ByteArray := prog_1_method_4_code
def yX3_remove : MethodName := ⟨RX3, "remove", "(II)Z"⟩
abbrev cX3_pass : ByteArray := prog_1_method_5_code
def yX3_pass : MethodName := ⟨RX3, "pass", "(I)I"⟩
abbrev cX3_today : ByteArray := prog_1_method_6_code
def yX3_today : MethodName := ⟨RX3, "today", "()I"⟩
abbrev cX3_far : ByteArray := prog_1_method_7_code
def yX3_far : MethodName := ⟨RX3, "far", "(I)I"⟩
abbrev cX3_told : ByteArray := prog_1_method_8_code
def yX3_told : MethodName := ⟨RX3, "told", "(I)I"⟩
abbrev cX3_open : ByteArray := prog_1_method_9_code
def yX3_open : MethodName := ⟨RX3, "open", "(IZ)I"⟩
abbrev cX3_read : ByteArray := prog_1_method_10_code
def yX3_read : MethodName := ⟨RX3, "read", "(I)I"⟩
abbrev cX3_isOpen : ByteArray := prog_1_method_11_code
def yX3_isOpen : MethodName := ⟨RX3, "isOpen", "(I)Z"⟩
abbrev cX3_mark : ByteArray := prog_1_method_12_code
def yX3_mark : MethodName := ⟨RX3, "mark", "(I)I"⟩
abbrev cX3_stored : ByteArray := prog_1_method_13_code
def yX3_stored : MethodName := ⟨RX3, "stored", "(II)I"⟩
abbrev cX3_held : ByteArray := prog_1_method_14_code
def yX3_held : MethodName := ⟨RX3, "held", "(I)I"⟩
abbrev cX3_wrong : ByteArray := prog_1_method_15_code
def yX3_wrong : MethodName := ⟨RX3, "wrong", "(I)I"⟩
abbrev cX3_copies : ByteArray := prog_1_method_16_code
def yX3_copies : MethodName := ⟨RX3, "copies", "(I)I"⟩
abbrev cX3_best : ByteArray := prog_1_method_17_code
def yX3_best : MethodName := ⟨RX3, "best", "(I)I"⟩
abbrev cX3_harvestOf : ByteArray := prog_1_method_18_code
def yX3_harvestOf : MethodName := ⟨RX3, "harvestOf", "(I)LCatalogueHarvester$Harvest;"⟩
abbrev cX3_refuseRecord : ByteArray := prog_1_method_19_code
def yX3_refuseRecord : MethodName := ⟨RX3, "refuseRecord", "(I)V"⟩
abbrev cX3_refuseOutside : ByteArray := prog_1_method_20_code
def yX3_refuseOutside : MethodName := ⟨RX3, "refuseOutside", "(III)V"⟩
def RX4 : String := "CatalogueHarvesterModel"
def TX4 : u_T := fun k => match k with
  | 0 => ("CatalogueHarvesterModel", "today", "I", false)
  | 1 => ("CatalogueHarvesterModel", "units", "[I", true)
  | 2 => ("CatalogueHarvesterModel", "ways", "[I", true)
  | 3 => ("CatalogueHarvesterModel", "kinds", "[I", true)
  | 4 => ("CatalogueHarvesterModel", "works", "[I", true)
  | 5 => ("CatalogueHarvesterModel", "values", "[I", true)
  | 6 => ("CatalogueHarvesterModel", "stamps", "[I", true)
  | 7 => ("CatalogueHarvesterModel", "removedOn", "[I", true)
  | 8 => ("CatalogueHarvesterModel", "marks", "[I", true)
  | 9 => ("CatalogueHarvesterModel", "isOpen", "[Z", true)
  | 10 => ("CatalogueHarvesterModel", "isFull", "[Z", true)
  | 11 => ("CatalogueHarvesterModel", "froms", "[I", true)
  | 12 => ("CatalogueHarvesterModel", "openedOn", "[I", true)
  | 13 => ("CatalogueHarvesterModel", "readOn", "[I", true)
  | 14 => ("CatalogueHarvesterModel", "placeStamps", "[I", true)
  | 15 => ("CatalogueHarvesterModel", "placeRecords", "[I", true)
  | 16 => ("CatalogueHarvesterModel", "isHeld", "[Z", true)
  | 17 => ("CatalogueHarvesterModel", "heldWorks", "[I", true)
  | 18 => ("CatalogueHarvesterModel", "heldValues", "[I", true)
  | 19 => ("CatalogueHarvesterModel", "heldStamps", "[I", true)
  | 20 => ("CatalogueHarvesterModel", "wasSeen", "[Z", true)
  | _ => ("CatalogueHarvesterModel", "thrown", "I", false)
def tyX4 : Nat → FieldType := fun k => match k with
  | 0 => .int
  | 1 => .array .int
  | 2 => .array .int
  | 3 => .array .int
  | 4 => .array .int
  | 5 => .array .int
  | 6 => .array .int
  | 7 => .array .int
  | 8 => .array .int
  | 9 => .array .boolean
  | 10 => .array .boolean
  | 11 => .array .int
  | 12 => .array .int
  | 13 => .array .int
  | 14 => .array .int
  | 15 => .array .int
  | 16 => .array .boolean
  | 17 => .array .int
  | 18 => .array .int
  | 19 => .array .int
  | 20 => .array .boolean
  | _ => .int
abbrev wsX40 : List Cond := u_ws RX4 TX4 22
theorem nmX4 : ∀ a, a < 22 → ∀ b, b < 22 → a ≠ b → (TX4 a).2.1 ≠ (TX4 b).2.1 := by decide +kernel
theorem tyX4_ok : ∀ k, k < 22 → parseFieldDescriptor (TX4 k).2.2.1 = some (tyX4 k) := by decide +kernel
abbrev cX4_init : ByteArray := prog_6_method_1_code
def yX4_init : MethodName := ⟨RX4, "<init>", "()V"⟩
abbrev cX4_thrown : ByteArray := prog_6_method_2_code
def yX4_thrown : MethodName := ⟨RX4, "thrown", "()I"⟩
abbrev cX4_goes : ByteArray := prog_6_method_3_code
def yX4_goes : MethodName := ⟨RX4, "goes", "(I)Z"⟩
abbrev cX4_isIn : ByteArray := prog_6_method_4_code
def yX4_isIn : MethodName := ⟨RX4, "isIn", "(III)Z"⟩
abbrev cX4_isCatalogue : ByteArray := prog_6_method_5_code
def yX4_isCatalogue : MethodName := ⟨RX4, "isCatalogue", "(I)Z"⟩
abbrev cX4_isRecord : ByteArray := prog_6_method_6_code
def yX4_isRecord : MethodName := ⟨RX4, "isRecord", "(I)Z"⟩
abbrev cX4_stamp : ByteArray := prog_6_method_7_code
def yX4_stamp : MethodName := ⟨RX4, "stamp", "(II)I"⟩
abbrev cX4_clears : ByteArray := prog_6_method_8_code
def yX4_clears : MethodName := ⟨RX4, "clears", "(I)V"⟩
abbrev cX4_setCatalogue : ByteArray := prog_6_method_9_code
def yX4_setCatalogue : MethodName := ⟨RX4, "setCatalogue", "(III)I"⟩
abbrev cX4_put : ByteArray := prog_6_method_10_code
def yX4_put : MethodName := ⟨RX4, "put", "(IIII)I"⟩
abbrev cX4_remove : ByteArray := prog_6_method_11_code
def yX4_remove : MethodName := ⟨RX4, "remove", "(II)Z"⟩
abbrev cX4_pass : ByteArray := prog_6_method_12_code
def yX4_pass : MethodName := ⟨RX4, "pass", "(I)I"⟩
abbrev cX4_today : ByteArray := prog_6_method_13_code
def yX4_today : MethodName := ⟨RX4, "today", "()I"⟩
abbrev cX4_count : ByteArray := prog_6_method_14_code
def yX4_count : MethodName := ⟨RX4, "count", "(II)I"⟩
abbrev cX4_asks : ByteArray := prog_6_method_15_code
def yX4_asks : MethodName := ⟨RX4, "asks", "(I)Z"⟩
abbrev cX4_far : ByteArray := prog_6_method_16_code
def yX4_far : MethodName := ⟨RX4, "far", "(I)I"⟩
abbrev cX4_told : ByteArray := prog_6_method_17_code
def yX4_told : MethodName := ⟨RX4, "told", "(I)I"⟩
abbrev cX4_begins : ByteArray := prog_6_method_18_code
def yX4_begins : MethodName := ⟨RX4, "begins", "(I)V"⟩
abbrev cX4_open : ByteArray := prog_6_method_19_code
def yX4_open : MethodName := ⟨RX4, "open", "(IZ)I"⟩
abbrev cX4_next : ByteArray := prog_6_method_20_code
def yX4_next : MethodName := ⟨RX4, "next", "(I)I"⟩
abbrev cX4_takes : ByteArray := prog_6_method_21_code
def yX4_takes : MethodName := ⟨RX4, "takes", "(II)V"⟩
abbrev cX4_read : ByteArray := prog_6_method_22_code
def yX4_read : MethodName := ⟨RX4, "read", "(I)I"⟩
abbrev cX4_isOpen : ByteArray := prog_6_method_23_code
def yX4_isOpen : MethodName := ⟨RX4, "isOpen", "(I)Z"⟩
abbrev cX4_mark : ByteArray := prog_6_method_24_code
def yX4_mark : MethodName := ⟨RX4, "mark", "(I)I"⟩
abbrev cX4_stored : ByteArray := prog_6_method_25_code
def yX4_stored : MethodName := ⟨RX4, "stored", "(II)I"⟩
abbrev cX4_held : ByteArray := prog_6_method_26_code
def yX4_held : MethodName := ⟨RX4, "held", "(I)I"⟩
abbrev cX4_isAlike : ByteArray := prog_6_method_27_code
def yX4_isAlike : MethodName := ⟨RX4, "isAlike", "(I)Z"⟩
abbrev cX4_wrong : ByteArray := prog_6_method_28_code
def yX4_wrong : MethodName := ⟨RX4, "wrong", "(I)I"⟩
abbrev cX4_isWork : ByteArray := prog_6_method_29_code
def yX4_isWork : MethodName := ⟨RX4, "isWork", "(I)Z"⟩
abbrev cX4_copies : ByteArray := prog_6_method_30_code
def yX4_copies : MethodName := ⟨RX4, "copies", "(I)I"⟩
abbrev cX4_best : ByteArray := prog_6_method_31_code
def yX4_best : MethodName := ⟨RX4, "best", "(I)I"⟩
def RJ0 : String := "java/lang/String"
def TJ0 : u_T := fun k => match k with
  | _ => ("", "", "", false)
def tyJ0 : Nat → FieldType := fun k => match k with
  | _ => .int
abbrev wsJ00 : List Cond := u_ws RJ0 TJ0 0
theorem nmJ0 : ∀ a, a < 0 → ∀ b, b < 0 → a ≠ b → (TJ0 a).2.1 ≠ (TJ0 b).2.1 := by decide +kernel
theorem tyJ0_ok : ∀ k, k < 0 → parseFieldDescriptor (TJ0 k).2.2.1 = some (tyJ0 k) := by decide +kernel
def RL : String := "CatalogueHarvesterLaw"
abbrev cL_setCatalogue : ByteArray := method_3_code
def yL_setCatalogue : MethodName := ⟨RL, "setCatalogue", "(LCatalogueHarvester;III[J)I"⟩
abbrev cL_put : ByteArray := method_4_code
def yL_put : MethodName := ⟨RL, "put", "(LCatalogueHarvester;IIII[J)I"⟩
abbrev cL_remove : ByteArray := method_5_code
def yL_remove : MethodName := ⟨RL, "remove", "(LCatalogueHarvester;II[J)I"⟩
abbrev cL_pass : ByteArray := method_6_code
def yL_pass : MethodName := ⟨RL, "pass", "(LCatalogueHarvester;I[J)I"⟩
abbrev cL_far : ByteArray := method_7_code
def yL_far : MethodName := ⟨RL, "far", "(LCatalogueHarvester;I[J)I"⟩
abbrev cL_told : ByteArray := method_8_code
def yL_told : MethodName := ⟨RL, "told", "(LCatalogueHarvester;I[J)I"⟩
abbrev cL_open : ByteArray := method_9_code
def yL_open : MethodName := ⟨RL, "open", "(LCatalogueHarvester;IZ[J)I"⟩
abbrev cL_read : ByteArray := method_10_code
def yL_read : MethodName := ⟨RL, "read", "(LCatalogueHarvester;I[J)I"⟩
abbrev cL_isOpen : ByteArray := method_11_code
def yL_isOpen : MethodName := ⟨RL, "isOpen", "(LCatalogueHarvester;I[J)I"⟩
abbrev cL_mark : ByteArray := method_12_code
def yL_mark : MethodName := ⟨RL, "mark", "(LCatalogueHarvester;I[J)I"⟩
abbrev cL_stored : ByteArray := method_13_code
def yL_stored : MethodName := ⟨RL, "stored", "(LCatalogueHarvester;II[J)I"⟩
abbrev cL_held : ByteArray := method_14_code
def yL_held : MethodName := ⟨RL, "held", "(LCatalogueHarvester;I[J)I"⟩
abbrev cL_wrong : ByteArray := method_15_code
def yL_wrong : MethodName := ⟨RL, "wrong", "(LCatalogueHarvester;I[J)I"⟩
abbrev cL_copies : ByteArray := method_16_code
def yL_copies : MethodName := ⟨RL, "copies", "(LCatalogueHarvester;I[J)I"⟩
abbrev cL_best : ByteArray := method_17_code
def yL_best : MethodName := ⟨RL, "best", "(LCatalogueHarvester;I[J)I"⟩
abbrev cL_law : ByteArray := code
def yL_law : MethodName := ⟨RL, "law", "([I)Z"⟩
def wsX2_init : List Cond := .code yX2_init cX2_init 1 none :: ([.methodLink RX2 3 objectInit, .instanceMethod objectInit, .code objectInit ⟨#[0xb1]⟩ 1 none, .arrayClass .boolean, .fieldLink RX2 9 "CatalogueHarvester$Records" "isThere" "[Z", .arrayClass .int, .fieldLink RX2 15 "CatalogueHarvester$Records" "works" "[I", .fieldLink RX2 19 "CatalogueHarvester$Records" "values" "[I", .fieldLink RX2 22 "CatalogueHarvester$Records" "stamps" "[I"] ++ wsX20)
def wsX0_init : List Cond := .code yX0_init cX0_init 1 none :: ([.methodLink RX0 3 objectInit, .instanceMethod objectInit, .code objectInit ⟨#[0xb1]⟩ 1 none, .classLink RX0 9 RX2, .instantiable RX2 4, .initialized RX2, .fieldLink RX0 12 "CatalogueHarvester$FarCatalogue" "records" "LCatalogueHarvester$Records;", .arrayClass .boolean, .fieldLink RX0 18 "CatalogueHarvester$FarCatalogue" "isTold" "[Z", .arrayClass .int, .fieldLink RX0 22 "CatalogueHarvester$FarCatalogue" "toldStamps" "[I", .fieldLink RX0 26 "CatalogueHarvester$FarCatalogue" "removalDays" "[I", .fieldLink RX0 29 "CatalogueHarvester$FarCatalogue" "unit" "I", .fieldLink RX0 33 "CatalogueHarvester$FarCatalogue" "deletes" "I", .instanceMethod yX2_init, .code yX2_init cX2_init 1 none, .methodLink RX2 3 objectInit, .fieldLink RX2 9 "CatalogueHarvester$Records" "isThere" "[Z", .fieldLink RX2 15 "CatalogueHarvester$Records" "works" "[I", .fieldLink RX2 19 "CatalogueHarvester$Records" "values" "[I", .fieldLink RX2 22 "CatalogueHarvester$Records" "stamps" "[I"] ++ wsX20 ++ wsX00)
def wsX0_stampOfDay : List Cond := .code yX0_stampOfDay cX0_stampOfDay 2 (some .int) :: ([.fieldLink RX0 29 "CatalogueHarvester$FarCatalogue" "unit" "I"] ++ wsX00)
def wsX2_keep : List Cond := .code yX2_keep cX2_keep 5 none :: ([.fieldLink RX2 9 "CatalogueHarvester$Records" "isThere" "[Z", .fieldLink RX2 15 "CatalogueHarvester$Records" "works" "[I", .fieldLink RX2 19 "CatalogueHarvester$Records" "values" "[I", .fieldLink RX2 22 "CatalogueHarvester$Records" "stamps" "[I"] ++ wsX20)
def wsX0_change : List Cond := .code yX0_change cX0_change 6 (some .int) :: ([.fieldLink RX0 12 "CatalogueHarvester$FarCatalogue" "records" "LCatalogueHarvester$Records;", .fieldLink RX0 18 "CatalogueHarvester$FarCatalogue" "isTold" "[Z", .methodLink RX0 36 yX0_stampOfDay, .instanceMethod yX0_stampOfDay, .selects RX0 yX0_stampOfDay yX0_stampOfDay, .initialized RX0, .code yX0_stampOfDay cX0_stampOfDay 2 (some .int), .fieldLink RX0 29 "CatalogueHarvester$FarCatalogue" "unit" "I", .methodLink RX0 40 yX2_keep, .instanceMethod yX2_keep, .selects RX2 yX2_keep yX2_keep, .initialized RX2, .code yX2_keep cX2_keep 5 none, .fieldLink RX2 9 "CatalogueHarvester$Records" "isThere" "[Z", .fieldLink RX2 15 "CatalogueHarvester$Records" "works" "[I", .fieldLink RX2 19 "CatalogueHarvester$Records" "values" "[I", .fieldLink RX2 22 "CatalogueHarvester$Records" "stamps" "[I"] ++ wsX00 ++ wsX20)
def wsX2_drop : List Cond := .code yX2_drop cX2_drop 2 none :: ([.fieldLink RX2 9 "CatalogueHarvester$Records" "isThere" "[Z"] ++ wsX20)
def wsX0_delete : List Cond := .code yX0_delete cX0_delete 3 (some .boolean) :: ([.fieldLink RX0 12 "CatalogueHarvester$FarCatalogue" "records" "LCatalogueHarvester$Records;", .fieldLink RX0 18 "CatalogueHarvester$FarCatalogue" "isTold" "[Z", .fieldLink RX0 33 "CatalogueHarvester$FarCatalogue" "deletes" "I", .fieldLink RX0 22 "CatalogueHarvester$FarCatalogue" "toldStamps" "[I", .fieldLink RX0 26 "CatalogueHarvester$FarCatalogue" "removalDays" "[I", .methodLink RX0 44 yX2_drop, .instanceMethod yX2_drop, .selects RX2 yX2_drop yX2_drop, .initialized RX2, .code yX2_drop cX2_drop 2 none, .fieldLink RX2 9 "CatalogueHarvester$Records" "isThere" "[Z", .methodLink RX0 36 yX0_stampOfDay, .instanceMethod yX0_stampOfDay, .selects RX0 yX0_stampOfDay yX0_stampOfDay, .initialized RX0, .code yX0_stampOfDay cX0_stampOfDay 2 (some .int), .fieldLink RX0 29 "CatalogueHarvester$FarCatalogue" "unit" "I"] ++ wsX00 ++ wsX20)
def wsX0_forgetToldDeletes : List Cond := .code yX0_forgetToldDeletes cX0_forgetToldDeletes 4 none :: ([.fieldLink RX0 26 "CatalogueHarvester$FarCatalogue" "removalDays" "[I", .fieldLink RX0 33 "CatalogueHarvester$FarCatalogue" "deletes" "I", .fieldLink RX0 18 "CatalogueHarvester$FarCatalogue" "isTold" "[Z"] ++ wsX00)
def wsX0_countTold : List Cond := .code yX0_countTold cX0_countTold 3 (some .int) :: ([.fieldLink RX0 18 "CatalogueHarvester$FarCatalogue" "isTold" "[Z"] ++ wsX00)
def wsX0_listedStamp : List Cond := .code yX0_listedStamp cX0_listedStamp 2 (some .int) :: ([.fieldLink RX0 12 "CatalogueHarvester$FarCatalogue" "records" "LCatalogueHarvester$Records;", .fieldLink RX0 48 "CatalogueHarvester$Records" "isThere" "[Z", .fieldLink RX0 51 "CatalogueHarvester$Records" "stamps" "[I", .fieldLink RX0 18 "CatalogueHarvester$FarCatalogue" "isTold" "[Z", .fieldLink RX0 22 "CatalogueHarvester$FarCatalogue" "toldStamps" "[I"] ++ wsX00 ++ wsX20)
def wsX0_nextListed : List Cond := .code yX0_nextListed cX0_nextListed 10 (some .int) :: ([.methodLink RX0 54 yX0_listedStamp, .instanceMethod yX0_listedStamp, .selects RX0 yX0_listedStamp yX0_listedStamp, .initialized RX0, .code yX0_listedStamp cX0_listedStamp 2 (some .int), .fieldLink RX0 12 "CatalogueHarvester$FarCatalogue" "records" "LCatalogueHarvester$Records;", .fieldLink RX0 48 "CatalogueHarvester$Records" "isThere" "[Z", .fieldLink RX0 51 "CatalogueHarvester$Records" "stamps" "[I", .fieldLink RX0 18 "CatalogueHarvester$FarCatalogue" "isTold" "[Z", .fieldLink RX0 22 "CatalogueHarvester$FarCatalogue" "toldStamps" "[I"] ++ wsX00 ++ wsX20)
def wsX1_init_r1 : List Cond := [Cond.methodLink RX1 3 objectInit, Cond.instanceMethod objectInit, Cond.code objectInit ⟨#[0xb1]⟩ 1 none, Cond.classLink RX1 9 RX0, Cond.instantiable RX0 6, Cond.initialized RX0, Cond.fieldLink RX1 12 "CatalogueHarvester$Harvest" "far" "LCatalogueHarvester$FarCatalogue;", Cond.classLink RX1 18 RX2, Cond.instantiable RX2 4, Cond.initialized RX2, Cond.fieldLink RX1 21 "CatalogueHarvester$Harvest" "store" "LCatalogueHarvester$Records;", Cond.fieldLink RX1 25 "CatalogueHarvester$Harvest" "mark" "I", Cond.fieldLink RX1 29 "CatalogueHarvester$Harvest" "hasOpenList" "Z", Cond.fieldLink RX1 33 "CatalogueHarvester$Harvest" "isFullList" "Z", Cond.fieldLink RX1 36 "CatalogueHarvester$Harvest" "openingDay" "I", Cond.fieldLink RX1 39 "CatalogueHarvester$Harvest" "tokenDay" "I", Cond.fieldLink RX1 42 "CatalogueHarvester$Harvest" "placeStamp" "I", Cond.fieldLink RX1 45 "CatalogueHarvester$Harvest" "placeRecord" "I", Cond.arrayClass .boolean, Cond.fieldLink RX1 48 "CatalogueHarvester$Harvest" "isTakenOver" "[Z", Cond.instanceMethod yX0_init, Cond.code yX0_init cX0_init 1 none, Cond.methodLink RX0 3 objectInit, Cond.classLink RX0 9 RX2]
def wsX1_init_r2 : List Cond := [Cond.fieldLink RX0 12 "CatalogueHarvester$FarCatalogue" "records" "LCatalogueHarvester$Records;", Cond.fieldLink RX0 18 "CatalogueHarvester$FarCatalogue" "isTold" "[Z", Cond.arrayClass .int, Cond.fieldLink RX0 22 "CatalogueHarvester$FarCatalogue" "toldStamps" "[I", Cond.fieldLink RX0 26 "CatalogueHarvester$FarCatalogue" "removalDays" "[I", Cond.fieldLink RX0 29 "CatalogueHarvester$FarCatalogue" "unit" "I", Cond.fieldLink RX0 33 "CatalogueHarvester$FarCatalogue" "deletes" "I", Cond.instanceMethod yX2_init, Cond.code yX2_init cX2_init 1 none, Cond.methodLink RX2 3 objectInit, Cond.fieldLink RX2 9 "CatalogueHarvester$Records" "isThere" "[Z", Cond.fieldLink RX2 15 "CatalogueHarvester$Records" "works" "[I", Cond.fieldLink RX2 19 "CatalogueHarvester$Records" "values" "[I", Cond.fieldLink RX2 22 "CatalogueHarvester$Records" "stamps" "[I"]
def wsX1_init : List Cond := .code yX1_init cX1_init 1 none :: ((wsX1_init_r1 ++ wsX1_init_r2) ++ wsX00 ++ wsX10 ++ wsX20)
def wsX1_begin : List Cond := .code yX1_begin cX1_begin 4 none :: ([.fieldLink RX1 29 "CatalogueHarvester$Harvest" "hasOpenList" "Z", .fieldLink RX1 33 "CatalogueHarvester$Harvest" "isFullList" "Z", .fieldLink RX1 36 "CatalogueHarvester$Harvest" "openingDay" "I", .fieldLink RX1 39 "CatalogueHarvester$Harvest" "tokenDay" "I", .fieldLink RX1 42 "CatalogueHarvester$Harvest" "placeStamp" "I", .fieldLink RX1 45 "CatalogueHarvester$Harvest" "placeRecord" "I", .fieldLink RX1 48 "CatalogueHarvester$Harvest" "isTakenOver" "[Z"] ++ wsX10)
def wsX1_firstStamp : List Cond := .code yX1_firstStamp cX1_firstStamp 1 (some .int) :: ([.fieldLink RX1 33 "CatalogueHarvester$Harvest" "isFullList" "Z", .fieldLink RX1 25 "CatalogueHarvester$Harvest" "mark" "I"] ++ wsX10)
def wsX1_nextOfList : List Cond := .code yX1_nextOfList cX1_nextOfList 1 (some .int) :: ([.fieldLink RX1 12 "CatalogueHarvester$Harvest" "far" "LCatalogueHarvester$FarCatalogue;", .fieldLink RX1 42 "CatalogueHarvester$Harvest" "placeStamp" "I", .fieldLink RX1 45 "CatalogueHarvester$Harvest" "placeRecord" "I", .methodLink RX1 67 yX1_firstStamp, .instanceMethod yX1_firstStamp, .selects RX1 yX1_firstStamp yX1_firstStamp, .initialized RX1, .code yX1_firstStamp cX1_firstStamp 1 (some .int), .fieldLink RX1 33 "CatalogueHarvester$Harvest" "isFullList" "Z", .fieldLink RX1 25 "CatalogueHarvester$Harvest" "mark" "I", .methodLink RX1 70 yX0_nextListed, .instanceMethod yX0_nextListed, .selects RX0 yX0_nextListed yX0_nextListed, .initialized RX0, .code yX0_nextListed cX0_nextListed 10 (some .int), .methodLink RX0 54 yX0_listedStamp, .instanceMethod yX0_listedStamp, .selects RX0 yX0_listedStamp yX0_listedStamp, .code yX0_listedStamp cX0_listedStamp 2 (some .int), .fieldLink RX0 12 "CatalogueHarvester$FarCatalogue" "records" "LCatalogueHarvester$Records;", .fieldLink RX0 48 "CatalogueHarvester$Records" "isThere" "[Z", .fieldLink RX0 51 "CatalogueHarvester$Records" "stamps" "[I", .fieldLink RX0 18 "CatalogueHarvester$FarCatalogue" "isTold" "[Z", .fieldLink RX0 22 "CatalogueHarvester$FarCatalogue" "toldStamps" "[I"] ++ wsX10 ++ wsX00 ++ wsX20)
def wsX1_takeOver_r1 : List Cond := [Cond.fieldLink RX1 12 "CatalogueHarvester$Harvest" "far" "LCatalogueHarvester$FarCatalogue;", Cond.fieldLink RX1 42 "CatalogueHarvester$Harvest" "placeStamp" "I", Cond.fieldLink RX1 45 "CatalogueHarvester$Harvest" "placeRecord" "I", Cond.fieldLink RX1 78 "CatalogueHarvester$FarCatalogue" "records" "LCatalogueHarvester$Records;", Cond.fieldLink RX1 81 "CatalogueHarvester$Records" "isThere" "[Z", Cond.fieldLink RX1 21 "CatalogueHarvester$Harvest" "store" "LCatalogueHarvester$Records;", Cond.fieldLink RX1 84 "CatalogueHarvester$Records" "works" "[I", Cond.fieldLink RX1 88 "CatalogueHarvester$Records" "values" "[I", Cond.fieldLink RX1 91 "CatalogueHarvester$Records" "stamps" "[I", Cond.fieldLink RX1 48 "CatalogueHarvester$Harvest" "isTakenOver" "[Z", Cond.methodLink RX1 74 yX0_listedStamp, Cond.instanceMethod yX0_listedStamp, Cond.selects RX0 yX0_listedStamp yX0_listedStamp, Cond.initialized RX0, Cond.code yX0_listedStamp cX0_listedStamp 2 (some .int), Cond.fieldLink RX0 12 "CatalogueHarvester$FarCatalogue" "records" "LCatalogueHarvester$Records;", Cond.fieldLink RX0 48 "CatalogueHarvester$Records" "isThere" "[Z", Cond.fieldLink RX0 51 "CatalogueHarvester$Records" "stamps" "[I", Cond.fieldLink RX0 18 "CatalogueHarvester$FarCatalogue" "isTold" "[Z", Cond.fieldLink RX0 22 "CatalogueHarvester$FarCatalogue" "toldStamps" "[I", Cond.methodLink RX1 94 yX2_keep, Cond.instanceMethod yX2_keep, Cond.selects RX2 yX2_keep yX2_keep, Cond.initialized RX2]
def wsX1_takeOver_r2 : List Cond := [Cond.code yX2_keep cX2_keep 5 none, Cond.fieldLink RX2 9 "CatalogueHarvester$Records" "isThere" "[Z", Cond.fieldLink RX2 15 "CatalogueHarvester$Records" "works" "[I", Cond.fieldLink RX2 19 "CatalogueHarvester$Records" "values" "[I", Cond.fieldLink RX2 22 "CatalogueHarvester$Records" "stamps" "[I", Cond.methodLink RX1 98 yX2_drop, Cond.instanceMethod yX2_drop, Cond.selects RX2 yX2_drop yX2_drop, Cond.code yX2_drop cX2_drop 2 none]
def wsX1_takeOver : List Cond := .code yX1_takeOver cX1_takeOver 3 none :: ((wsX1_takeOver_r1 ++ wsX1_takeOver_r2) ++ wsX10 ++ wsX00 ++ wsX20)
def wsX1_dropWhatIsGone : List Cond := .code yX1_dropWhatIsGone cX1_dropWhatIsGone 2 none :: ([.fieldLink RX1 48 "CatalogueHarvester$Harvest" "isTakenOver" "[Z", .fieldLink RX1 21 "CatalogueHarvester$Harvest" "store" "LCatalogueHarvester$Records;", .methodLink RX1 98 yX2_drop, .instanceMethod yX2_drop, .selects RX2 yX2_drop yX2_drop, .initialized RX2, .code yX2_drop cX2_drop 2 none, .fieldLink RX2 9 "CatalogueHarvester$Records" "isThere" "[Z"] ++ wsX10 ++ wsX20)
def wsX1_finish : List Cond := .code yX1_finish cX1_finish 1 none :: ([.fieldLink RX1 29 "CatalogueHarvester$Harvest" "hasOpenList" "Z", .fieldLink RX1 12 "CatalogueHarvester$Harvest" "far" "LCatalogueHarvester$FarCatalogue;", .fieldLink RX1 36 "CatalogueHarvester$Harvest" "openingDay" "I", .fieldLink RX1 25 "CatalogueHarvester$Harvest" "mark" "I", .fieldLink RX1 33 "CatalogueHarvester$Harvest" "isFullList" "Z", .methodLink RX1 101 yX0_stampOfDay, .instanceMethod yX0_stampOfDay, .selects RX0 yX0_stampOfDay yX0_stampOfDay, .initialized RX0, .code yX0_stampOfDay cX0_stampOfDay 2 (some .int), .fieldLink RX0 29 "CatalogueHarvester$FarCatalogue" "unit" "I", .methodLink RX1 104 yX1_dropWhatIsGone, .instanceMethod yX1_dropWhatIsGone, .selects RX1 yX1_dropWhatIsGone yX1_dropWhatIsGone, .initialized RX1, .code yX1_dropWhatIsGone cX1_dropWhatIsGone 2 none, .fieldLink RX1 48 "CatalogueHarvester$Harvest" "isTakenOver" "[Z", .fieldLink RX1 21 "CatalogueHarvester$Harvest" "store" "LCatalogueHarvester$Records;", .methodLink RX1 98 yX2_drop, .instanceMethod yX2_drop, .selects RX2 yX2_drop yX2_drop, .initialized RX2, .code yX2_drop cX2_drop 2 none, .fieldLink RX2 9 "CatalogueHarvester$Records" "isThere" "[Z"] ++ wsX10 ++ wsX00 ++ wsX20)
def wsX1_takePage_r1 : List Cond := [Cond.fieldLink RX1 39 "CatalogueHarvester$Harvest" "tokenDay" "I", Cond.fieldLink RX1 33 "CatalogueHarvester$Harvest" "isFullList" "Z", Cond.methodLink RX1 52 yX1_begin, Cond.instanceMethod yX1_begin, Cond.selects RX1 yX1_begin yX1_begin, Cond.initialized RX1, Cond.code yX1_begin cX1_begin 4 none, Cond.fieldLink RX1 29 "CatalogueHarvester$Harvest" "hasOpenList" "Z", Cond.fieldLink RX1 36 "CatalogueHarvester$Harvest" "openingDay" "I", Cond.fieldLink RX1 42 "CatalogueHarvester$Harvest" "placeStamp" "I", Cond.fieldLink RX1 45 "CatalogueHarvester$Harvest" "placeRecord" "I", Cond.fieldLink RX1 48 "CatalogueHarvester$Harvest" "isTakenOver" "[Z", Cond.methodLink RX1 56 yX1_nextOfList, Cond.instanceMethod yX1_nextOfList, Cond.selects RX1 yX1_nextOfList yX1_nextOfList, Cond.code yX1_nextOfList cX1_nextOfList 1 (some .int), Cond.fieldLink RX1 12 "CatalogueHarvester$Harvest" "far" "LCatalogueHarvester$FarCatalogue;", Cond.methodLink RX1 67 yX1_firstStamp, Cond.instanceMethod yX1_firstStamp, Cond.selects RX1 yX1_firstStamp yX1_firstStamp, Cond.code yX1_firstStamp cX1_firstStamp 1 (some .int), Cond.fieldLink RX1 25 "CatalogueHarvester$Harvest" "mark" "I", Cond.methodLink RX1 70 yX0_nextListed, Cond.instanceMethod yX0_nextListed]
def wsX1_takePage_r2 : List Cond := [Cond.selects RX0 yX0_nextListed yX0_nextListed, Cond.initialized RX0, Cond.code yX0_nextListed cX0_nextListed 10 (some .int), Cond.methodLink RX0 54 yX0_listedStamp, Cond.instanceMethod yX0_listedStamp, Cond.selects RX0 yX0_listedStamp yX0_listedStamp, Cond.code yX0_listedStamp cX0_listedStamp 2 (some .int), Cond.fieldLink RX0 12 "CatalogueHarvester$FarCatalogue" "records" "LCatalogueHarvester$Records;", Cond.fieldLink RX0 48 "CatalogueHarvester$Records" "isThere" "[Z", Cond.fieldLink RX0 51 "CatalogueHarvester$Records" "stamps" "[I", Cond.fieldLink RX0 18 "CatalogueHarvester$FarCatalogue" "isTold" "[Z", Cond.fieldLink RX0 22 "CatalogueHarvester$FarCatalogue" "toldStamps" "[I", Cond.methodLink RX1 60 yX1_takeOver, Cond.instanceMethod yX1_takeOver, Cond.selects RX1 yX1_takeOver yX1_takeOver, Cond.code yX1_takeOver cX1_takeOver 3 none, Cond.fieldLink RX1 78 "CatalogueHarvester$FarCatalogue" "records" "LCatalogueHarvester$Records;", Cond.fieldLink RX1 81 "CatalogueHarvester$Records" "isThere" "[Z", Cond.fieldLink RX1 21 "CatalogueHarvester$Harvest" "store" "LCatalogueHarvester$Records;", Cond.fieldLink RX1 84 "CatalogueHarvester$Records" "works" "[I", Cond.fieldLink RX1 88 "CatalogueHarvester$Records" "values" "[I", Cond.fieldLink RX1 91 "CatalogueHarvester$Records" "stamps" "[I", Cond.methodLink RX1 74 yX0_listedStamp, Cond.methodLink RX1 94 yX2_keep]
def wsX1_takePage_r3 : List Cond := [Cond.instanceMethod yX2_keep, Cond.selects RX2 yX2_keep yX2_keep, Cond.initialized RX2, Cond.code yX2_keep cX2_keep 5 none, Cond.fieldLink RX2 9 "CatalogueHarvester$Records" "isThere" "[Z", Cond.fieldLink RX2 15 "CatalogueHarvester$Records" "works" "[I", Cond.fieldLink RX2 19 "CatalogueHarvester$Records" "values" "[I", Cond.fieldLink RX2 22 "CatalogueHarvester$Records" "stamps" "[I", Cond.methodLink RX1 98 yX2_drop, Cond.instanceMethod yX2_drop, Cond.selects RX2 yX2_drop yX2_drop, Cond.code yX2_drop cX2_drop 2 none, Cond.methodLink RX1 64 yX1_finish, Cond.instanceMethod yX1_finish, Cond.selects RX1 yX1_finish yX1_finish, Cond.code yX1_finish cX1_finish 1 none, Cond.methodLink RX1 101 yX0_stampOfDay, Cond.instanceMethod yX0_stampOfDay, Cond.selects RX0 yX0_stampOfDay yX0_stampOfDay, Cond.code yX0_stampOfDay cX0_stampOfDay 2 (some .int), Cond.fieldLink RX0 29 "CatalogueHarvester$FarCatalogue" "unit" "I", Cond.methodLink RX1 104 yX1_dropWhatIsGone, Cond.instanceMethod yX1_dropWhatIsGone, Cond.selects RX1 yX1_dropWhatIsGone yX1_dropWhatIsGone]
def wsX1_takePage_r4 : List Cond := [Cond.code yX1_dropWhatIsGone cX1_dropWhatIsGone 2 none]
def wsX1_takePage : List Cond := .code yX1_takePage cX1_takePage 4 (some .int) :: ((wsX1_takePage_r1 ++ (wsX1_takePage_r2 ++ (wsX1_takePage_r3 ++ wsX1_takePage_r4))) ++ wsX10 ++ wsX00 ++ wsX20)
def wsX2_count : List Cond := .code yX2_count cX2_count 3 (some .int) :: ([.fieldLink RX2 9 "CatalogueHarvester$Records" "isThere" "[Z"] ++ wsX20)
def wsX2_countOfWork : List Cond := .code yX2_countOfWork cX2_countOfWork 4 (some .int) :: ([.fieldLink RX2 9 "CatalogueHarvester$Records" "isThere" "[Z", .fieldLink RX2 15 "CatalogueHarvester$Records" "works" "[I"] ++ wsX20)
def wsX2_isLike : List Cond := .code yX2_isLike cX2_isLike 3 (some .boolean) :: ([.fieldLink RX2 9 "CatalogueHarvester$Records" "isThere" "[Z", .fieldLink RX2 15 "CatalogueHarvester$Records" "works" "[I", .fieldLink RX2 19 "CatalogueHarvester$Records" "values" "[I", .fieldLink RX2 22 "CatalogueHarvester$Records" "stamps" "[I"] ++ wsX20)
def wsX2_countUnlike : List Cond := .code yX2_countUnlike cX2_countUnlike 4 (some .int) :: ([.methodLink RX2 25 yX2_isLike, .instanceMethod yX2_isLike, .selects RX2 yX2_isLike yX2_isLike, .initialized RX2, .code yX2_isLike cX2_isLike 3 (some .boolean), .fieldLink RX2 9 "CatalogueHarvester$Records" "isThere" "[Z", .fieldLink RX2 15 "CatalogueHarvester$Records" "works" "[I", .fieldLink RX2 19 "CatalogueHarvester$Records" "values" "[I", .fieldLink RX2 22 "CatalogueHarvester$Records" "stamps" "[I"] ++ wsX20)
def wsX2_latestOfWork : List Cond := .code yX2_latestOfWork cX2_latestOfWork 5 (some .int) :: ([.fieldLink RX2 9 "CatalogueHarvester$Records" "isThere" "[Z", .fieldLink RX2 15 "CatalogueHarvester$Records" "works" "[I", .fieldLink RX2 22 "CatalogueHarvester$Records" "stamps" "[I"] ++ wsX20)
def wsX3_init_r1 : List Cond := [Cond.methodLink RX3 1 objectInit, Cond.instanceMethod objectInit, Cond.code objectInit ⟨#[0xb1]⟩ 1 none, Cond.classLink RX3 9 RX1, Cond.fieldLink RX3 11 "CatalogueHarvester" "harvests" "[LCatalogueHarvester$Harvest;", Cond.instantiable RX1 10, Cond.initialized RX1, Cond.fieldLink RX3 16 "CatalogueHarvester" "today" "I", Cond.instanceMethod yX1_init, Cond.code yX1_init cX1_init 1 none, Cond.methodLink RX1 3 objectInit, Cond.classLink RX1 9 RX0, Cond.instantiable RX0 6, Cond.initialized RX0, Cond.fieldLink RX1 12 "CatalogueHarvester$Harvest" "far" "LCatalogueHarvester$FarCatalogue;", Cond.classLink RX1 18 RX2, Cond.instantiable RX2 4, Cond.initialized RX2, Cond.fieldLink RX1 21 "CatalogueHarvester$Harvest" "store" "LCatalogueHarvester$Records;", Cond.fieldLink RX1 25 "CatalogueHarvester$Harvest" "mark" "I", Cond.fieldLink RX1 29 "CatalogueHarvester$Harvest" "hasOpenList" "Z", Cond.fieldLink RX1 33 "CatalogueHarvester$Harvest" "isFullList" "Z", Cond.fieldLink RX1 36 "CatalogueHarvester$Harvest" "openingDay" "I", Cond.fieldLink RX1 39 "CatalogueHarvester$Harvest" "tokenDay" "I"]
def wsX3_init_r2 : List Cond := [Cond.fieldLink RX1 42 "CatalogueHarvester$Harvest" "placeStamp" "I", Cond.fieldLink RX1 45 "CatalogueHarvester$Harvest" "placeRecord" "I", Cond.arrayClass .boolean, Cond.fieldLink RX1 48 "CatalogueHarvester$Harvest" "isTakenOver" "[Z", Cond.instanceMethod yX0_init, Cond.code yX0_init cX0_init 1 none, Cond.methodLink RX0 3 objectInit, Cond.classLink RX0 9 RX2, Cond.fieldLink RX0 12 "CatalogueHarvester$FarCatalogue" "records" "LCatalogueHarvester$Records;", Cond.fieldLink RX0 18 "CatalogueHarvester$FarCatalogue" "isTold" "[Z", Cond.arrayClass .int, Cond.fieldLink RX0 22 "CatalogueHarvester$FarCatalogue" "toldStamps" "[I", Cond.fieldLink RX0 26 "CatalogueHarvester$FarCatalogue" "removalDays" "[I", Cond.fieldLink RX0 29 "CatalogueHarvester$FarCatalogue" "unit" "I", Cond.fieldLink RX0 33 "CatalogueHarvester$FarCatalogue" "deletes" "I", Cond.instanceMethod yX2_init, Cond.code yX2_init cX2_init 1 none, Cond.methodLink RX2 3 objectInit, Cond.fieldLink RX2 9 "CatalogueHarvester$Records" "isThere" "[Z", Cond.fieldLink RX2 15 "CatalogueHarvester$Records" "works" "[I", Cond.fieldLink RX2 19 "CatalogueHarvester$Records" "values" "[I", Cond.fieldLink RX2 22 "CatalogueHarvester$Records" "stamps" "[I"]
def wsX3_init : List Cond := .code yX3_init cX3_init 2 none :: ((wsX3_init_r1 ++ wsX3_init_r2) ++ wsX30 ++ wsX10 ++ wsX00 ++ wsX20)
def wsX3_harvestOf : List Cond := .code yX3_harvestOf cX3_harvestOf 3 (some (.object "CatalogueHarvester$Harvest")) :: ([.classLink RX3 121 "java/lang/IllegalArgumentException", .initialized "java/lang/IllegalArgumentException", .fieldLink RX3 11 "CatalogueHarvester" "harvests" "[LCatalogueHarvester$Harvest;"] ++ wsX30 ++ (vx_atS RX3 125 "java/lang/IllegalArgumentException" ["java/lang/RuntimeException", "java/lang/Exception"]).filter goodWord)
def wsX3_refuseOutside : List Cond := .code yX3_refuseOutside cX3_refuseOutside 3 none :: ([.classLink RX3 121 "java/lang/IllegalArgumentException", .initialized "java/lang/IllegalArgumentException"] ++ (vx_atS RX3 125 "java/lang/IllegalArgumentException" ["java/lang/RuntimeException", "java/lang/Exception"]).filter goodWord)
def wsX3_setCatalogue : List Cond := .code yX3_setCatalogue cX3_setCatalogue 6 (some .int) :: ([.fieldLink RX3 28 "CatalogueHarvester$Harvest" "far" "LCatalogueHarvester$FarCatalogue;", .fieldLink RX3 32 "CatalogueHarvester$FarCatalogue" "unit" "I", .fieldLink RX3 37 "CatalogueHarvester$FarCatalogue" "deletes" "I", .fieldLink RX3 16 "CatalogueHarvester" "today" "I", .methodLink RX3 20 yX3_harvestOf, .instanceMethod yX3_harvestOf, .selects RX3 yX3_harvestOf yX3_harvestOf, .initialized RX3, .code yX3_harvestOf cX3_harvestOf 3 (some (.object "CatalogueHarvester$Harvest")), .classLink RX3 121 "java/lang/IllegalArgumentException", .initialized "java/lang/IllegalArgumentException", .fieldLink RX3 11 "CatalogueHarvester" "harvests" "[LCatalogueHarvester$Harvest;", .methodLink RX3 24 yX3_refuseOutside, .static yX3_refuseOutside, .code yX3_refuseOutside cX3_refuseOutside 3 none, .methodLink RX3 40 yX0_forgetToldDeletes, .instanceMethod yX0_forgetToldDeletes, .selects RX0 yX0_forgetToldDeletes yX0_forgetToldDeletes, .initialized RX0, .code yX0_forgetToldDeletes cX0_forgetToldDeletes 4 none, .fieldLink RX0 26 "CatalogueHarvester$FarCatalogue" "removalDays" "[I", .fieldLink RX0 33 "CatalogueHarvester$FarCatalogue" "deletes" "I", .fieldLink RX0 18 "CatalogueHarvester$FarCatalogue" "isTold" "[Z"] ++ wsX10 ++ wsX00 ++ wsX30 ++ (vx_atS RX3 125 "java/lang/IllegalArgumentException" ["java/lang/RuntimeException", "java/lang/Exception"]).filter goodWord)
def wsX3_refuseRecord : List Cond := .code yX3_refuseRecord cX3_refuseRecord 1 none :: ([.methodLink RX3 24 yX3_refuseOutside, .static yX3_refuseOutside, .initialized RX3, .code yX3_refuseOutside cX3_refuseOutside 3 none, .classLink RX3 121 "java/lang/IllegalArgumentException", .initialized "java/lang/IllegalArgumentException"] ++ (vx_atS RX3 125 "java/lang/IllegalArgumentException" ["java/lang/RuntimeException", "java/lang/Exception"]).filter goodWord)
def wsX3_put_r1 : List Cond := [Cond.fieldLink RX3 28 "CatalogueHarvester$Harvest" "far" "LCatalogueHarvester$FarCatalogue;", Cond.fieldLink RX3 16 "CatalogueHarvester" "today" "I", Cond.methodLink RX3 20 yX3_harvestOf, Cond.instanceMethod yX3_harvestOf, Cond.selects RX3 yX3_harvestOf yX3_harvestOf, Cond.initialized RX3, Cond.code yX3_harvestOf cX3_harvestOf 3 (some (.object "CatalogueHarvester$Harvest")), Cond.classLink RX3 121 "java/lang/IllegalArgumentException", Cond.initialized "java/lang/IllegalArgumentException", Cond.fieldLink RX3 11 "CatalogueHarvester" "harvests" "[LCatalogueHarvester$Harvest;", Cond.methodLink RX3 44 yX3_refuseRecord, Cond.static yX3_refuseRecord, Cond.code yX3_refuseRecord cX3_refuseRecord 1 none, Cond.methodLink RX3 24 yX3_refuseOutside, Cond.static yX3_refuseOutside, Cond.code yX3_refuseOutside cX3_refuseOutside 3 none, Cond.methodLink RX3 47 yX0_change, Cond.instanceMethod yX0_change, Cond.selects RX0 yX0_change yX0_change, Cond.initialized RX0, Cond.code yX0_change cX0_change 6 (some .int), Cond.fieldLink RX0 12 "CatalogueHarvester$FarCatalogue" "records" "LCatalogueHarvester$Records;", Cond.fieldLink RX0 18 "CatalogueHarvester$FarCatalogue" "isTold" "[Z", Cond.methodLink RX0 36 yX0_stampOfDay]
def wsX3_put_r2 : List Cond := [Cond.instanceMethod yX0_stampOfDay, Cond.selects RX0 yX0_stampOfDay yX0_stampOfDay, Cond.code yX0_stampOfDay cX0_stampOfDay 2 (some .int), Cond.fieldLink RX0 29 "CatalogueHarvester$FarCatalogue" "unit" "I", Cond.methodLink RX0 40 yX2_keep, Cond.instanceMethod yX2_keep, Cond.selects RX2 yX2_keep yX2_keep, Cond.initialized RX2, Cond.code yX2_keep cX2_keep 5 none, Cond.fieldLink RX2 9 "CatalogueHarvester$Records" "isThere" "[Z", Cond.fieldLink RX2 15 "CatalogueHarvester$Records" "works" "[I", Cond.fieldLink RX2 19 "CatalogueHarvester$Records" "values" "[I", Cond.fieldLink RX2 22 "CatalogueHarvester$Records" "stamps" "[I"]
def wsX3_put : List Cond := .code yX3_put cX3_put 6 (some .int) :: ((wsX3_put_r1 ++ wsX3_put_r2) ++ wsX10 ++ wsX30 ++ wsX00 ++ wsX20 ++ (vx_atS RX3 125 "java/lang/IllegalArgumentException" ["java/lang/RuntimeException", "java/lang/Exception"]).filter goodWord)
def wsX3_remove_r1 : List Cond := [Cond.classLink RX3 61 "java/lang/IllegalStateException", Cond.initialized "java/lang/IllegalStateException", Cond.fieldLink RX3 28 "CatalogueHarvester$Harvest" "far" "LCatalogueHarvester$FarCatalogue;", Cond.fieldLink RX3 51 "CatalogueHarvester$FarCatalogue" "records" "LCatalogueHarvester$Records;", Cond.fieldLink RX3 55 "CatalogueHarvester$Records" "isThere" "[Z", Cond.fieldLink RX3 16 "CatalogueHarvester" "today" "I", Cond.methodLink RX3 20 yX3_harvestOf, Cond.instanceMethod yX3_harvestOf, Cond.selects RX3 yX3_harvestOf yX3_harvestOf, Cond.initialized RX3, Cond.code yX3_harvestOf cX3_harvestOf 3 (some (.object "CatalogueHarvester$Harvest")), Cond.classLink RX3 121 "java/lang/IllegalArgumentException", Cond.initialized "java/lang/IllegalArgumentException", Cond.fieldLink RX3 11 "CatalogueHarvester" "harvests" "[LCatalogueHarvester$Harvest;", Cond.methodLink RX3 44 yX3_refuseRecord, Cond.static yX3_refuseRecord, Cond.code yX3_refuseRecord cX3_refuseRecord 1 none, Cond.methodLink RX3 24 yX3_refuseOutside, Cond.static yX3_refuseOutside, Cond.code yX3_refuseOutside cX3_refuseOutside 3 none, Cond.methodLink RX3 68 yX0_delete, Cond.instanceMethod yX0_delete, Cond.selects RX0 yX0_delete yX0_delete, Cond.initialized RX0]
def wsX3_remove_r2 : List Cond := [Cond.code yX0_delete cX0_delete 3 (some .boolean), Cond.fieldLink RX0 12 "CatalogueHarvester$FarCatalogue" "records" "LCatalogueHarvester$Records;", Cond.fieldLink RX0 18 "CatalogueHarvester$FarCatalogue" "isTold" "[Z", Cond.fieldLink RX0 33 "CatalogueHarvester$FarCatalogue" "deletes" "I", Cond.fieldLink RX0 22 "CatalogueHarvester$FarCatalogue" "toldStamps" "[I", Cond.fieldLink RX0 26 "CatalogueHarvester$FarCatalogue" "removalDays" "[I", Cond.methodLink RX0 44 yX2_drop, Cond.instanceMethod yX2_drop, Cond.selects RX2 yX2_drop yX2_drop, Cond.initialized RX2, Cond.code yX2_drop cX2_drop 2 none, Cond.fieldLink RX2 9 "CatalogueHarvester$Records" "isThere" "[Z", Cond.methodLink RX0 36 yX0_stampOfDay, Cond.instanceMethod yX0_stampOfDay, Cond.selects RX0 yX0_stampOfDay yX0_stampOfDay, Cond.code yX0_stampOfDay cX0_stampOfDay 2 (some .int), Cond.fieldLink RX0 29 "CatalogueHarvester$FarCatalogue" "unit" "I"]
def wsX3_remove : List Cond := .code yX3_remove cX3_remove 4 (some .boolean) :: ((wsX3_remove_r1 ++ wsX3_remove_r2) ++ wsX10 ++ wsX00 ++ wsX20 ++ wsX30 ++ (vx_atS RX3 65 "java/lang/IllegalStateException" ["java/lang/RuntimeException", "java/lang/Exception"]).filter goodWord ++ (vx_atS RX3 125 "java/lang/IllegalArgumentException" ["java/lang/RuntimeException", "java/lang/Exception"]).filter goodWord)
def wsX3_pass : List Cond := .code yX3_pass cX3_pass 3 (some .int) :: ([.classLink RX3 61 "java/lang/IllegalStateException", .initialized "java/lang/IllegalStateException", .fieldLink RX3 16 "CatalogueHarvester" "today" "I", .fieldLink RX3 28 "CatalogueHarvester$Harvest" "far" "LCatalogueHarvester$FarCatalogue;", .methodLink RX3 24 yX3_refuseOutside, .static yX3_refuseOutside, .initialized RX3, .code yX3_refuseOutside cX3_refuseOutside 3 none, .classLink RX3 121 "java/lang/IllegalArgumentException", .initialized "java/lang/IllegalArgumentException", .methodLink RX3 20 yX3_harvestOf, .instanceMethod yX3_harvestOf, .selects RX3 yX3_harvestOf yX3_harvestOf, .code yX3_harvestOf cX3_harvestOf 3 (some (.object "CatalogueHarvester$Harvest")), .fieldLink RX3 11 "CatalogueHarvester" "harvests" "[LCatalogueHarvester$Harvest;", .methodLink RX3 40 yX0_forgetToldDeletes, .instanceMethod yX0_forgetToldDeletes, .selects RX0 yX0_forgetToldDeletes yX0_forgetToldDeletes, .initialized RX0, .code yX0_forgetToldDeletes cX0_forgetToldDeletes 4 none, .fieldLink RX0 26 "CatalogueHarvester$FarCatalogue" "removalDays" "[I", .fieldLink RX0 33 "CatalogueHarvester$FarCatalogue" "deletes" "I", .fieldLink RX0 18 "CatalogueHarvester$FarCatalogue" "isTold" "[Z"] ++ wsX30 ++ wsX10 ++ wsX00 ++ (vx_atS RX3 65 "java/lang/IllegalStateException" ["java/lang/RuntimeException", "java/lang/Exception"]).filter goodWord ++ (vx_atS RX3 125 "java/lang/IllegalArgumentException" ["java/lang/RuntimeException", "java/lang/Exception"]).filter goodWord)
def wsX3_today : List Cond := .code yX3_today cX3_today 1 (some .int) :: ([.fieldLink RX3 16 "CatalogueHarvester" "today" "I"] ++ wsX30)
def wsX3_far : List Cond := .code yX3_far cX3_far 2 (some .int) :: ([.fieldLink RX3 28 "CatalogueHarvester$Harvest" "far" "LCatalogueHarvester$FarCatalogue;", .fieldLink RX3 51 "CatalogueHarvester$FarCatalogue" "records" "LCatalogueHarvester$Records;", .methodLink RX3 20 yX3_harvestOf, .instanceMethod yX3_harvestOf, .selects RX3 yX3_harvestOf yX3_harvestOf, .initialized RX3, .code yX3_harvestOf cX3_harvestOf 3 (some (.object "CatalogueHarvester$Harvest")), .classLink RX3 121 "java/lang/IllegalArgumentException", .initialized "java/lang/IllegalArgumentException", .fieldLink RX3 11 "CatalogueHarvester" "harvests" "[LCatalogueHarvester$Harvest;", .methodLink RX3 74 yX2_count, .instanceMethod yX2_count, .selects RX2 yX2_count yX2_count, .initialized RX2, .code yX2_count cX2_count 3 (some .int), .fieldLink RX2 9 "CatalogueHarvester$Records" "isThere" "[Z"] ++ wsX10 ++ wsX00 ++ wsX30 ++ wsX20 ++ (vx_atS RX3 125 "java/lang/IllegalArgumentException" ["java/lang/RuntimeException", "java/lang/Exception"]).filter goodWord)
def wsX3_told : List Cond := .code yX3_told cX3_told 2 (some .int) :: ([.fieldLink RX3 28 "CatalogueHarvester$Harvest" "far" "LCatalogueHarvester$FarCatalogue;", .methodLink RX3 20 yX3_harvestOf, .instanceMethod yX3_harvestOf, .selects RX3 yX3_harvestOf yX3_harvestOf, .initialized RX3, .code yX3_harvestOf cX3_harvestOf 3 (some (.object "CatalogueHarvester$Harvest")), .classLink RX3 121 "java/lang/IllegalArgumentException", .initialized "java/lang/IllegalArgumentException", .fieldLink RX3 11 "CatalogueHarvester" "harvests" "[LCatalogueHarvester$Harvest;", .methodLink RX3 78 yX0_countTold, .instanceMethod yX0_countTold, .selects RX0 yX0_countTold yX0_countTold, .initialized RX0, .code yX0_countTold cX0_countTold 3 (some .int), .fieldLink RX0 18 "CatalogueHarvester$FarCatalogue" "isTold" "[Z"] ++ wsX10 ++ wsX30 ++ wsX00 ++ (vx_atS RX3 125 "java/lang/IllegalArgumentException" ["java/lang/RuntimeException", "java/lang/Exception"]).filter goodWord)
def wsX3_open_r1 : List Cond := [Cond.fieldLink RX3 16 "CatalogueHarvester" "today" "I", Cond.methodLink RX3 20 yX3_harvestOf, Cond.instanceMethod yX3_harvestOf, Cond.selects RX3 yX3_harvestOf yX3_harvestOf, Cond.initialized RX3, Cond.code yX3_harvestOf cX3_harvestOf 3 (some (.object "CatalogueHarvester$Harvest")), Cond.classLink RX3 121 "java/lang/IllegalArgumentException", Cond.initialized "java/lang/IllegalArgumentException", Cond.fieldLink RX3 11 "CatalogueHarvester" "harvests" "[LCatalogueHarvester$Harvest;", Cond.methodLink RX3 81 yX1_begin, Cond.instanceMethod yX1_begin, Cond.selects RX1 yX1_begin yX1_begin, Cond.initialized RX1, Cond.code yX1_begin cX1_begin 4 none, Cond.fieldLink RX1 29 "CatalogueHarvester$Harvest" "hasOpenList" "Z", Cond.fieldLink RX1 33 "CatalogueHarvester$Harvest" "isFullList" "Z", Cond.fieldLink RX1 36 "CatalogueHarvester$Harvest" "openingDay" "I", Cond.fieldLink RX1 39 "CatalogueHarvester$Harvest" "tokenDay" "I", Cond.fieldLink RX1 42 "CatalogueHarvester$Harvest" "placeStamp" "I", Cond.fieldLink RX1 45 "CatalogueHarvester$Harvest" "placeRecord" "I", Cond.fieldLink RX1 48 "CatalogueHarvester$Harvest" "isTakenOver" "[Z", Cond.methodLink RX3 85 yX1_firstStamp, Cond.instanceMethod yX1_firstStamp, Cond.selects RX1 yX1_firstStamp yX1_firstStamp]
def wsX3_open_r2 : List Cond := [Cond.code yX1_firstStamp cX1_firstStamp 1 (some .int), Cond.fieldLink RX1 25 "CatalogueHarvester$Harvest" "mark" "I"]
def wsX3_open : List Cond := .code yX3_open cX3_open 4 (some .int) :: ((wsX3_open_r1 ++ wsX3_open_r2) ++ wsX30 ++ wsX10 ++ (vx_atS RX3 125 "java/lang/IllegalArgumentException" ["java/lang/RuntimeException", "java/lang/Exception"]).filter goodWord)
def wsX3_read_r1 : List Cond := [Cond.classLink RX3 61 "java/lang/IllegalStateException", Cond.initialized "java/lang/IllegalStateException", Cond.fieldLink RX3 88 "CatalogueHarvester$Harvest" "hasOpenList" "Z", Cond.fieldLink RX3 16 "CatalogueHarvester" "today" "I", Cond.methodLink RX3 20 yX3_harvestOf, Cond.instanceMethod yX3_harvestOf, Cond.selects RX3 yX3_harvestOf yX3_harvestOf, Cond.initialized RX3, Cond.code yX3_harvestOf cX3_harvestOf 3 (some (.object "CatalogueHarvester$Harvest")), Cond.classLink RX3 121 "java/lang/IllegalArgumentException", Cond.initialized "java/lang/IllegalArgumentException", Cond.fieldLink RX3 11 "CatalogueHarvester" "harvests" "[LCatalogueHarvester$Harvest;", Cond.methodLink RX3 94 yX1_takePage, Cond.instanceMethod yX1_takePage, Cond.selects RX1 yX1_takePage yX1_takePage, Cond.initialized RX1, Cond.code yX1_takePage cX1_takePage 4 (some .int), Cond.fieldLink RX1 39 "CatalogueHarvester$Harvest" "tokenDay" "I", Cond.fieldLink RX1 33 "CatalogueHarvester$Harvest" "isFullList" "Z", Cond.methodLink RX1 52 yX1_begin, Cond.instanceMethod yX1_begin, Cond.selects RX1 yX1_begin yX1_begin, Cond.code yX1_begin cX1_begin 4 none, Cond.fieldLink RX1 29 "CatalogueHarvester$Harvest" "hasOpenList" "Z"]
def wsX3_read_r2 : List Cond := [Cond.fieldLink RX1 36 "CatalogueHarvester$Harvest" "openingDay" "I", Cond.fieldLink RX1 42 "CatalogueHarvester$Harvest" "placeStamp" "I", Cond.fieldLink RX1 45 "CatalogueHarvester$Harvest" "placeRecord" "I", Cond.fieldLink RX1 48 "CatalogueHarvester$Harvest" "isTakenOver" "[Z", Cond.methodLink RX1 56 yX1_nextOfList, Cond.instanceMethod yX1_nextOfList, Cond.selects RX1 yX1_nextOfList yX1_nextOfList, Cond.code yX1_nextOfList cX1_nextOfList 1 (some .int), Cond.fieldLink RX1 12 "CatalogueHarvester$Harvest" "far" "LCatalogueHarvester$FarCatalogue;", Cond.methodLink RX1 67 yX1_firstStamp, Cond.instanceMethod yX1_firstStamp, Cond.selects RX1 yX1_firstStamp yX1_firstStamp, Cond.code yX1_firstStamp cX1_firstStamp 1 (some .int), Cond.fieldLink RX1 25 "CatalogueHarvester$Harvest" "mark" "I", Cond.methodLink RX1 70 yX0_nextListed, Cond.instanceMethod yX0_nextListed, Cond.selects RX0 yX0_nextListed yX0_nextListed, Cond.initialized RX0, Cond.code yX0_nextListed cX0_nextListed 10 (some .int), Cond.methodLink RX0 54 yX0_listedStamp, Cond.instanceMethod yX0_listedStamp, Cond.selects RX0 yX0_listedStamp yX0_listedStamp, Cond.code yX0_listedStamp cX0_listedStamp 2 (some .int), Cond.fieldLink RX0 12 "CatalogueHarvester$FarCatalogue" "records" "LCatalogueHarvester$Records;"]
def wsX3_read_r3 : List Cond := [Cond.fieldLink RX0 48 "CatalogueHarvester$Records" "isThere" "[Z", Cond.fieldLink RX0 51 "CatalogueHarvester$Records" "stamps" "[I", Cond.fieldLink RX0 18 "CatalogueHarvester$FarCatalogue" "isTold" "[Z", Cond.fieldLink RX0 22 "CatalogueHarvester$FarCatalogue" "toldStamps" "[I", Cond.methodLink RX1 60 yX1_takeOver, Cond.instanceMethod yX1_takeOver, Cond.selects RX1 yX1_takeOver yX1_takeOver, Cond.code yX1_takeOver cX1_takeOver 3 none, Cond.fieldLink RX1 78 "CatalogueHarvester$FarCatalogue" "records" "LCatalogueHarvester$Records;", Cond.fieldLink RX1 81 "CatalogueHarvester$Records" "isThere" "[Z", Cond.fieldLink RX1 21 "CatalogueHarvester$Harvest" "store" "LCatalogueHarvester$Records;", Cond.fieldLink RX1 84 "CatalogueHarvester$Records" "works" "[I", Cond.fieldLink RX1 88 "CatalogueHarvester$Records" "values" "[I", Cond.fieldLink RX1 91 "CatalogueHarvester$Records" "stamps" "[I", Cond.methodLink RX1 74 yX0_listedStamp, Cond.methodLink RX1 94 yX2_keep, Cond.instanceMethod yX2_keep, Cond.selects RX2 yX2_keep yX2_keep, Cond.initialized RX2, Cond.code yX2_keep cX2_keep 5 none, Cond.fieldLink RX2 9 "CatalogueHarvester$Records" "isThere" "[Z", Cond.fieldLink RX2 15 "CatalogueHarvester$Records" "works" "[I", Cond.fieldLink RX2 19 "CatalogueHarvester$Records" "values" "[I", Cond.fieldLink RX2 22 "CatalogueHarvester$Records" "stamps" "[I"]
def wsX3_read_r4 : List Cond := [Cond.methodLink RX1 98 yX2_drop, Cond.instanceMethod yX2_drop, Cond.selects RX2 yX2_drop yX2_drop, Cond.code yX2_drop cX2_drop 2 none, Cond.methodLink RX1 64 yX1_finish, Cond.instanceMethod yX1_finish, Cond.selects RX1 yX1_finish yX1_finish, Cond.code yX1_finish cX1_finish 1 none, Cond.methodLink RX1 101 yX0_stampOfDay, Cond.instanceMethod yX0_stampOfDay, Cond.selects RX0 yX0_stampOfDay yX0_stampOfDay, Cond.code yX0_stampOfDay cX0_stampOfDay 2 (some .int), Cond.fieldLink RX0 29 "CatalogueHarvester$FarCatalogue" "unit" "I", Cond.methodLink RX1 104 yX1_dropWhatIsGone, Cond.instanceMethod yX1_dropWhatIsGone, Cond.selects RX1 yX1_dropWhatIsGone yX1_dropWhatIsGone, Cond.code yX1_dropWhatIsGone cX1_dropWhatIsGone 2 none]
def wsX3_read : List Cond := .code yX3_read cX3_read 3 (some .int) :: ((wsX3_read_r1 ++ (wsX3_read_r2 ++ (wsX3_read_r3 ++ wsX3_read_r4))) ++ wsX10 ++ wsX30 ++ wsX00 ++ wsX20 ++ (vx_atS RX3 65 "java/lang/IllegalStateException" ["java/lang/RuntimeException", "java/lang/Exception"]).filter goodWord ++ (vx_atS RX3 125 "java/lang/IllegalArgumentException" ["java/lang/RuntimeException", "java/lang/Exception"]).filter goodWord)
def wsX3_isOpen : List Cond := .code yX3_isOpen cX3_isOpen 2 (some .boolean) :: ([.fieldLink RX3 88 "CatalogueHarvester$Harvest" "hasOpenList" "Z", .methodLink RX3 20 yX3_harvestOf, .instanceMethod yX3_harvestOf, .selects RX3 yX3_harvestOf yX3_harvestOf, .initialized RX3, .code yX3_harvestOf cX3_harvestOf 3 (some (.object "CatalogueHarvester$Harvest")), .classLink RX3 121 "java/lang/IllegalArgumentException", .initialized "java/lang/IllegalArgumentException", .fieldLink RX3 11 "CatalogueHarvester" "harvests" "[LCatalogueHarvester$Harvest;"] ++ wsX10 ++ wsX30 ++ (vx_atS RX3 125 "java/lang/IllegalArgumentException" ["java/lang/RuntimeException", "java/lang/Exception"]).filter goodWord)
def wsX3_mark : List Cond := .code yX3_mark cX3_mark 2 (some .int) :: ([.fieldLink RX3 98 "CatalogueHarvester$Harvest" "mark" "I", .methodLink RX3 20 yX3_harvestOf, .instanceMethod yX3_harvestOf, .selects RX3 yX3_harvestOf yX3_harvestOf, .initialized RX3, .code yX3_harvestOf cX3_harvestOf 3 (some (.object "CatalogueHarvester$Harvest")), .classLink RX3 121 "java/lang/IllegalArgumentException", .initialized "java/lang/IllegalArgumentException", .fieldLink RX3 11 "CatalogueHarvester" "harvests" "[LCatalogueHarvester$Harvest;"] ++ wsX10 ++ wsX30 ++ (vx_atS RX3 125 "java/lang/IllegalArgumentException" ["java/lang/RuntimeException", "java/lang/Exception"]).filter goodWord)
def wsX3_stored : List Cond := .code yX3_stored cX3_stored 4 (some .int) :: ([.fieldLink RX3 101 "CatalogueHarvester$Harvest" "store" "LCatalogueHarvester$Records;", .fieldLink RX3 55 "CatalogueHarvester$Records" "isThere" "[Z", .fieldLink RX3 104 "CatalogueHarvester$Records" "values" "[I", .methodLink RX3 20 yX3_harvestOf, .instanceMethod yX3_harvestOf, .selects RX3 yX3_harvestOf yX3_harvestOf, .initialized RX3, .code yX3_harvestOf cX3_harvestOf 3 (some (.object "CatalogueHarvester$Harvest")), .classLink RX3 121 "java/lang/IllegalArgumentException", .initialized "java/lang/IllegalArgumentException", .fieldLink RX3 11 "CatalogueHarvester" "harvests" "[LCatalogueHarvester$Harvest;", .methodLink RX3 44 yX3_refuseRecord, .static yX3_refuseRecord, .code yX3_refuseRecord cX3_refuseRecord 1 none, .methodLink RX3 24 yX3_refuseOutside, .static yX3_refuseOutside, .code yX3_refuseOutside cX3_refuseOutside 3 none] ++ wsX10 ++ wsX20 ++ wsX30 ++ (vx_atS RX3 125 "java/lang/IllegalArgumentException" ["java/lang/RuntimeException", "java/lang/Exception"]).filter goodWord)
def wsX3_held : List Cond := .code yX3_held cX3_held 2 (some .int) :: ([.fieldLink RX3 101 "CatalogueHarvester$Harvest" "store" "LCatalogueHarvester$Records;", .methodLink RX3 20 yX3_harvestOf, .instanceMethod yX3_harvestOf, .selects RX3 yX3_harvestOf yX3_harvestOf, .initialized RX3, .code yX3_harvestOf cX3_harvestOf 3 (some (.object "CatalogueHarvester$Harvest")), .classLink RX3 121 "java/lang/IllegalArgumentException", .initialized "java/lang/IllegalArgumentException", .fieldLink RX3 11 "CatalogueHarvester" "harvests" "[LCatalogueHarvester$Harvest;", .methodLink RX3 74 yX2_count, .instanceMethod yX2_count, .selects RX2 yX2_count yX2_count, .initialized RX2, .code yX2_count cX2_count 3 (some .int), .fieldLink RX2 9 "CatalogueHarvester$Records" "isThere" "[Z"] ++ wsX10 ++ wsX30 ++ wsX20 ++ (vx_atS RX3 125 "java/lang/IllegalArgumentException" ["java/lang/RuntimeException", "java/lang/Exception"]).filter goodWord)
def wsX3_wrong : List Cond := .code yX3_wrong cX3_wrong 3 (some .int) :: ([.fieldLink RX3 101 "CatalogueHarvester$Harvest" "store" "LCatalogueHarvester$Records;", .fieldLink RX3 28 "CatalogueHarvester$Harvest" "far" "LCatalogueHarvester$FarCatalogue;", .fieldLink RX3 51 "CatalogueHarvester$FarCatalogue" "records" "LCatalogueHarvester$Records;", .methodLink RX3 20 yX3_harvestOf, .instanceMethod yX3_harvestOf, .selects RX3 yX3_harvestOf yX3_harvestOf, .initialized RX3, .code yX3_harvestOf cX3_harvestOf 3 (some (.object "CatalogueHarvester$Harvest")), .classLink RX3 121 "java/lang/IllegalArgumentException", .initialized "java/lang/IllegalArgumentException", .fieldLink RX3 11 "CatalogueHarvester" "harvests" "[LCatalogueHarvester$Harvest;", .methodLink RX3 108 yX2_countUnlike, .instanceMethod yX2_countUnlike, .selects RX2 yX2_countUnlike yX2_countUnlike, .initialized RX2, .code yX2_countUnlike cX2_countUnlike 4 (some .int), .methodLink RX2 25 yX2_isLike, .instanceMethod yX2_isLike, .selects RX2 yX2_isLike yX2_isLike, .code yX2_isLike cX2_isLike 3 (some .boolean), .fieldLink RX2 9 "CatalogueHarvester$Records" "isThere" "[Z", .fieldLink RX2 15 "CatalogueHarvester$Records" "works" "[I", .fieldLink RX2 19 "CatalogueHarvester$Records" "values" "[I", .fieldLink RX2 22 "CatalogueHarvester$Records" "stamps" "[I"] ++ wsX10 ++ wsX00 ++ wsX30 ++ wsX20 ++ (vx_atS RX3 125 "java/lang/IllegalArgumentException" ["java/lang/RuntimeException", "java/lang/Exception"]).filter goodWord)
def wsX3_copies : List Cond := .code yX3_copies cX3_copies 4 (some .int) :: ([.fieldLink RX3 101 "CatalogueHarvester$Harvest" "store" "LCatalogueHarvester$Records;", .methodLink RX3 24 yX3_refuseOutside, .static yX3_refuseOutside, .initialized RX3, .code yX3_refuseOutside cX3_refuseOutside 3 none, .classLink RX3 121 "java/lang/IllegalArgumentException", .initialized "java/lang/IllegalArgumentException", .methodLink RX3 20 yX3_harvestOf, .instanceMethod yX3_harvestOf, .selects RX3 yX3_harvestOf yX3_harvestOf, .code yX3_harvestOf cX3_harvestOf 3 (some (.object "CatalogueHarvester$Harvest")), .fieldLink RX3 11 "CatalogueHarvester" "harvests" "[LCatalogueHarvester$Harvest;", .methodLink RX3 112 yX2_countOfWork, .instanceMethod yX2_countOfWork, .selects RX2 yX2_countOfWork yX2_countOfWork, .initialized RX2, .code yX2_countOfWork cX2_countOfWork 4 (some .int), .fieldLink RX2 9 "CatalogueHarvester$Records" "isThere" "[Z", .fieldLink RX2 15 "CatalogueHarvester$Records" "works" "[I"] ++ wsX10 ++ wsX30 ++ wsX20 ++ (vx_atS RX3 125 "java/lang/IllegalArgumentException" ["java/lang/RuntimeException", "java/lang/Exception"]).filter goodWord)
def wsX3_best : List Cond := .code yX3_best cX3_best 7 (some .int) :: ([.fieldLink RX3 101 "CatalogueHarvester$Harvest" "store" "LCatalogueHarvester$Records;", .fieldLink RX3 118 "CatalogueHarvester$Records" "stamps" "[I", .methodLink RX3 24 yX3_refuseOutside, .static yX3_refuseOutside, .initialized RX3, .code yX3_refuseOutside cX3_refuseOutside 3 none, .classLink RX3 121 "java/lang/IllegalArgumentException", .initialized "java/lang/IllegalArgumentException", .methodLink RX3 20 yX3_harvestOf, .instanceMethod yX3_harvestOf, .selects RX3 yX3_harvestOf yX3_harvestOf, .code yX3_harvestOf cX3_harvestOf 3 (some (.object "CatalogueHarvester$Harvest")), .fieldLink RX3 11 "CatalogueHarvester" "harvests" "[LCatalogueHarvester$Harvest;", .methodLink RX3 115 yX2_latestOfWork, .instanceMethod yX2_latestOfWork, .selects RX2 yX2_latestOfWork yX2_latestOfWork, .initialized RX2, .code yX2_latestOfWork cX2_latestOfWork 5 (some .int), .fieldLink RX2 9 "CatalogueHarvester$Records" "isThere" "[Z", .fieldLink RX2 15 "CatalogueHarvester$Records" "works" "[I", .fieldLink RX2 22 "CatalogueHarvester$Records" "stamps" "[I"] ++ wsX10 ++ wsX20 ++ wsX30 ++ (vx_atS RX3 125 "java/lang/IllegalArgumentException" ["java/lang/RuntimeException", "java/lang/Exception"]).filter goodWord)
def wsX4_init_r1 : List Cond := [Cond.methodLink RX4 1 objectInit, Cond.instanceMethod objectInit, Cond.code objectInit ⟨#[0xb1]⟩ 1 none, Cond.arrayClass .int, Cond.fieldLink RX4 7 "CatalogueHarvesterModel" "units" "[I", Cond.fieldLink RX4 13 "CatalogueHarvesterModel" "ways" "[I", Cond.fieldLink RX4 16 "CatalogueHarvesterModel" "kinds" "[I", Cond.fieldLink RX4 19 "CatalogueHarvesterModel" "works" "[I", Cond.fieldLink RX4 22 "CatalogueHarvesterModel" "values" "[I", Cond.fieldLink RX4 25 "CatalogueHarvesterModel" "stamps" "[I", Cond.fieldLink RX4 28 "CatalogueHarvesterModel" "removedOn" "[I", Cond.fieldLink RX4 31 "CatalogueHarvesterModel" "marks" "[I", Cond.arrayClass .boolean, Cond.fieldLink RX4 34 "CatalogueHarvesterModel" "isOpen" "[Z", Cond.fieldLink RX4 38 "CatalogueHarvesterModel" "isFull" "[Z", Cond.fieldLink RX4 41 "CatalogueHarvesterModel" "froms" "[I", Cond.fieldLink RX4 44 "CatalogueHarvesterModel" "openedOn" "[I", Cond.fieldLink RX4 47 "CatalogueHarvesterModel" "readOn" "[I", Cond.fieldLink RX4 50 "CatalogueHarvesterModel" "placeStamps" "[I", Cond.fieldLink RX4 53 "CatalogueHarvesterModel" "placeRecords" "[I", Cond.fieldLink RX4 56 "CatalogueHarvesterModel" "isHeld" "[Z", Cond.fieldLink RX4 59 "CatalogueHarvesterModel" "heldWorks" "[I", Cond.fieldLink RX4 62 "CatalogueHarvesterModel" "heldValues" "[I", Cond.fieldLink RX4 65 "CatalogueHarvesterModel" "heldStamps" "[I"]
def wsX4_init_r2 : List Cond := [Cond.fieldLink RX4 68 "CatalogueHarvesterModel" "wasSeen" "[Z"]
def wsX4_init : List Cond := .code yX4_init cX4_init 2 none :: ((wsX4_init_r1 ++ wsX4_init_r2) ++ wsX40)
def wsX4_thrown : List Cond := .code yX4_thrown cX4_thrown 1 (some .int) :: ([.fieldLink RX4 71 "CatalogueHarvesterModel" "thrown" "I"] ++ wsX40)
def wsX4_goes : List Cond := .code yX4_goes cX4_goes 2 (some .boolean) :: ([.fieldLink RX4 71 "CatalogueHarvesterModel" "thrown" "I"] ++ wsX40)
def wsX4_isIn : List Cond := .code yX4_isIn cX4_isIn 3 (some .boolean) :: ([])
def wsX4_isCatalogue : List Cond := .code yX4_isCatalogue cX4_isCatalogue 1 (some .boolean) :: ([.methodLink RX4 75 yX4_isIn, .static yX4_isIn, .initialized RX4, .code yX4_isIn cX4_isIn 3 (some .boolean)])
def wsX4_isRecord : List Cond := .code yX4_isRecord cX4_isRecord 1 (some .boolean) :: ([.methodLink RX4 75 yX4_isIn, .static yX4_isIn, .initialized RX4, .code yX4_isIn cX4_isIn 3 (some .boolean)])
def wsX4_stamp : List Cond := .code yX4_stamp cX4_stamp 3 (some .int) :: ([.fieldLink RX4 7 "CatalogueHarvesterModel" "units" "[I"] ++ wsX40)
def wsX4_clears : List Cond := .code yX4_clears cX4_clears 4 none :: ([.fieldLink RX4 13 "CatalogueHarvesterModel" "ways" "[I", .fieldLink RX4 79 "CatalogueHarvesterModel" "today" "I", .fieldLink RX4 28 "CatalogueHarvesterModel" "removedOn" "[I", .fieldLink RX4 16 "CatalogueHarvesterModel" "kinds" "[I"] ++ wsX40)
def wsX4_setCatalogue : List Cond := .code yX4_setCatalogue cX4_setCatalogue 6 (some .int) :: ([.fieldLink RX4 7 "CatalogueHarvesterModel" "units" "[I", .fieldLink RX4 13 "CatalogueHarvesterModel" "ways" "[I", .methodLink RX4 82 yX4_isCatalogue, .static yX4_isCatalogue, .initialized RX4, .code yX4_isCatalogue cX4_isCatalogue 1 (some .boolean), .methodLink RX4 75 yX4_isIn, .static yX4_isIn, .code yX4_isIn cX4_isIn 3 (some .boolean), .methodLink RX4 86 yX4_goes, .instanceMethod yX4_goes, .selects RX4 yX4_goes yX4_goes, .code yX4_goes cX4_goes 2 (some .boolean), .fieldLink RX4 71 "CatalogueHarvesterModel" "thrown" "I", .methodLink RX4 89 yX4_clears, .instanceMethod yX4_clears, .selects RX4 yX4_clears yX4_clears, .code yX4_clears cX4_clears 4 none, .fieldLink RX4 79 "CatalogueHarvesterModel" "today" "I", .fieldLink RX4 28 "CatalogueHarvesterModel" "removedOn" "[I", .fieldLink RX4 16 "CatalogueHarvesterModel" "kinds" "[I"] ++ wsX40)
def wsX4_put_r1 : List Cond := [Cond.fieldLink RX4 16 "CatalogueHarvesterModel" "kinds" "[I", Cond.fieldLink RX4 19 "CatalogueHarvesterModel" "works" "[I", Cond.fieldLink RX4 22 "CatalogueHarvesterModel" "values" "[I", Cond.fieldLink RX4 25 "CatalogueHarvesterModel" "stamps" "[I", Cond.fieldLink RX4 79 "CatalogueHarvesterModel" "today" "I", Cond.methodLink RX4 82 yX4_isCatalogue, Cond.static yX4_isCatalogue, Cond.initialized RX4, Cond.code yX4_isCatalogue cX4_isCatalogue 1 (some .boolean), Cond.methodLink RX4 75 yX4_isIn, Cond.static yX4_isIn, Cond.code yX4_isIn cX4_isIn 3 (some .boolean), Cond.methodLink RX4 93 yX4_isRecord, Cond.static yX4_isRecord, Cond.code yX4_isRecord cX4_isRecord 1 (some .boolean), Cond.methodLink RX4 86 yX4_goes, Cond.instanceMethod yX4_goes, Cond.selects RX4 yX4_goes yX4_goes, Cond.code yX4_goes cX4_goes 2 (some .boolean), Cond.fieldLink RX4 71 "CatalogueHarvesterModel" "thrown" "I", Cond.methodLink RX4 96 yX4_stamp, Cond.instanceMethod yX4_stamp, Cond.selects RX4 yX4_stamp yX4_stamp, Cond.code yX4_stamp cX4_stamp 3 (some .int)]
def wsX4_put_r2 : List Cond := [Cond.fieldLink RX4 7 "CatalogueHarvesterModel" "units" "[I"]
def wsX4_put : List Cond := .code yX4_put cX4_put 7 (some .int) :: ((wsX4_put_r1 ++ wsX4_put_r2) ++ wsX40)
def wsX4_remove_r1 : List Cond := [Cond.fieldLink RX4 16 "CatalogueHarvesterModel" "kinds" "[I", Cond.fieldLink RX4 13 "CatalogueHarvesterModel" "ways" "[I", Cond.fieldLink RX4 25 "CatalogueHarvesterModel" "stamps" "[I", Cond.fieldLink RX4 79 "CatalogueHarvesterModel" "today" "I", Cond.fieldLink RX4 28 "CatalogueHarvesterModel" "removedOn" "[I", Cond.methodLink RX4 82 yX4_isCatalogue, Cond.static yX4_isCatalogue, Cond.initialized RX4, Cond.code yX4_isCatalogue cX4_isCatalogue 1 (some .boolean), Cond.methodLink RX4 75 yX4_isIn, Cond.static yX4_isIn, Cond.code yX4_isIn cX4_isIn 3 (some .boolean), Cond.methodLink RX4 93 yX4_isRecord, Cond.static yX4_isRecord, Cond.code yX4_isRecord cX4_isRecord 1 (some .boolean), Cond.methodLink RX4 86 yX4_goes, Cond.instanceMethod yX4_goes, Cond.selects RX4 yX4_goes yX4_goes, Cond.code yX4_goes cX4_goes 2 (some .boolean), Cond.fieldLink RX4 71 "CatalogueHarvesterModel" "thrown" "I", Cond.methodLink RX4 96 yX4_stamp, Cond.instanceMethod yX4_stamp, Cond.selects RX4 yX4_stamp yX4_stamp, Cond.code yX4_stamp cX4_stamp 3 (some .int)]
def wsX4_remove_r2 : List Cond := [Cond.fieldLink RX4 7 "CatalogueHarvesterModel" "units" "[I"]
def wsX4_remove : List Cond := .code yX4_remove cX4_remove 5 (some .boolean) :: ((wsX4_remove_r1 ++ wsX4_remove_r2) ++ wsX40)
def wsX4_pass : List Cond := .code yX4_pass cX4_pass 3 (some .int) :: ([.fieldLink RX4 79 "CatalogueHarvesterModel" "today" "I", .methodLink RX4 75 yX4_isIn, .static yX4_isIn, .initialized RX4, .code yX4_isIn cX4_isIn 3 (some .boolean), .methodLink RX4 86 yX4_goes, .instanceMethod yX4_goes, .selects RX4 yX4_goes yX4_goes, .code yX4_goes cX4_goes 2 (some .boolean), .fieldLink RX4 71 "CatalogueHarvesterModel" "thrown" "I", .methodLink RX4 89 yX4_clears, .instanceMethod yX4_clears, .selects RX4 yX4_clears yX4_clears, .code yX4_clears cX4_clears 4 none, .fieldLink RX4 13 "CatalogueHarvesterModel" "ways" "[I", .fieldLink RX4 28 "CatalogueHarvesterModel" "removedOn" "[I", .fieldLink RX4 16 "CatalogueHarvesterModel" "kinds" "[I"] ++ wsX40)
def wsX4_today : List Cond := .code yX4_today cX4_today 1 (some .int) :: ([.fieldLink RX4 71 "CatalogueHarvesterModel" "thrown" "I", .fieldLink RX4 79 "CatalogueHarvesterModel" "today" "I"] ++ wsX40)
def wsX4_count : List Cond := .code yX4_count cX4_count 5 (some .int) :: ([.fieldLink RX4 16 "CatalogueHarvesterModel" "kinds" "[I"] ++ wsX40)
def wsX4_asks : List Cond := .code yX4_asks cX4_asks 2 (some .boolean) :: ([.methodLink RX4 82 yX4_isCatalogue, .static yX4_isCatalogue, .initialized RX4, .code yX4_isCatalogue cX4_isCatalogue 1 (some .boolean), .methodLink RX4 75 yX4_isIn, .static yX4_isIn, .code yX4_isIn cX4_isIn 3 (some .boolean), .methodLink RX4 86 yX4_goes, .instanceMethod yX4_goes, .selects RX4 yX4_goes yX4_goes, .code yX4_goes cX4_goes 2 (some .boolean), .fieldLink RX4 71 "CatalogueHarvesterModel" "thrown" "I"] ++ wsX40)
def wsX4_far : List Cond := .code yX4_far cX4_far 2 (some .int) :: ([.methodLink RX4 100 yX4_asks, .instanceMethod yX4_asks, .selects RX4 yX4_asks yX4_asks, .initialized RX4, .code yX4_asks cX4_asks 2 (some .boolean), .methodLink RX4 82 yX4_isCatalogue, .static yX4_isCatalogue, .code yX4_isCatalogue cX4_isCatalogue 1 (some .boolean), .methodLink RX4 75 yX4_isIn, .static yX4_isIn, .code yX4_isIn cX4_isIn 3 (some .boolean), .methodLink RX4 86 yX4_goes, .instanceMethod yX4_goes, .selects RX4 yX4_goes yX4_goes, .code yX4_goes cX4_goes 2 (some .boolean), .fieldLink RX4 71 "CatalogueHarvesterModel" "thrown" "I", .methodLink RX4 103 yX4_count, .instanceMethod yX4_count, .selects RX4 yX4_count yX4_count, .code yX4_count cX4_count 5 (some .int), .fieldLink RX4 16 "CatalogueHarvesterModel" "kinds" "[I"] ++ wsX40)
def wsX4_told : List Cond := .code yX4_told cX4_told 2 (some .int) :: ([.methodLink RX4 100 yX4_asks, .instanceMethod yX4_asks, .selects RX4 yX4_asks yX4_asks, .initialized RX4, .code yX4_asks cX4_asks 2 (some .boolean), .methodLink RX4 82 yX4_isCatalogue, .static yX4_isCatalogue, .code yX4_isCatalogue cX4_isCatalogue 1 (some .boolean), .methodLink RX4 75 yX4_isIn, .static yX4_isIn, .code yX4_isIn cX4_isIn 3 (some .boolean), .methodLink RX4 86 yX4_goes, .instanceMethod yX4_goes, .selects RX4 yX4_goes yX4_goes, .code yX4_goes cX4_goes 2 (some .boolean), .fieldLink RX4 71 "CatalogueHarvesterModel" "thrown" "I", .methodLink RX4 103 yX4_count, .instanceMethod yX4_count, .selects RX4 yX4_count yX4_count, .code yX4_count cX4_count 5 (some .int), .fieldLink RX4 16 "CatalogueHarvesterModel" "kinds" "[I"] ++ wsX40)
def wsX4_begins : List Cond := .code yX4_begins cX4_begins 3 none :: ([.fieldLink RX4 44 "CatalogueHarvesterModel" "openedOn" "[I", .fieldLink RX4 79 "CatalogueHarvesterModel" "today" "I", .fieldLink RX4 47 "CatalogueHarvesterModel" "readOn" "[I", .fieldLink RX4 50 "CatalogueHarvesterModel" "placeStamps" "[I", .fieldLink RX4 53 "CatalogueHarvesterModel" "placeRecords" "[I", .fieldLink RX4 68 "CatalogueHarvesterModel" "wasSeen" "[Z"] ++ wsX40)
def wsX4_open_r1 : List Cond := [Cond.fieldLink RX4 34 "CatalogueHarvesterModel" "isOpen" "[Z", Cond.fieldLink RX4 38 "CatalogueHarvesterModel" "isFull" "[Z", Cond.fieldLink RX4 41 "CatalogueHarvesterModel" "froms" "[I", Cond.fieldLink RX4 31 "CatalogueHarvesterModel" "marks" "[I", Cond.methodLink RX4 100 yX4_asks, Cond.instanceMethod yX4_asks, Cond.selects RX4 yX4_asks yX4_asks, Cond.initialized RX4, Cond.code yX4_asks cX4_asks 2 (some .boolean), Cond.methodLink RX4 82 yX4_isCatalogue, Cond.static yX4_isCatalogue, Cond.code yX4_isCatalogue cX4_isCatalogue 1 (some .boolean), Cond.methodLink RX4 75 yX4_isIn, Cond.static yX4_isIn, Cond.code yX4_isIn cX4_isIn 3 (some .boolean), Cond.methodLink RX4 86 yX4_goes, Cond.instanceMethod yX4_goes, Cond.selects RX4 yX4_goes yX4_goes, Cond.code yX4_goes cX4_goes 2 (some .boolean), Cond.fieldLink RX4 71 "CatalogueHarvesterModel" "thrown" "I", Cond.methodLink RX4 106 yX4_begins, Cond.instanceMethod yX4_begins, Cond.selects RX4 yX4_begins yX4_begins, Cond.code yX4_begins cX4_begins 3 none]
def wsX4_open_r2 : List Cond := [Cond.fieldLink RX4 44 "CatalogueHarvesterModel" "openedOn" "[I", Cond.fieldLink RX4 79 "CatalogueHarvesterModel" "today" "I", Cond.fieldLink RX4 47 "CatalogueHarvesterModel" "readOn" "[I", Cond.fieldLink RX4 50 "CatalogueHarvesterModel" "placeStamps" "[I", Cond.fieldLink RX4 53 "CatalogueHarvesterModel" "placeRecords" "[I", Cond.fieldLink RX4 68 "CatalogueHarvesterModel" "wasSeen" "[Z"]
def wsX4_open : List Cond := .code yX4_open cX4_open 3 (some .int) :: ((wsX4_open_r1 ++ wsX4_open_r2) ++ wsX40)
def wsX4_next : List Cond := .code yX4_next cX4_next 7 (some .int) :: ([.fieldLink RX4 25 "CatalogueHarvesterModel" "stamps" "[I", .fieldLink RX4 50 "CatalogueHarvesterModel" "placeStamps" "[I", .fieldLink RX4 53 "CatalogueHarvesterModel" "placeRecords" "[I", .fieldLink RX4 16 "CatalogueHarvesterModel" "kinds" "[I", .fieldLink RX4 41 "CatalogueHarvesterModel" "froms" "[I"] ++ wsX40)
def wsX4_takes : List Cond := .code yX4_takes cX4_takes 3 none :: ([.fieldLink RX4 56 "CatalogueHarvesterModel" "isHeld" "[Z", .fieldLink RX4 16 "CatalogueHarvesterModel" "kinds" "[I", .fieldLink RX4 59 "CatalogueHarvesterModel" "heldWorks" "[I", .fieldLink RX4 19 "CatalogueHarvesterModel" "works" "[I", .fieldLink RX4 62 "CatalogueHarvesterModel" "heldValues" "[I", .fieldLink RX4 22 "CatalogueHarvesterModel" "values" "[I", .fieldLink RX4 65 "CatalogueHarvesterModel" "heldStamps" "[I", .fieldLink RX4 25 "CatalogueHarvesterModel" "stamps" "[I", .fieldLink RX4 68 "CatalogueHarvesterModel" "wasSeen" "[Z", .fieldLink RX4 50 "CatalogueHarvesterModel" "placeStamps" "[I", .fieldLink RX4 53 "CatalogueHarvesterModel" "placeRecords" "[I"] ++ wsX40)
def wsX4_read_r1 : List Cond := [Cond.fieldLink RX4 34 "CatalogueHarvesterModel" "isOpen" "[Z", Cond.fieldLink RX4 79 "CatalogueHarvesterModel" "today" "I", Cond.fieldLink RX4 47 "CatalogueHarvesterModel" "readOn" "[I", Cond.fieldLink RX4 31 "CatalogueHarvesterModel" "marks" "[I", Cond.fieldLink RX4 44 "CatalogueHarvesterModel" "openedOn" "[I", Cond.fieldLink RX4 56 "CatalogueHarvesterModel" "isHeld" "[Z", Cond.fieldLink RX4 68 "CatalogueHarvesterModel" "wasSeen" "[Z", Cond.fieldLink RX4 38 "CatalogueHarvesterModel" "isFull" "[Z", Cond.methodLink RX4 82 yX4_isCatalogue, Cond.static yX4_isCatalogue, Cond.initialized RX4, Cond.code yX4_isCatalogue cX4_isCatalogue 1 (some .boolean), Cond.methodLink RX4 75 yX4_isIn, Cond.static yX4_isIn, Cond.code yX4_isIn cX4_isIn 3 (some .boolean), Cond.methodLink RX4 86 yX4_goes, Cond.instanceMethod yX4_goes, Cond.selects RX4 yX4_goes yX4_goes, Cond.code yX4_goes cX4_goes 2 (some .boolean), Cond.fieldLink RX4 71 "CatalogueHarvesterModel" "thrown" "I", Cond.methodLink RX4 106 yX4_begins, Cond.instanceMethod yX4_begins, Cond.selects RX4 yX4_begins yX4_begins, Cond.code yX4_begins cX4_begins 3 none]
def wsX4_read_r2 : List Cond := [Cond.fieldLink RX4 50 "CatalogueHarvesterModel" "placeStamps" "[I", Cond.fieldLink RX4 53 "CatalogueHarvesterModel" "placeRecords" "[I", Cond.methodLink RX4 109 yX4_next, Cond.instanceMethod yX4_next, Cond.selects RX4 yX4_next yX4_next, Cond.code yX4_next cX4_next 7 (some .int), Cond.fieldLink RX4 25 "CatalogueHarvesterModel" "stamps" "[I", Cond.fieldLink RX4 16 "CatalogueHarvesterModel" "kinds" "[I", Cond.fieldLink RX4 41 "CatalogueHarvesterModel" "froms" "[I", Cond.methodLink RX4 113 yX4_takes, Cond.instanceMethod yX4_takes, Cond.selects RX4 yX4_takes yX4_takes, Cond.code yX4_takes cX4_takes 3 none, Cond.fieldLink RX4 59 "CatalogueHarvesterModel" "heldWorks" "[I", Cond.fieldLink RX4 19 "CatalogueHarvesterModel" "works" "[I", Cond.fieldLink RX4 62 "CatalogueHarvesterModel" "heldValues" "[I", Cond.fieldLink RX4 22 "CatalogueHarvesterModel" "values" "[I", Cond.fieldLink RX4 65 "CatalogueHarvesterModel" "heldStamps" "[I", Cond.methodLink RX4 96 yX4_stamp, Cond.instanceMethod yX4_stamp, Cond.selects RX4 yX4_stamp yX4_stamp, Cond.code yX4_stamp cX4_stamp 3 (some .int), Cond.fieldLink RX4 7 "CatalogueHarvesterModel" "units" "[I"]
def wsX4_read : List Cond := .code yX4_read cX4_read 4 (some .int) :: ((wsX4_read_r1 ++ wsX4_read_r2) ++ wsX40)
def wsX4_isOpen : List Cond := .code yX4_isOpen cX4_isOpen 2 (some .boolean) :: ([.fieldLink RX4 34 "CatalogueHarvesterModel" "isOpen" "[Z", .methodLink RX4 100 yX4_asks, .instanceMethod yX4_asks, .selects RX4 yX4_asks yX4_asks, .initialized RX4, .code yX4_asks cX4_asks 2 (some .boolean), .methodLink RX4 82 yX4_isCatalogue, .static yX4_isCatalogue, .code yX4_isCatalogue cX4_isCatalogue 1 (some .boolean), .methodLink RX4 75 yX4_isIn, .static yX4_isIn, .code yX4_isIn cX4_isIn 3 (some .boolean), .methodLink RX4 86 yX4_goes, .instanceMethod yX4_goes, .selects RX4 yX4_goes yX4_goes, .code yX4_goes cX4_goes 2 (some .boolean), .fieldLink RX4 71 "CatalogueHarvesterModel" "thrown" "I"] ++ wsX40)
def wsX4_mark : List Cond := .code yX4_mark cX4_mark 2 (some .int) :: ([.fieldLink RX4 31 "CatalogueHarvesterModel" "marks" "[I", .methodLink RX4 100 yX4_asks, .instanceMethod yX4_asks, .selects RX4 yX4_asks yX4_asks, .initialized RX4, .code yX4_asks cX4_asks 2 (some .boolean), .methodLink RX4 82 yX4_isCatalogue, .static yX4_isCatalogue, .code yX4_isCatalogue cX4_isCatalogue 1 (some .boolean), .methodLink RX4 75 yX4_isIn, .static yX4_isIn, .code yX4_isIn cX4_isIn 3 (some .boolean), .methodLink RX4 86 yX4_goes, .instanceMethod yX4_goes, .selects RX4 yX4_goes yX4_goes, .code yX4_goes cX4_goes 2 (some .boolean), .fieldLink RX4 71 "CatalogueHarvesterModel" "thrown" "I"] ++ wsX40)
def wsX4_stored : List Cond := .code yX4_stored cX4_stored 4 (some .int) :: ([.fieldLink RX4 56 "CatalogueHarvesterModel" "isHeld" "[Z", .fieldLink RX4 62 "CatalogueHarvesterModel" "heldValues" "[I", .methodLink RX4 82 yX4_isCatalogue, .static yX4_isCatalogue, .initialized RX4, .code yX4_isCatalogue cX4_isCatalogue 1 (some .boolean), .methodLink RX4 75 yX4_isIn, .static yX4_isIn, .code yX4_isIn cX4_isIn 3 (some .boolean), .methodLink RX4 93 yX4_isRecord, .static yX4_isRecord, .code yX4_isRecord cX4_isRecord 1 (some .boolean), .methodLink RX4 86 yX4_goes, .instanceMethod yX4_goes, .selects RX4 yX4_goes yX4_goes, .code yX4_goes cX4_goes 2 (some .boolean), .fieldLink RX4 71 "CatalogueHarvesterModel" "thrown" "I"] ++ wsX40)
def wsX4_held : List Cond := .code yX4_held cX4_held 4 (some .int) :: ([.fieldLink RX4 56 "CatalogueHarvesterModel" "isHeld" "[Z", .methodLink RX4 100 yX4_asks, .instanceMethod yX4_asks, .selects RX4 yX4_asks yX4_asks, .initialized RX4, .code yX4_asks cX4_asks 2 (some .boolean), .methodLink RX4 82 yX4_isCatalogue, .static yX4_isCatalogue, .code yX4_isCatalogue cX4_isCatalogue 1 (some .boolean), .methodLink RX4 75 yX4_isIn, .static yX4_isIn, .code yX4_isIn cX4_isIn 3 (some .boolean), .methodLink RX4 86 yX4_goes, .instanceMethod yX4_goes, .selects RX4 yX4_goes yX4_goes, .code yX4_goes cX4_goes 2 (some .boolean), .fieldLink RX4 71 "CatalogueHarvesterModel" "thrown" "I"] ++ wsX40)
def wsX4_isAlike : List Cond := .code yX4_isAlike cX4_isAlike 2 (some .boolean) :: ([.fieldLink RX4 56 "CatalogueHarvesterModel" "isHeld" "[Z", .fieldLink RX4 59 "CatalogueHarvesterModel" "heldWorks" "[I", .fieldLink RX4 19 "CatalogueHarvesterModel" "works" "[I", .fieldLink RX4 62 "CatalogueHarvesterModel" "heldValues" "[I", .fieldLink RX4 22 "CatalogueHarvesterModel" "values" "[I", .fieldLink RX4 65 "CatalogueHarvesterModel" "heldStamps" "[I", .fieldLink RX4 25 "CatalogueHarvesterModel" "stamps" "[I"] ++ wsX40)
def wsX4_wrong_r1 : List Cond := [Cond.fieldLink RX4 16 "CatalogueHarvesterModel" "kinds" "[I", Cond.fieldLink RX4 56 "CatalogueHarvesterModel" "isHeld" "[Z", Cond.methodLink RX4 100 yX4_asks, Cond.instanceMethod yX4_asks, Cond.selects RX4 yX4_asks yX4_asks, Cond.initialized RX4, Cond.code yX4_asks cX4_asks 2 (some .boolean), Cond.methodLink RX4 82 yX4_isCatalogue, Cond.static yX4_isCatalogue, Cond.code yX4_isCatalogue cX4_isCatalogue 1 (some .boolean), Cond.methodLink RX4 75 yX4_isIn, Cond.static yX4_isIn, Cond.code yX4_isIn cX4_isIn 3 (some .boolean), Cond.methodLink RX4 86 yX4_goes, Cond.instanceMethod yX4_goes, Cond.selects RX4 yX4_goes yX4_goes, Cond.code yX4_goes cX4_goes 2 (some .boolean), Cond.fieldLink RX4 71 "CatalogueHarvesterModel" "thrown" "I", Cond.methodLink RX4 117 yX4_isAlike, Cond.instanceMethod yX4_isAlike, Cond.selects RX4 yX4_isAlike yX4_isAlike, Cond.code yX4_isAlike cX4_isAlike 2 (some .boolean), Cond.fieldLink RX4 59 "CatalogueHarvesterModel" "heldWorks" "[I", Cond.fieldLink RX4 19 "CatalogueHarvesterModel" "works" "[I"]
def wsX4_wrong_r2 : List Cond := [Cond.fieldLink RX4 62 "CatalogueHarvesterModel" "heldValues" "[I", Cond.fieldLink RX4 22 "CatalogueHarvesterModel" "values" "[I", Cond.fieldLink RX4 65 "CatalogueHarvesterModel" "heldStamps" "[I", Cond.fieldLink RX4 25 "CatalogueHarvesterModel" "stamps" "[I"]
def wsX4_wrong : List Cond := .code yX4_wrong cX4_wrong 4 (some .int) :: ((wsX4_wrong_r1 ++ wsX4_wrong_r2) ++ wsX40)
def wsX4_isWork : List Cond := .code yX4_isWork cX4_isWork 1 (some .boolean) :: ([.methodLink RX4 75 yX4_isIn, .static yX4_isIn, .initialized RX4, .code yX4_isIn cX4_isIn 3 (some .boolean)])
def wsX4_copies : List Cond := .code yX4_copies cX4_copies 4 (some .int) :: ([.fieldLink RX4 56 "CatalogueHarvesterModel" "isHeld" "[Z", .fieldLink RX4 59 "CatalogueHarvesterModel" "heldWorks" "[I", .methodLink RX4 120 yX4_isWork, .static yX4_isWork, .initialized RX4, .code yX4_isWork cX4_isWork 1 (some .boolean), .methodLink RX4 75 yX4_isIn, .static yX4_isIn, .code yX4_isIn cX4_isIn 3 (some .boolean), .methodLink RX4 86 yX4_goes, .instanceMethod yX4_goes, .selects RX4 yX4_goes yX4_goes, .code yX4_goes cX4_goes 2 (some .boolean), .fieldLink RX4 71 "CatalogueHarvesterModel" "thrown" "I"] ++ wsX40)
def wsX4_best : List Cond := .code yX4_best cX4_best 5 (some .int) :: ([.fieldLink RX4 56 "CatalogueHarvesterModel" "isHeld" "[Z", .fieldLink RX4 59 "CatalogueHarvesterModel" "heldWorks" "[I", .fieldLink RX4 65 "CatalogueHarvesterModel" "heldStamps" "[I", .methodLink RX4 120 yX4_isWork, .static yX4_isWork, .initialized RX4, .code yX4_isWork cX4_isWork 1 (some .boolean), .methodLink RX4 75 yX4_isIn, .static yX4_isIn, .code yX4_isIn cX4_isIn 3 (some .boolean), .methodLink RX4 86 yX4_goes, .instanceMethod yX4_goes, .selects RX4 yX4_goes yX4_goes, .code yX4_goes cX4_goes 2 (some .boolean), .fieldLink RX4 71 "CatalogueHarvesterModel" "thrown" "I"] ++ wsX40)
def wsL_setCatalogue_r1 : List Cond := [Cond.classLink RL 13 "java/lang/IllegalArgumentException", Cond.methodLink RL 7 yX3_setCatalogue, Cond.instanceMethod yX3_setCatalogue, Cond.selects RX3 yX3_setCatalogue yX3_setCatalogue, Cond.initialized RX3, Cond.code yX3_setCatalogue cX3_setCatalogue 6 (some .int), Cond.fieldLink RX3 28 "CatalogueHarvester$Harvest" "far" "LCatalogueHarvester$FarCatalogue;", Cond.fieldLink RX3 32 "CatalogueHarvester$FarCatalogue" "unit" "I", Cond.fieldLink RX3 37 "CatalogueHarvester$FarCatalogue" "deletes" "I", Cond.fieldLink RX3 16 "CatalogueHarvester" "today" "I", Cond.methodLink RX3 20 yX3_harvestOf, Cond.instanceMethod yX3_harvestOf, Cond.selects RX3 yX3_harvestOf yX3_harvestOf, Cond.code yX3_harvestOf cX3_harvestOf 3 (some (.object "CatalogueHarvester$Harvest")), Cond.classLink RX3 121 "java/lang/IllegalArgumentException", Cond.initialized "java/lang/IllegalArgumentException", Cond.fieldLink RX3 11 "CatalogueHarvester" "harvests" "[LCatalogueHarvester$Harvest;", Cond.methodLink RX3 24 yX3_refuseOutside, Cond.static yX3_refuseOutside, Cond.code yX3_refuseOutside cX3_refuseOutside 3 none, Cond.methodLink RX3 40 yX0_forgetToldDeletes, Cond.instanceMethod yX0_forgetToldDeletes, Cond.selects RX0 yX0_forgetToldDeletes yX0_forgetToldDeletes, Cond.initialized RX0]
def wsL_setCatalogue_r2 : List Cond := [Cond.code yX0_forgetToldDeletes cX0_forgetToldDeletes 4 none, Cond.fieldLink RX0 26 "CatalogueHarvester$FarCatalogue" "removalDays" "[I", Cond.fieldLink RX0 33 "CatalogueHarvester$FarCatalogue" "deletes" "I", Cond.fieldLink RX0 18 "CatalogueHarvester$FarCatalogue" "isTold" "[Z"]
def wsL_setCatalogue : List Cond := .codeWith yL_setCatalogue cL_setCatalogue 6 (some .int) [(0, 12, 15, 13)] :: ((wsL_setCatalogue_r1 ++ wsL_setCatalogue_r2) ++ wsX10 ++ wsX00 ++ wsX30 ++ (vx_atS RX3 125 "java/lang/IllegalArgumentException" ["java/lang/RuntimeException", "java/lang/Exception"]).filter goodWord)
def wsL_put_r1 : List Cond := [Cond.classLink RL 13 "java/lang/IllegalArgumentException", Cond.methodLink RL 15 yX3_put, Cond.instanceMethod yX3_put, Cond.selects RX3 yX3_put yX3_put, Cond.initialized RX3, Cond.code yX3_put cX3_put 6 (some .int), Cond.fieldLink RX3 28 "CatalogueHarvester$Harvest" "far" "LCatalogueHarvester$FarCatalogue;", Cond.fieldLink RX3 16 "CatalogueHarvester" "today" "I", Cond.methodLink RX3 20 yX3_harvestOf, Cond.instanceMethod yX3_harvestOf, Cond.selects RX3 yX3_harvestOf yX3_harvestOf, Cond.code yX3_harvestOf cX3_harvestOf 3 (some (.object "CatalogueHarvester$Harvest")), Cond.classLink RX3 121 "java/lang/IllegalArgumentException", Cond.initialized "java/lang/IllegalArgumentException", Cond.fieldLink RX3 11 "CatalogueHarvester" "harvests" "[LCatalogueHarvester$Harvest;", Cond.methodLink RX3 44 yX3_refuseRecord, Cond.static yX3_refuseRecord, Cond.code yX3_refuseRecord cX3_refuseRecord 1 none, Cond.methodLink RX3 24 yX3_refuseOutside, Cond.static yX3_refuseOutside, Cond.code yX3_refuseOutside cX3_refuseOutside 3 none, Cond.methodLink RX3 47 yX0_change, Cond.instanceMethod yX0_change, Cond.selects RX0 yX0_change yX0_change]
def wsL_put_r2 : List Cond := [Cond.initialized RX0, Cond.code yX0_change cX0_change 6 (some .int), Cond.fieldLink RX0 12 "CatalogueHarvester$FarCatalogue" "records" "LCatalogueHarvester$Records;", Cond.fieldLink RX0 18 "CatalogueHarvester$FarCatalogue" "isTold" "[Z", Cond.methodLink RX0 36 yX0_stampOfDay, Cond.instanceMethod yX0_stampOfDay, Cond.selects RX0 yX0_stampOfDay yX0_stampOfDay, Cond.code yX0_stampOfDay cX0_stampOfDay 2 (some .int), Cond.fieldLink RX0 29 "CatalogueHarvester$FarCatalogue" "unit" "I", Cond.methodLink RX0 40 yX2_keep, Cond.instanceMethod yX2_keep, Cond.selects RX2 yX2_keep yX2_keep, Cond.initialized RX2, Cond.code yX2_keep cX2_keep 5 none, Cond.fieldLink RX2 9 "CatalogueHarvester$Records" "isThere" "[Z", Cond.fieldLink RX2 15 "CatalogueHarvester$Records" "works" "[I", Cond.fieldLink RX2 19 "CatalogueHarvester$Records" "values" "[I", Cond.fieldLink RX2 22 "CatalogueHarvester$Records" "stamps" "[I"]
def wsL_put : List Cond := .codeWith yL_put cL_put 7 (some .int) [(0, 14, 17, 13)] :: ((wsL_put_r1 ++ wsL_put_r2) ++ wsX10 ++ wsX30 ++ wsX00 ++ wsX20 ++ (vx_atS RX3 125 "java/lang/IllegalArgumentException" ["java/lang/RuntimeException", "java/lang/Exception"]).filter goodWord)
def wsL_remove_r1 : List Cond := [Cond.classLink RL 13 "java/lang/IllegalArgumentException", Cond.classLink RL 23 "java/lang/IllegalStateException", Cond.methodLink RL 19 yX3_remove, Cond.instanceMethod yX3_remove, Cond.selects RX3 yX3_remove yX3_remove, Cond.initialized RX3, Cond.code yX3_remove cX3_remove 4 (some .boolean), Cond.classLink RX3 61 "java/lang/IllegalStateException", Cond.initialized "java/lang/IllegalStateException", Cond.fieldLink RX3 28 "CatalogueHarvester$Harvest" "far" "LCatalogueHarvester$FarCatalogue;", Cond.fieldLink RX3 51 "CatalogueHarvester$FarCatalogue" "records" "LCatalogueHarvester$Records;", Cond.fieldLink RX3 55 "CatalogueHarvester$Records" "isThere" "[Z", Cond.fieldLink RX3 16 "CatalogueHarvester" "today" "I", Cond.methodLink RX3 20 yX3_harvestOf, Cond.instanceMethod yX3_harvestOf, Cond.selects RX3 yX3_harvestOf yX3_harvestOf, Cond.code yX3_harvestOf cX3_harvestOf 3 (some (.object "CatalogueHarvester$Harvest")), Cond.classLink RX3 121 "java/lang/IllegalArgumentException", Cond.initialized "java/lang/IllegalArgumentException", Cond.fieldLink RX3 11 "CatalogueHarvester" "harvests" "[LCatalogueHarvester$Harvest;", Cond.methodLink RX3 44 yX3_refuseRecord, Cond.static yX3_refuseRecord, Cond.code yX3_refuseRecord cX3_refuseRecord 1 none, Cond.methodLink RX3 24 yX3_refuseOutside]
def wsL_remove_r2 : List Cond := [Cond.static yX3_refuseOutside, Cond.code yX3_refuseOutside cX3_refuseOutside 3 none, Cond.methodLink RX3 68 yX0_delete, Cond.instanceMethod yX0_delete, Cond.selects RX0 yX0_delete yX0_delete, Cond.initialized RX0, Cond.code yX0_delete cX0_delete 3 (some .boolean), Cond.fieldLink RX0 12 "CatalogueHarvester$FarCatalogue" "records" "LCatalogueHarvester$Records;", Cond.fieldLink RX0 18 "CatalogueHarvester$FarCatalogue" "isTold" "[Z", Cond.fieldLink RX0 33 "CatalogueHarvester$FarCatalogue" "deletes" "I", Cond.fieldLink RX0 22 "CatalogueHarvester$FarCatalogue" "toldStamps" "[I", Cond.fieldLink RX0 26 "CatalogueHarvester$FarCatalogue" "removalDays" "[I", Cond.methodLink RX0 44 yX2_drop, Cond.instanceMethod yX2_drop, Cond.selects RX2 yX2_drop yX2_drop, Cond.initialized RX2, Cond.code yX2_drop cX2_drop 2 none, Cond.fieldLink RX2 9 "CatalogueHarvester$Records" "isThere" "[Z", Cond.methodLink RX0 36 yX0_stampOfDay, Cond.instanceMethod yX0_stampOfDay, Cond.selects RX0 yX0_stampOfDay yX0_stampOfDay, Cond.code yX0_stampOfDay cX0_stampOfDay 2 (some .int), Cond.fieldLink RX0 29 "CatalogueHarvester$FarCatalogue" "unit" "I"]
def wsL_remove : List Cond := .codeWith yL_remove cL_remove 5 (some .int) [(0, 17, 20, 13), (0, 17, 24, 23)] :: ((wsL_remove_r1 ++ wsL_remove_r2) ++ wsX10 ++ wsX00 ++ wsX20 ++ wsX30 ++ (vx_atS RX3 65 "java/lang/IllegalStateException" ["java/lang/RuntimeException", "java/lang/Exception"]).filter goodWord ++ (vx_atS RX3 125 "java/lang/IllegalArgumentException" ["java/lang/RuntimeException", "java/lang/Exception"]).filter goodWord)
def wsL_pass_r1 : List Cond := [Cond.classLink RL 13 "java/lang/IllegalArgumentException", Cond.classLink RL 23 "java/lang/IllegalStateException", Cond.methodLink RL 25 yX3_pass, Cond.instanceMethod yX3_pass, Cond.selects RX3 yX3_pass yX3_pass, Cond.initialized RX3, Cond.code yX3_pass cX3_pass 3 (some .int), Cond.classLink RX3 61 "java/lang/IllegalStateException", Cond.initialized "java/lang/IllegalStateException", Cond.fieldLink RX3 16 "CatalogueHarvester" "today" "I", Cond.fieldLink RX3 28 "CatalogueHarvester$Harvest" "far" "LCatalogueHarvester$FarCatalogue;", Cond.methodLink RX3 24 yX3_refuseOutside, Cond.static yX3_refuseOutside, Cond.code yX3_refuseOutside cX3_refuseOutside 3 none, Cond.classLink RX3 121 "java/lang/IllegalArgumentException", Cond.initialized "java/lang/IllegalArgumentException", Cond.methodLink RX3 20 yX3_harvestOf, Cond.instanceMethod yX3_harvestOf, Cond.selects RX3 yX3_harvestOf yX3_harvestOf, Cond.code yX3_harvestOf cX3_harvestOf 3 (some (.object "CatalogueHarvester$Harvest")), Cond.fieldLink RX3 11 "CatalogueHarvester" "harvests" "[LCatalogueHarvester$Harvest;", Cond.methodLink RX3 40 yX0_forgetToldDeletes, Cond.instanceMethod yX0_forgetToldDeletes, Cond.selects RX0 yX0_forgetToldDeletes yX0_forgetToldDeletes]
def wsL_pass_r2 : List Cond := [Cond.initialized RX0, Cond.code yX0_forgetToldDeletes cX0_forgetToldDeletes 4 none, Cond.fieldLink RX0 26 "CatalogueHarvester$FarCatalogue" "removalDays" "[I", Cond.fieldLink RX0 33 "CatalogueHarvester$FarCatalogue" "deletes" "I", Cond.fieldLink RX0 18 "CatalogueHarvester$FarCatalogue" "isTold" "[Z"]
def wsL_pass : List Cond := .codeWith yL_pass cL_pass 4 (some .int) [(0, 9, 12, 13), (0, 9, 15, 23)] :: ((wsL_pass_r1 ++ wsL_pass_r2) ++ wsX30 ++ wsX10 ++ wsX00 ++ (vx_atS RX3 65 "java/lang/IllegalStateException" ["java/lang/RuntimeException", "java/lang/Exception"]).filter goodWord ++ (vx_atS RX3 125 "java/lang/IllegalArgumentException" ["java/lang/RuntimeException", "java/lang/Exception"]).filter goodWord)
def wsL_far : List Cond := .codeWith yL_far cL_far 4 (some .int) [(0, 9, 12, 13)] :: ([.classLink RL 13 "java/lang/IllegalArgumentException", .methodLink RL 29 yX3_far, .instanceMethod yX3_far, .selects RX3 yX3_far yX3_far, .initialized RX3, .code yX3_far cX3_far 2 (some .int), .fieldLink RX3 28 "CatalogueHarvester$Harvest" "far" "LCatalogueHarvester$FarCatalogue;", .fieldLink RX3 51 "CatalogueHarvester$FarCatalogue" "records" "LCatalogueHarvester$Records;", .methodLink RX3 20 yX3_harvestOf, .instanceMethod yX3_harvestOf, .selects RX3 yX3_harvestOf yX3_harvestOf, .code yX3_harvestOf cX3_harvestOf 3 (some (.object "CatalogueHarvester$Harvest")), .classLink RX3 121 "java/lang/IllegalArgumentException", .initialized "java/lang/IllegalArgumentException", .fieldLink RX3 11 "CatalogueHarvester" "harvests" "[LCatalogueHarvester$Harvest;", .methodLink RX3 74 yX2_count, .instanceMethod yX2_count, .selects RX2 yX2_count yX2_count, .initialized RX2, .code yX2_count cX2_count 3 (some .int), .fieldLink RX2 9 "CatalogueHarvester$Records" "isThere" "[Z"] ++ wsX10 ++ wsX00 ++ wsX30 ++ wsX20 ++ (vx_atS RX3 125 "java/lang/IllegalArgumentException" ["java/lang/RuntimeException", "java/lang/Exception"]).filter goodWord)
def wsL_told : List Cond := .codeWith yL_told cL_told 4 (some .int) [(0, 9, 12, 13)] :: ([.classLink RL 13 "java/lang/IllegalArgumentException", .methodLink RL 32 yX3_told, .instanceMethod yX3_told, .selects RX3 yX3_told yX3_told, .initialized RX3, .code yX3_told cX3_told 2 (some .int), .fieldLink RX3 28 "CatalogueHarvester$Harvest" "far" "LCatalogueHarvester$FarCatalogue;", .methodLink RX3 20 yX3_harvestOf, .instanceMethod yX3_harvestOf, .selects RX3 yX3_harvestOf yX3_harvestOf, .code yX3_harvestOf cX3_harvestOf 3 (some (.object "CatalogueHarvester$Harvest")), .classLink RX3 121 "java/lang/IllegalArgumentException", .initialized "java/lang/IllegalArgumentException", .fieldLink RX3 11 "CatalogueHarvester" "harvests" "[LCatalogueHarvester$Harvest;", .methodLink RX3 78 yX0_countTold, .instanceMethod yX0_countTold, .selects RX0 yX0_countTold yX0_countTold, .initialized RX0, .code yX0_countTold cX0_countTold 3 (some .int), .fieldLink RX0 18 "CatalogueHarvester$FarCatalogue" "isTold" "[Z"] ++ wsX10 ++ wsX30 ++ wsX00 ++ (vx_atS RX3 125 "java/lang/IllegalArgumentException" ["java/lang/RuntimeException", "java/lang/Exception"]).filter goodWord)
def wsL_open_r1 : List Cond := [Cond.classLink RL 13 "java/lang/IllegalArgumentException", Cond.methodLink RL 35 yX3_open, Cond.instanceMethod yX3_open, Cond.selects RX3 yX3_open yX3_open, Cond.initialized RX3, Cond.code yX3_open cX3_open 4 (some .int), Cond.fieldLink RX3 16 "CatalogueHarvester" "today" "I", Cond.methodLink RX3 20 yX3_harvestOf, Cond.instanceMethod yX3_harvestOf, Cond.selects RX3 yX3_harvestOf yX3_harvestOf, Cond.code yX3_harvestOf cX3_harvestOf 3 (some (.object "CatalogueHarvester$Harvest")), Cond.classLink RX3 121 "java/lang/IllegalArgumentException", Cond.initialized "java/lang/IllegalArgumentException", Cond.fieldLink RX3 11 "CatalogueHarvester" "harvests" "[LCatalogueHarvester$Harvest;", Cond.methodLink RX3 81 yX1_begin, Cond.instanceMethod yX1_begin, Cond.selects RX1 yX1_begin yX1_begin, Cond.initialized RX1, Cond.code yX1_begin cX1_begin 4 none, Cond.fieldLink RX1 29 "CatalogueHarvester$Harvest" "hasOpenList" "Z", Cond.fieldLink RX1 33 "CatalogueHarvester$Harvest" "isFullList" "Z", Cond.fieldLink RX1 36 "CatalogueHarvester$Harvest" "openingDay" "I", Cond.fieldLink RX1 39 "CatalogueHarvester$Harvest" "tokenDay" "I", Cond.fieldLink RX1 42 "CatalogueHarvester$Harvest" "placeStamp" "I"]
def wsL_open_r2 : List Cond := [Cond.fieldLink RX1 45 "CatalogueHarvester$Harvest" "placeRecord" "I", Cond.fieldLink RX1 48 "CatalogueHarvester$Harvest" "isTakenOver" "[Z", Cond.methodLink RX3 85 yX1_firstStamp, Cond.instanceMethod yX1_firstStamp, Cond.selects RX1 yX1_firstStamp yX1_firstStamp, Cond.code yX1_firstStamp cX1_firstStamp 1 (some .int), Cond.fieldLink RX1 25 "CatalogueHarvester$Harvest" "mark" "I"]
def wsL_open : List Cond := .codeWith yL_open cL_open 5 (some .int) [(0, 10, 13, 13)] :: ((wsL_open_r1 ++ wsL_open_r2) ++ wsX30 ++ wsX10 ++ (vx_atS RX3 125 "java/lang/IllegalArgumentException" ["java/lang/RuntimeException", "java/lang/Exception"]).filter goodWord)
def wsL_read_r1 : List Cond := [Cond.classLink RL 13 "java/lang/IllegalArgumentException", Cond.classLink RL 23 "java/lang/IllegalStateException", Cond.methodLink RL 39 yX3_read, Cond.instanceMethod yX3_read, Cond.selects RX3 yX3_read yX3_read, Cond.initialized RX3, Cond.code yX3_read cX3_read 3 (some .int), Cond.classLink RX3 61 "java/lang/IllegalStateException", Cond.initialized "java/lang/IllegalStateException", Cond.fieldLink RX3 88 "CatalogueHarvester$Harvest" "hasOpenList" "Z", Cond.fieldLink RX3 16 "CatalogueHarvester" "today" "I", Cond.methodLink RX3 20 yX3_harvestOf, Cond.instanceMethod yX3_harvestOf, Cond.selects RX3 yX3_harvestOf yX3_harvestOf, Cond.code yX3_harvestOf cX3_harvestOf 3 (some (.object "CatalogueHarvester$Harvest")), Cond.classLink RX3 121 "java/lang/IllegalArgumentException", Cond.initialized "java/lang/IllegalArgumentException", Cond.fieldLink RX3 11 "CatalogueHarvester" "harvests" "[LCatalogueHarvester$Harvest;", Cond.methodLink RX3 94 yX1_takePage, Cond.instanceMethod yX1_takePage, Cond.selects RX1 yX1_takePage yX1_takePage, Cond.initialized RX1, Cond.code yX1_takePage cX1_takePage 4 (some .int), Cond.fieldLink RX1 39 "CatalogueHarvester$Harvest" "tokenDay" "I"]
def wsL_read_r2 : List Cond := [Cond.fieldLink RX1 33 "CatalogueHarvester$Harvest" "isFullList" "Z", Cond.methodLink RX1 52 yX1_begin, Cond.instanceMethod yX1_begin, Cond.selects RX1 yX1_begin yX1_begin, Cond.code yX1_begin cX1_begin 4 none, Cond.fieldLink RX1 29 "CatalogueHarvester$Harvest" "hasOpenList" "Z", Cond.fieldLink RX1 36 "CatalogueHarvester$Harvest" "openingDay" "I", Cond.fieldLink RX1 42 "CatalogueHarvester$Harvest" "placeStamp" "I", Cond.fieldLink RX1 45 "CatalogueHarvester$Harvest" "placeRecord" "I", Cond.fieldLink RX1 48 "CatalogueHarvester$Harvest" "isTakenOver" "[Z", Cond.methodLink RX1 56 yX1_nextOfList, Cond.instanceMethod yX1_nextOfList, Cond.selects RX1 yX1_nextOfList yX1_nextOfList, Cond.code yX1_nextOfList cX1_nextOfList 1 (some .int), Cond.fieldLink RX1 12 "CatalogueHarvester$Harvest" "far" "LCatalogueHarvester$FarCatalogue;", Cond.methodLink RX1 67 yX1_firstStamp, Cond.instanceMethod yX1_firstStamp, Cond.selects RX1 yX1_firstStamp yX1_firstStamp, Cond.code yX1_firstStamp cX1_firstStamp 1 (some .int), Cond.fieldLink RX1 25 "CatalogueHarvester$Harvest" "mark" "I", Cond.methodLink RX1 70 yX0_nextListed, Cond.instanceMethod yX0_nextListed, Cond.selects RX0 yX0_nextListed yX0_nextListed, Cond.initialized RX0]
def wsL_read_r3 : List Cond := [Cond.code yX0_nextListed cX0_nextListed 10 (some .int), Cond.methodLink RX0 54 yX0_listedStamp, Cond.instanceMethod yX0_listedStamp, Cond.selects RX0 yX0_listedStamp yX0_listedStamp, Cond.code yX0_listedStamp cX0_listedStamp 2 (some .int), Cond.fieldLink RX0 12 "CatalogueHarvester$FarCatalogue" "records" "LCatalogueHarvester$Records;", Cond.fieldLink RX0 48 "CatalogueHarvester$Records" "isThere" "[Z", Cond.fieldLink RX0 51 "CatalogueHarvester$Records" "stamps" "[I", Cond.fieldLink RX0 18 "CatalogueHarvester$FarCatalogue" "isTold" "[Z", Cond.fieldLink RX0 22 "CatalogueHarvester$FarCatalogue" "toldStamps" "[I", Cond.methodLink RX1 60 yX1_takeOver, Cond.instanceMethod yX1_takeOver, Cond.selects RX1 yX1_takeOver yX1_takeOver, Cond.code yX1_takeOver cX1_takeOver 3 none, Cond.fieldLink RX1 78 "CatalogueHarvester$FarCatalogue" "records" "LCatalogueHarvester$Records;", Cond.fieldLink RX1 81 "CatalogueHarvester$Records" "isThere" "[Z", Cond.fieldLink RX1 21 "CatalogueHarvester$Harvest" "store" "LCatalogueHarvester$Records;", Cond.fieldLink RX1 84 "CatalogueHarvester$Records" "works" "[I", Cond.fieldLink RX1 88 "CatalogueHarvester$Records" "values" "[I", Cond.fieldLink RX1 91 "CatalogueHarvester$Records" "stamps" "[I", Cond.methodLink RX1 74 yX0_listedStamp, Cond.methodLink RX1 94 yX2_keep, Cond.instanceMethod yX2_keep, Cond.selects RX2 yX2_keep yX2_keep]
def wsL_read_r4 : List Cond := [Cond.initialized RX2, Cond.code yX2_keep cX2_keep 5 none, Cond.fieldLink RX2 9 "CatalogueHarvester$Records" "isThere" "[Z", Cond.fieldLink RX2 15 "CatalogueHarvester$Records" "works" "[I", Cond.fieldLink RX2 19 "CatalogueHarvester$Records" "values" "[I", Cond.fieldLink RX2 22 "CatalogueHarvester$Records" "stamps" "[I", Cond.methodLink RX1 98 yX2_drop, Cond.instanceMethod yX2_drop, Cond.selects RX2 yX2_drop yX2_drop, Cond.code yX2_drop cX2_drop 2 none, Cond.methodLink RX1 64 yX1_finish, Cond.instanceMethod yX1_finish, Cond.selects RX1 yX1_finish yX1_finish, Cond.code yX1_finish cX1_finish 1 none, Cond.methodLink RX1 101 yX0_stampOfDay, Cond.instanceMethod yX0_stampOfDay, Cond.selects RX0 yX0_stampOfDay yX0_stampOfDay, Cond.code yX0_stampOfDay cX0_stampOfDay 2 (some .int), Cond.fieldLink RX0 29 "CatalogueHarvester$FarCatalogue" "unit" "I", Cond.methodLink RX1 104 yX1_dropWhatIsGone, Cond.instanceMethod yX1_dropWhatIsGone, Cond.selects RX1 yX1_dropWhatIsGone yX1_dropWhatIsGone, Cond.code yX1_dropWhatIsGone cX1_dropWhatIsGone 2 none]
def wsL_read : List Cond := .codeWith yL_read cL_read 4 (some .int) [(0, 9, 12, 13), (0, 9, 15, 23)] :: ((wsL_read_r1 ++ (wsL_read_r2 ++ (wsL_read_r3 ++ wsL_read_r4))) ++ wsX10 ++ wsX30 ++ wsX00 ++ wsX20 ++ (vx_atS RX3 65 "java/lang/IllegalStateException" ["java/lang/RuntimeException", "java/lang/Exception"]).filter goodWord ++ (vx_atS RX3 125 "java/lang/IllegalArgumentException" ["java/lang/RuntimeException", "java/lang/Exception"]).filter goodWord)
def wsL_isOpen : List Cond := .codeWith yL_isOpen cL_isOpen 4 (some .int) [(0, 16, 19, 13)] :: ([.classLink RL 13 "java/lang/IllegalArgumentException", .methodLink RL 42 yX3_isOpen, .instanceMethod yX3_isOpen, .selects RX3 yX3_isOpen yX3_isOpen, .initialized RX3, .code yX3_isOpen cX3_isOpen 2 (some .boolean), .fieldLink RX3 88 "CatalogueHarvester$Harvest" "hasOpenList" "Z", .methodLink RX3 20 yX3_harvestOf, .instanceMethod yX3_harvestOf, .selects RX3 yX3_harvestOf yX3_harvestOf, .code yX3_harvestOf cX3_harvestOf 3 (some (.object "CatalogueHarvester$Harvest")), .classLink RX3 121 "java/lang/IllegalArgumentException", .initialized "java/lang/IllegalArgumentException", .fieldLink RX3 11 "CatalogueHarvester" "harvests" "[LCatalogueHarvester$Harvest;"] ++ wsX10 ++ wsX30 ++ (vx_atS RX3 125 "java/lang/IllegalArgumentException" ["java/lang/RuntimeException", "java/lang/Exception"]).filter goodWord)
def wsL_mark : List Cond := .codeWith yL_mark cL_mark 4 (some .int) [(0, 9, 12, 13)] :: ([.classLink RL 13 "java/lang/IllegalArgumentException", .methodLink RL 46 yX3_mark, .instanceMethod yX3_mark, .selects RX3 yX3_mark yX3_mark, .initialized RX3, .code yX3_mark cX3_mark 2 (some .int), .fieldLink RX3 98 "CatalogueHarvester$Harvest" "mark" "I", .methodLink RX3 20 yX3_harvestOf, .instanceMethod yX3_harvestOf, .selects RX3 yX3_harvestOf yX3_harvestOf, .code yX3_harvestOf cX3_harvestOf 3 (some (.object "CatalogueHarvester$Harvest")), .classLink RX3 121 "java/lang/IllegalArgumentException", .initialized "java/lang/IllegalArgumentException", .fieldLink RX3 11 "CatalogueHarvester" "harvests" "[LCatalogueHarvester$Harvest;"] ++ wsX10 ++ wsX30 ++ (vx_atS RX3 125 "java/lang/IllegalArgumentException" ["java/lang/RuntimeException", "java/lang/Exception"]).filter goodWord)
def wsL_stored : List Cond := .codeWith yL_stored cL_stored 5 (some .int) [(0, 10, 13, 13)] :: ([.classLink RL 13 "java/lang/IllegalArgumentException", .methodLink RL 49 yX3_stored, .instanceMethod yX3_stored, .selects RX3 yX3_stored yX3_stored, .initialized RX3, .code yX3_stored cX3_stored 4 (some .int), .fieldLink RX3 101 "CatalogueHarvester$Harvest" "store" "LCatalogueHarvester$Records;", .fieldLink RX3 55 "CatalogueHarvester$Records" "isThere" "[Z", .fieldLink RX3 104 "CatalogueHarvester$Records" "values" "[I", .methodLink RX3 20 yX3_harvestOf, .instanceMethod yX3_harvestOf, .selects RX3 yX3_harvestOf yX3_harvestOf, .code yX3_harvestOf cX3_harvestOf 3 (some (.object "CatalogueHarvester$Harvest")), .classLink RX3 121 "java/lang/IllegalArgumentException", .initialized "java/lang/IllegalArgumentException", .fieldLink RX3 11 "CatalogueHarvester" "harvests" "[LCatalogueHarvester$Harvest;", .methodLink RX3 44 yX3_refuseRecord, .static yX3_refuseRecord, .code yX3_refuseRecord cX3_refuseRecord 1 none, .methodLink RX3 24 yX3_refuseOutside, .static yX3_refuseOutside, .code yX3_refuseOutside cX3_refuseOutside 3 none] ++ wsX10 ++ wsX20 ++ wsX30 ++ (vx_atS RX3 125 "java/lang/IllegalArgumentException" ["java/lang/RuntimeException", "java/lang/Exception"]).filter goodWord)
def wsL_held : List Cond := .codeWith yL_held cL_held 4 (some .int) [(0, 9, 12, 13)] :: ([.classLink RL 13 "java/lang/IllegalArgumentException", .methodLink RL 53 yX3_held, .instanceMethod yX3_held, .selects RX3 yX3_held yX3_held, .initialized RX3, .code yX3_held cX3_held 2 (some .int), .fieldLink RX3 101 "CatalogueHarvester$Harvest" "store" "LCatalogueHarvester$Records;", .methodLink RX3 20 yX3_harvestOf, .instanceMethod yX3_harvestOf, .selects RX3 yX3_harvestOf yX3_harvestOf, .code yX3_harvestOf cX3_harvestOf 3 (some (.object "CatalogueHarvester$Harvest")), .classLink RX3 121 "java/lang/IllegalArgumentException", .initialized "java/lang/IllegalArgumentException", .fieldLink RX3 11 "CatalogueHarvester" "harvests" "[LCatalogueHarvester$Harvest;", .methodLink RX3 74 yX2_count, .instanceMethod yX2_count, .selects RX2 yX2_count yX2_count, .initialized RX2, .code yX2_count cX2_count 3 (some .int), .fieldLink RX2 9 "CatalogueHarvester$Records" "isThere" "[Z"] ++ wsX10 ++ wsX30 ++ wsX20 ++ (vx_atS RX3 125 "java/lang/IllegalArgumentException" ["java/lang/RuntimeException", "java/lang/Exception"]).filter goodWord)
def wsL_wrong_r1 : List Cond := [Cond.classLink RL 13 "java/lang/IllegalArgumentException", Cond.methodLink RL 56 yX3_wrong, Cond.instanceMethod yX3_wrong, Cond.selects RX3 yX3_wrong yX3_wrong, Cond.initialized RX3, Cond.code yX3_wrong cX3_wrong 3 (some .int), Cond.fieldLink RX3 101 "CatalogueHarvester$Harvest" "store" "LCatalogueHarvester$Records;", Cond.fieldLink RX3 28 "CatalogueHarvester$Harvest" "far" "LCatalogueHarvester$FarCatalogue;", Cond.fieldLink RX3 51 "CatalogueHarvester$FarCatalogue" "records" "LCatalogueHarvester$Records;", Cond.methodLink RX3 20 yX3_harvestOf, Cond.instanceMethod yX3_harvestOf, Cond.selects RX3 yX3_harvestOf yX3_harvestOf, Cond.code yX3_harvestOf cX3_harvestOf 3 (some (.object "CatalogueHarvester$Harvest")), Cond.classLink RX3 121 "java/lang/IllegalArgumentException", Cond.initialized "java/lang/IllegalArgumentException", Cond.fieldLink RX3 11 "CatalogueHarvester" "harvests" "[LCatalogueHarvester$Harvest;", Cond.methodLink RX3 108 yX2_countUnlike, Cond.instanceMethod yX2_countUnlike, Cond.selects RX2 yX2_countUnlike yX2_countUnlike, Cond.initialized RX2, Cond.code yX2_countUnlike cX2_countUnlike 4 (some .int), Cond.methodLink RX2 25 yX2_isLike, Cond.instanceMethod yX2_isLike, Cond.selects RX2 yX2_isLike yX2_isLike]
def wsL_wrong_r2 : List Cond := [Cond.code yX2_isLike cX2_isLike 3 (some .boolean), Cond.fieldLink RX2 9 "CatalogueHarvester$Records" "isThere" "[Z", Cond.fieldLink RX2 15 "CatalogueHarvester$Records" "works" "[I", Cond.fieldLink RX2 19 "CatalogueHarvester$Records" "values" "[I", Cond.fieldLink RX2 22 "CatalogueHarvester$Records" "stamps" "[I"]
def wsL_wrong : List Cond := .codeWith yL_wrong cL_wrong 4 (some .int) [(0, 9, 12, 13)] :: ((wsL_wrong_r1 ++ wsL_wrong_r2) ++ wsX10 ++ wsX00 ++ wsX30 ++ wsX20 ++ (vx_atS RX3 125 "java/lang/IllegalArgumentException" ["java/lang/RuntimeException", "java/lang/Exception"]).filter goodWord)
def wsL_copies : List Cond := .codeWith yL_copies cL_copies 4 (some .int) [(0, 9, 12, 13)] :: ([.classLink RL 13 "java/lang/IllegalArgumentException", .methodLink RL 59 yX3_copies, .instanceMethod yX3_copies, .selects RX3 yX3_copies yX3_copies, .initialized RX3, .code yX3_copies cX3_copies 4 (some .int), .fieldLink RX3 101 "CatalogueHarvester$Harvest" "store" "LCatalogueHarvester$Records;", .methodLink RX3 24 yX3_refuseOutside, .static yX3_refuseOutside, .code yX3_refuseOutside cX3_refuseOutside 3 none, .classLink RX3 121 "java/lang/IllegalArgumentException", .initialized "java/lang/IllegalArgumentException", .methodLink RX3 20 yX3_harvestOf, .instanceMethod yX3_harvestOf, .selects RX3 yX3_harvestOf yX3_harvestOf, .code yX3_harvestOf cX3_harvestOf 3 (some (.object "CatalogueHarvester$Harvest")), .fieldLink RX3 11 "CatalogueHarvester" "harvests" "[LCatalogueHarvester$Harvest;", .methodLink RX3 112 yX2_countOfWork, .instanceMethod yX2_countOfWork, .selects RX2 yX2_countOfWork yX2_countOfWork, .initialized RX2, .code yX2_countOfWork cX2_countOfWork 4 (some .int), .fieldLink RX2 9 "CatalogueHarvester$Records" "isThere" "[Z", .fieldLink RX2 15 "CatalogueHarvester$Records" "works" "[I"] ++ wsX10 ++ wsX30 ++ wsX20 ++ (vx_atS RX3 125 "java/lang/IllegalArgumentException" ["java/lang/RuntimeException", "java/lang/Exception"]).filter goodWord)
def wsL_best_r1 : List Cond := [Cond.classLink RL 13 "java/lang/IllegalArgumentException", Cond.methodLink RL 62 yX3_best, Cond.instanceMethod yX3_best, Cond.selects RX3 yX3_best yX3_best, Cond.initialized RX3, Cond.code yX3_best cX3_best 7 (some .int), Cond.fieldLink RX3 101 "CatalogueHarvester$Harvest" "store" "LCatalogueHarvester$Records;", Cond.fieldLink RX3 118 "CatalogueHarvester$Records" "stamps" "[I", Cond.methodLink RX3 24 yX3_refuseOutside, Cond.static yX3_refuseOutside, Cond.code yX3_refuseOutside cX3_refuseOutside 3 none, Cond.classLink RX3 121 "java/lang/IllegalArgumentException", Cond.initialized "java/lang/IllegalArgumentException", Cond.methodLink RX3 20 yX3_harvestOf, Cond.instanceMethod yX3_harvestOf, Cond.selects RX3 yX3_harvestOf yX3_harvestOf, Cond.code yX3_harvestOf cX3_harvestOf 3 (some (.object "CatalogueHarvester$Harvest")), Cond.fieldLink RX3 11 "CatalogueHarvester" "harvests" "[LCatalogueHarvester$Harvest;", Cond.methodLink RX3 115 yX2_latestOfWork, Cond.instanceMethod yX2_latestOfWork, Cond.selects RX2 yX2_latestOfWork yX2_latestOfWork, Cond.initialized RX2, Cond.code yX2_latestOfWork cX2_latestOfWork 5 (some .int), Cond.fieldLink RX2 9 "CatalogueHarvester$Records" "isThere" "[Z"]
def wsL_best_r2 : List Cond := [Cond.fieldLink RX2 15 "CatalogueHarvester$Records" "works" "[I", Cond.fieldLink RX2 22 "CatalogueHarvester$Records" "stamps" "[I"]
def wsL_best : List Cond := .codeWith yL_best cL_best 4 (some .int) [(0, 9, 12, 13)] :: ((wsL_best_r1 ++ wsL_best_r2) ++ wsX10 ++ wsX20 ++ wsX30 ++ (vx_atS RX3 125 "java/lang/IllegalArgumentException" ["java/lang/RuntimeException", "java/lang/Exception"]).filter goodWord)
def wsL_law0_r1 : List Cond := [Cond.classLink RL 8 RX3, Cond.instantiable RX3 2, Cond.initialized RX3, Cond.classLink RL 66 RX4, Cond.instantiable RX4 22, Cond.initialized RX4, Cond.arrayClass .long, Cond.methodLink RL 65 yX3_init, Cond.instanceMethod yX3_init, Cond.code yX3_init cX3_init 2 none, Cond.methodLink RX3 1 objectInit, Cond.instanceMethod objectInit, Cond.code objectInit ⟨#[0xb1]⟩ 1 none, Cond.classLink RX3 9 RX1, Cond.fieldLink RX3 11 "CatalogueHarvester" "harvests" "[LCatalogueHarvester$Harvest;", Cond.instantiable RX1 10, Cond.initialized RX1, Cond.fieldLink RX3 16 "CatalogueHarvester" "today" "I", Cond.instanceMethod yX1_init, Cond.code yX1_init cX1_init 1 none, Cond.methodLink RX1 3 objectInit, Cond.classLink RX1 9 RX0, Cond.instantiable RX0 6, Cond.initialized RX0]
def wsL_law0_r2 : List Cond := [Cond.fieldLink RX1 12 "CatalogueHarvester$Harvest" "far" "LCatalogueHarvester$FarCatalogue;", Cond.classLink RX1 18 RX2, Cond.instantiable RX2 4, Cond.initialized RX2, Cond.fieldLink RX1 21 "CatalogueHarvester$Harvest" "store" "LCatalogueHarvester$Records;", Cond.fieldLink RX1 25 "CatalogueHarvester$Harvest" "mark" "I", Cond.fieldLink RX1 29 "CatalogueHarvester$Harvest" "hasOpenList" "Z", Cond.fieldLink RX1 33 "CatalogueHarvester$Harvest" "isFullList" "Z", Cond.fieldLink RX1 36 "CatalogueHarvester$Harvest" "openingDay" "I", Cond.fieldLink RX1 39 "CatalogueHarvester$Harvest" "tokenDay" "I", Cond.fieldLink RX1 42 "CatalogueHarvester$Harvest" "placeStamp" "I", Cond.fieldLink RX1 45 "CatalogueHarvester$Harvest" "placeRecord" "I", Cond.arrayClass .boolean, Cond.fieldLink RX1 48 "CatalogueHarvester$Harvest" "isTakenOver" "[Z", Cond.instanceMethod yX0_init, Cond.code yX0_init cX0_init 1 none, Cond.methodLink RX0 3 objectInit, Cond.classLink RX0 9 RX2, Cond.fieldLink RX0 12 "CatalogueHarvester$FarCatalogue" "records" "LCatalogueHarvester$Records;", Cond.fieldLink RX0 18 "CatalogueHarvester$FarCatalogue" "isTold" "[Z", Cond.arrayClass .int, Cond.fieldLink RX0 22 "CatalogueHarvester$FarCatalogue" "toldStamps" "[I", Cond.fieldLink RX0 26 "CatalogueHarvester$FarCatalogue" "removalDays" "[I", Cond.fieldLink RX0 29 "CatalogueHarvester$FarCatalogue" "unit" "I"]
def wsL_law0_r3 : List Cond := [Cond.fieldLink RX0 33 "CatalogueHarvester$FarCatalogue" "deletes" "I", Cond.instanceMethod yX2_init, Cond.code yX2_init cX2_init 1 none, Cond.methodLink RX2 3 objectInit, Cond.fieldLink RX2 9 "CatalogueHarvester$Records" "isThere" "[Z", Cond.fieldLink RX2 15 "CatalogueHarvester$Records" "works" "[I", Cond.fieldLink RX2 19 "CatalogueHarvester$Records" "values" "[I", Cond.fieldLink RX2 22 "CatalogueHarvester$Records" "stamps" "[I", Cond.methodLink RL 68 yX4_init, Cond.instanceMethod yX4_init, Cond.code yX4_init cX4_init 2 none, Cond.methodLink RX4 1 objectInit, Cond.fieldLink RX4 7 "CatalogueHarvesterModel" "units" "[I", Cond.fieldLink RX4 13 "CatalogueHarvesterModel" "ways" "[I", Cond.fieldLink RX4 16 "CatalogueHarvesterModel" "kinds" "[I", Cond.fieldLink RX4 19 "CatalogueHarvesterModel" "works" "[I", Cond.fieldLink RX4 22 "CatalogueHarvesterModel" "values" "[I", Cond.fieldLink RX4 25 "CatalogueHarvesterModel" "stamps" "[I", Cond.fieldLink RX4 28 "CatalogueHarvesterModel" "removedOn" "[I", Cond.fieldLink RX4 31 "CatalogueHarvesterModel" "marks" "[I", Cond.fieldLink RX4 34 "CatalogueHarvesterModel" "isOpen" "[Z", Cond.fieldLink RX4 38 "CatalogueHarvesterModel" "isFull" "[Z", Cond.fieldLink RX4 41 "CatalogueHarvesterModel" "froms" "[I", Cond.fieldLink RX4 44 "CatalogueHarvesterModel" "openedOn" "[I"]
def wsL_law0_r4 : List Cond := [Cond.fieldLink RX4 47 "CatalogueHarvesterModel" "readOn" "[I", Cond.fieldLink RX4 50 "CatalogueHarvesterModel" "placeStamps" "[I", Cond.fieldLink RX4 53 "CatalogueHarvesterModel" "placeRecords" "[I", Cond.fieldLink RX4 56 "CatalogueHarvesterModel" "isHeld" "[Z", Cond.fieldLink RX4 59 "CatalogueHarvesterModel" "heldWorks" "[I", Cond.fieldLink RX4 62 "CatalogueHarvesterModel" "heldValues" "[I", Cond.fieldLink RX4 65 "CatalogueHarvesterModel" "heldStamps" "[I", Cond.fieldLink RX4 68 "CatalogueHarvesterModel" "wasSeen" "[Z", Cond.methodLink RL 69 yL_setCatalogue, Cond.static yL_setCatalogue, Cond.initialized RL, Cond.codeWith yL_setCatalogue cL_setCatalogue 6 (some .int) [(0, 12, 15, 13)], Cond.classLink RL 13 "java/lang/IllegalArgumentException", Cond.methodLink RL 7 yX3_setCatalogue, Cond.instanceMethod yX3_setCatalogue, Cond.selects RX3 yX3_setCatalogue yX3_setCatalogue, Cond.code yX3_setCatalogue cX3_setCatalogue 6 (some .int), Cond.fieldLink RX3 28 "CatalogueHarvester$Harvest" "far" "LCatalogueHarvester$FarCatalogue;", Cond.fieldLink RX3 32 "CatalogueHarvester$FarCatalogue" "unit" "I", Cond.fieldLink RX3 37 "CatalogueHarvester$FarCatalogue" "deletes" "I", Cond.methodLink RX3 20 yX3_harvestOf, Cond.instanceMethod yX3_harvestOf, Cond.selects RX3 yX3_harvestOf yX3_harvestOf, Cond.code yX3_harvestOf cX3_harvestOf 3 (some (.object "CatalogueHarvester$Harvest"))]
def wsL_law0_r5 : List Cond := [Cond.classLink RX3 121 "java/lang/IllegalArgumentException", Cond.initialized "java/lang/IllegalArgumentException", Cond.methodLink RX3 24 yX3_refuseOutside, Cond.static yX3_refuseOutside, Cond.code yX3_refuseOutside cX3_refuseOutside 3 none, Cond.methodLink RX3 40 yX0_forgetToldDeletes, Cond.instanceMethod yX0_forgetToldDeletes, Cond.selects RX0 yX0_forgetToldDeletes yX0_forgetToldDeletes, Cond.code yX0_forgetToldDeletes cX0_forgetToldDeletes 4 none, Cond.methodLink RL 74 yX4_setCatalogue, Cond.instanceMethod yX4_setCatalogue, Cond.selects RX4 yX4_setCatalogue yX4_setCatalogue, Cond.code yX4_setCatalogue cX4_setCatalogue 6 (some .int), Cond.methodLink RX4 82 yX4_isCatalogue, Cond.static yX4_isCatalogue, Cond.code yX4_isCatalogue cX4_isCatalogue 1 (some .boolean), Cond.methodLink RX4 75 yX4_isIn, Cond.static yX4_isIn, Cond.code yX4_isIn cX4_isIn 3 (some .boolean), Cond.methodLink RX4 86 yX4_goes, Cond.instanceMethod yX4_goes, Cond.selects RX4 yX4_goes yX4_goes, Cond.code yX4_goes cX4_goes 2 (some .boolean), Cond.fieldLink RX4 71 "CatalogueHarvesterModel" "thrown" "I"]
def wsL_law0_r6 : List Cond := [Cond.methodLink RX4 89 yX4_clears, Cond.instanceMethod yX4_clears, Cond.selects RX4 yX4_clears yX4_clears, Cond.code yX4_clears cX4_clears 4 none, Cond.fieldLink RX4 79 "CatalogueHarvesterModel" "today" "I", Cond.methodLink RL 75 yX4_thrown, Cond.instanceMethod yX4_thrown, Cond.selects RX4 yX4_thrown yX4_thrown, Cond.code yX4_thrown cX4_thrown 1 (some .int), Cond.methodLink RL 79 yL_put, Cond.static yL_put, Cond.codeWith yL_put cL_put 7 (some .int) [(0, 14, 17, 13)], Cond.methodLink RL 15 yX3_put, Cond.instanceMethod yX3_put, Cond.selects RX3 yX3_put yX3_put, Cond.code yX3_put cX3_put 6 (some .int), Cond.methodLink RX3 44 yX3_refuseRecord, Cond.static yX3_refuseRecord, Cond.code yX3_refuseRecord cX3_refuseRecord 1 none, Cond.methodLink RX3 47 yX0_change, Cond.instanceMethod yX0_change, Cond.selects RX0 yX0_change yX0_change, Cond.code yX0_change cX0_change 6 (some .int), Cond.methodLink RX0 36 yX0_stampOfDay]
def wsL_law0_r7 : List Cond := [Cond.instanceMethod yX0_stampOfDay, Cond.selects RX0 yX0_stampOfDay yX0_stampOfDay, Cond.code yX0_stampOfDay cX0_stampOfDay 2 (some .int), Cond.methodLink RX0 40 yX2_keep, Cond.instanceMethod yX2_keep, Cond.selects RX2 yX2_keep yX2_keep, Cond.code yX2_keep cX2_keep 5 none, Cond.methodLink RL 82 yX4_put, Cond.instanceMethod yX4_put, Cond.selects RX4 yX4_put yX4_put, Cond.code yX4_put cX4_put 7 (some .int), Cond.methodLink RX4 93 yX4_isRecord, Cond.static yX4_isRecord, Cond.code yX4_isRecord cX4_isRecord 1 (some .boolean), Cond.methodLink RX4 96 yX4_stamp, Cond.instanceMethod yX4_stamp, Cond.selects RX4 yX4_stamp yX4_stamp, Cond.code yX4_stamp cX4_stamp 3 (some .int), Cond.methodLink RL 83 yL_remove, Cond.static yL_remove, Cond.codeWith yL_remove cL_remove 5 (some .int) [(0, 17, 20, 13), (0, 17, 24, 23)], Cond.classLink RL 23 "java/lang/IllegalStateException", Cond.methodLink RL 19 yX3_remove, Cond.instanceMethod yX3_remove]
def wsL_law0_r8 : List Cond := [Cond.selects RX3 yX3_remove yX3_remove, Cond.code yX3_remove cX3_remove 4 (some .boolean), Cond.classLink RX3 61 "java/lang/IllegalStateException", Cond.initialized "java/lang/IllegalStateException", Cond.fieldLink RX3 51 "CatalogueHarvester$FarCatalogue" "records" "LCatalogueHarvester$Records;", Cond.fieldLink RX3 55 "CatalogueHarvester$Records" "isThere" "[Z", Cond.methodLink RX3 68 yX0_delete, Cond.instanceMethod yX0_delete, Cond.selects RX0 yX0_delete yX0_delete, Cond.code yX0_delete cX0_delete 3 (some .boolean), Cond.methodLink RX0 44 yX2_drop, Cond.instanceMethod yX2_drop, Cond.selects RX2 yX2_drop yX2_drop, Cond.code yX2_drop cX2_drop 2 none, Cond.methodLink RL 86 yX4_remove, Cond.instanceMethod yX4_remove, Cond.selects RX4 yX4_remove yX4_remove, Cond.code yX4_remove cX4_remove 5 (some .boolean), Cond.methodLink RL 87 yL_pass, Cond.static yL_pass, Cond.codeWith yL_pass cL_pass 4 (some .int) [(0, 9, 12, 13), (0, 9, 15, 23)], Cond.methodLink RL 25 yX3_pass, Cond.instanceMethod yX3_pass, Cond.selects RX3 yX3_pass yX3_pass]
def wsL_law0_r9 : List Cond := [Cond.code yX3_pass cX3_pass 3 (some .int), Cond.methodLink RL 90 yX4_pass, Cond.instanceMethod yX4_pass, Cond.selects RX4 yX4_pass yX4_pass, Cond.code yX4_pass cX4_pass 3 (some .int), Cond.methodLink RL 91 yX3_today, Cond.instanceMethod yX3_today, Cond.selects RX3 yX3_today yX3_today, Cond.code yX3_today cX3_today 1 (some .int), Cond.methodLink RL 94 yX4_today, Cond.instanceMethod yX4_today, Cond.selects RX4 yX4_today yX4_today, Cond.code yX4_today cX4_today 1 (some .int), Cond.methodLink RL 95 yL_far, Cond.static yL_far, Cond.codeWith yL_far cL_far 4 (some .int) [(0, 9, 12, 13)], Cond.methodLink RL 29 yX3_far, Cond.instanceMethod yX3_far, Cond.selects RX3 yX3_far yX3_far, Cond.code yX3_far cX3_far 2 (some .int), Cond.methodLink RX3 74 yX2_count, Cond.instanceMethod yX2_count, Cond.selects RX2 yX2_count yX2_count, Cond.code yX2_count cX2_count 3 (some .int)]
def wsL_law0_r10 : List Cond := [Cond.methodLink RL 97 yX4_far, Cond.instanceMethod yX4_far, Cond.selects RX4 yX4_far yX4_far, Cond.code yX4_far cX4_far 2 (some .int), Cond.methodLink RX4 100 yX4_asks, Cond.instanceMethod yX4_asks, Cond.selects RX4 yX4_asks yX4_asks, Cond.code yX4_asks cX4_asks 2 (some .boolean), Cond.methodLink RX4 103 yX4_count, Cond.instanceMethod yX4_count, Cond.selects RX4 yX4_count yX4_count, Cond.code yX4_count cX4_count 5 (some .int), Cond.methodLink RL 98 yL_told, Cond.static yL_told, Cond.codeWith yL_told cL_told 4 (some .int) [(0, 9, 12, 13)], Cond.methodLink RL 32 yX3_told, Cond.instanceMethod yX3_told, Cond.selects RX3 yX3_told yX3_told, Cond.code yX3_told cX3_told 2 (some .int), Cond.methodLink RX3 78 yX0_countTold, Cond.instanceMethod yX0_countTold, Cond.selects RX0 yX0_countTold yX0_countTold, Cond.code yX0_countTold cX0_countTold 3 (some .int), Cond.methodLink RL 100 yX4_told]
def wsL_law0_r11 : List Cond := [Cond.instanceMethod yX4_told, Cond.selects RX4 yX4_told yX4_told, Cond.code yX4_told cX4_told 2 (some .int), Cond.methodLink RL 101 yL_open, Cond.static yL_open, Cond.codeWith yL_open cL_open 5 (some .int) [(0, 10, 13, 13)], Cond.methodLink RL 35 yX3_open, Cond.instanceMethod yX3_open, Cond.selects RX3 yX3_open yX3_open, Cond.code yX3_open cX3_open 4 (some .int), Cond.methodLink RX3 81 yX1_begin, Cond.instanceMethod yX1_begin, Cond.selects RX1 yX1_begin yX1_begin, Cond.code yX1_begin cX1_begin 4 none, Cond.methodLink RX3 85 yX1_firstStamp, Cond.instanceMethod yX1_firstStamp, Cond.selects RX1 yX1_firstStamp yX1_firstStamp, Cond.code yX1_firstStamp cX1_firstStamp 1 (some .int), Cond.methodLink RL 104 yX4_open, Cond.instanceMethod yX4_open, Cond.selects RX4 yX4_open yX4_open, Cond.code yX4_open cX4_open 3 (some .int), Cond.methodLink RX4 106 yX4_begins, Cond.instanceMethod yX4_begins]
def wsL_law0_r12 : List Cond := [Cond.selects RX4 yX4_begins yX4_begins, Cond.code yX4_begins cX4_begins 3 none, Cond.methodLink RL 105 yL_read, Cond.static yL_read, Cond.codeWith yL_read cL_read 4 (some .int) [(0, 9, 12, 13), (0, 9, 15, 23)], Cond.methodLink RL 39 yX3_read, Cond.instanceMethod yX3_read, Cond.selects RX3 yX3_read yX3_read, Cond.code yX3_read cX3_read 3 (some .int), Cond.fieldLink RX3 88 "CatalogueHarvester$Harvest" "hasOpenList" "Z", Cond.methodLink RX3 94 yX1_takePage, Cond.instanceMethod yX1_takePage, Cond.selects RX1 yX1_takePage yX1_takePage, Cond.code yX1_takePage cX1_takePage 4 (some .int), Cond.methodLink RX1 52 yX1_begin, Cond.methodLink RX1 56 yX1_nextOfList, Cond.instanceMethod yX1_nextOfList, Cond.selects RX1 yX1_nextOfList yX1_nextOfList, Cond.code yX1_nextOfList cX1_nextOfList 1 (some .int), Cond.methodLink RX1 67 yX1_firstStamp, Cond.methodLink RX1 70 yX0_nextListed, Cond.instanceMethod yX0_nextListed, Cond.selects RX0 yX0_nextListed yX0_nextListed, Cond.code yX0_nextListed cX0_nextListed 10 (some .int)]
def wsL_law0_r13 : List Cond := [Cond.methodLink RX0 54 yX0_listedStamp, Cond.instanceMethod yX0_listedStamp, Cond.selects RX0 yX0_listedStamp yX0_listedStamp, Cond.code yX0_listedStamp cX0_listedStamp 2 (some .int), Cond.fieldLink RX0 48 "CatalogueHarvester$Records" "isThere" "[Z", Cond.fieldLink RX0 51 "CatalogueHarvester$Records" "stamps" "[I", Cond.methodLink RX1 60 yX1_takeOver, Cond.instanceMethod yX1_takeOver, Cond.selects RX1 yX1_takeOver yX1_takeOver, Cond.code yX1_takeOver cX1_takeOver 3 none, Cond.fieldLink RX1 78 "CatalogueHarvester$FarCatalogue" "records" "LCatalogueHarvester$Records;", Cond.fieldLink RX1 81 "CatalogueHarvester$Records" "isThere" "[Z", Cond.fieldLink RX1 84 "CatalogueHarvester$Records" "works" "[I", Cond.fieldLink RX1 88 "CatalogueHarvester$Records" "values" "[I", Cond.fieldLink RX1 91 "CatalogueHarvester$Records" "stamps" "[I", Cond.methodLink RX1 74 yX0_listedStamp, Cond.methodLink RX1 94 yX2_keep, Cond.methodLink RX1 98 yX2_drop, Cond.methodLink RX1 64 yX1_finish, Cond.instanceMethod yX1_finish, Cond.selects RX1 yX1_finish yX1_finish, Cond.code yX1_finish cX1_finish 1 none, Cond.methodLink RX1 101 yX0_stampOfDay, Cond.methodLink RX1 104 yX1_dropWhatIsGone]
def wsL_law0_r14 : List Cond := [Cond.instanceMethod yX1_dropWhatIsGone, Cond.selects RX1 yX1_dropWhatIsGone yX1_dropWhatIsGone, Cond.code yX1_dropWhatIsGone cX1_dropWhatIsGone 2 none, Cond.methodLink RL 107 yX4_read, Cond.instanceMethod yX4_read, Cond.selects RX4 yX4_read yX4_read, Cond.code yX4_read cX4_read 4 (some .int), Cond.methodLink RX4 109 yX4_next, Cond.instanceMethod yX4_next, Cond.selects RX4 yX4_next yX4_next, Cond.code yX4_next cX4_next 7 (some .int), Cond.methodLink RX4 113 yX4_takes, Cond.instanceMethod yX4_takes, Cond.selects RX4 yX4_takes yX4_takes, Cond.code yX4_takes cX4_takes 3 none, Cond.methodLink RL 108 yL_isOpen, Cond.static yL_isOpen, Cond.codeWith yL_isOpen cL_isOpen 4 (some .int) [(0, 16, 19, 13)], Cond.methodLink RL 42 yX3_isOpen, Cond.instanceMethod yX3_isOpen, Cond.selects RX3 yX3_isOpen yX3_isOpen, Cond.code yX3_isOpen cX3_isOpen 2 (some .boolean), Cond.methodLink RL 110 yX4_isOpen, Cond.instanceMethod yX4_isOpen]
def wsL_law0_r15 : List Cond := [Cond.selects RX4 yX4_isOpen yX4_isOpen, Cond.code yX4_isOpen cX4_isOpen 2 (some .boolean), Cond.methodLink RL 111 yL_mark, Cond.static yL_mark, Cond.codeWith yL_mark cL_mark 4 (some .int) [(0, 9, 12, 13)], Cond.methodLink RL 46 yX3_mark, Cond.instanceMethod yX3_mark, Cond.selects RX3 yX3_mark yX3_mark, Cond.code yX3_mark cX3_mark 2 (some .int), Cond.fieldLink RX3 98 "CatalogueHarvester$Harvest" "mark" "I", Cond.methodLink RL 113 yX4_mark, Cond.instanceMethod yX4_mark, Cond.selects RX4 yX4_mark yX4_mark, Cond.code yX4_mark cX4_mark 2 (some .int), Cond.methodLink RL 114 yL_stored, Cond.static yL_stored, Cond.codeWith yL_stored cL_stored 5 (some .int) [(0, 10, 13, 13)], Cond.methodLink RL 49 yX3_stored, Cond.instanceMethod yX3_stored, Cond.selects RX3 yX3_stored yX3_stored, Cond.code yX3_stored cX3_stored 4 (some .int), Cond.fieldLink RX3 101 "CatalogueHarvester$Harvest" "store" "LCatalogueHarvester$Records;", Cond.fieldLink RX3 104 "CatalogueHarvester$Records" "values" "[I", Cond.methodLink RL 116 yX4_stored]
def wsL_law0_r16 : List Cond := [Cond.instanceMethod yX4_stored, Cond.selects RX4 yX4_stored yX4_stored, Cond.code yX4_stored cX4_stored 4 (some .int), Cond.methodLink RL 117 yL_held, Cond.static yL_held, Cond.codeWith yL_held cL_held 4 (some .int) [(0, 9, 12, 13)], Cond.methodLink RL 53 yX3_held, Cond.instanceMethod yX3_held, Cond.selects RX3 yX3_held yX3_held, Cond.code yX3_held cX3_held 2 (some .int), Cond.methodLink RL 119 yX4_held, Cond.instanceMethod yX4_held, Cond.selects RX4 yX4_held yX4_held, Cond.code yX4_held cX4_held 4 (some .int), Cond.methodLink RL 120 yL_wrong, Cond.static yL_wrong, Cond.codeWith yL_wrong cL_wrong 4 (some .int) [(0, 9, 12, 13)], Cond.methodLink RL 56 yX3_wrong, Cond.instanceMethod yX3_wrong, Cond.selects RX3 yX3_wrong yX3_wrong, Cond.code yX3_wrong cX3_wrong 3 (some .int), Cond.methodLink RX3 108 yX2_countUnlike, Cond.instanceMethod yX2_countUnlike, Cond.selects RX2 yX2_countUnlike yX2_countUnlike]
def wsL_law0_r17 : List Cond := [Cond.code yX2_countUnlike cX2_countUnlike 4 (some .int), Cond.methodLink RX2 25 yX2_isLike, Cond.instanceMethod yX2_isLike, Cond.selects RX2 yX2_isLike yX2_isLike, Cond.code yX2_isLike cX2_isLike 3 (some .boolean), Cond.methodLink RL 122 yX4_wrong, Cond.instanceMethod yX4_wrong, Cond.selects RX4 yX4_wrong yX4_wrong, Cond.code yX4_wrong cX4_wrong 4 (some .int), Cond.methodLink RX4 117 yX4_isAlike, Cond.instanceMethod yX4_isAlike, Cond.selects RX4 yX4_isAlike yX4_isAlike, Cond.code yX4_isAlike cX4_isAlike 2 (some .boolean), Cond.methodLink RL 123 yL_copies, Cond.static yL_copies, Cond.codeWith yL_copies cL_copies 4 (some .int) [(0, 9, 12, 13)], Cond.methodLink RL 59 yX3_copies, Cond.instanceMethod yX3_copies, Cond.selects RX3 yX3_copies yX3_copies, Cond.code yX3_copies cX3_copies 4 (some .int), Cond.methodLink RX3 112 yX2_countOfWork, Cond.instanceMethod yX2_countOfWork, Cond.selects RX2 yX2_countOfWork yX2_countOfWork, Cond.code yX2_countOfWork cX2_countOfWork 4 (some .int)]
def wsL_law0_r18 : List Cond := [Cond.methodLink RL 125 yX4_copies, Cond.instanceMethod yX4_copies, Cond.selects RX4 yX4_copies yX4_copies, Cond.code yX4_copies cX4_copies 4 (some .int), Cond.methodLink RX4 120 yX4_isWork, Cond.static yX4_isWork, Cond.code yX4_isWork cX4_isWork 1 (some .boolean), Cond.methodLink RL 126 yL_best, Cond.static yL_best, Cond.codeWith yL_best cL_best 4 (some .int) [(0, 9, 12, 13)], Cond.methodLink RL 62 yX3_best, Cond.instanceMethod yX3_best, Cond.selects RX3 yX3_best yX3_best, Cond.code yX3_best cX3_best 7 (some .int), Cond.fieldLink RX3 118 "CatalogueHarvester$Records" "stamps" "[I", Cond.methodLink RX3 115 yX2_latestOfWork, Cond.instanceMethod yX2_latestOfWork, Cond.selects RX2 yX2_latestOfWork yX2_latestOfWork, Cond.code yX2_latestOfWork cX2_latestOfWork 5 (some .int), Cond.methodLink RL 128 yX4_best, Cond.instanceMethod yX4_best, Cond.selects RX4 yX4_best yX4_best, Cond.code yX4_best cX4_best 5 (some .int)]
def wsL_law0 : List Cond := (wsL_law0_r1 ++ (wsL_law0_r2 ++ (wsL_law0_r3 ++ (wsL_law0_r4 ++ (wsL_law0_r5 ++ (wsL_law0_r6 ++ (wsL_law0_r7 ++ (wsL_law0_r8 ++ (wsL_law0_r9 ++ (wsL_law0_r10 ++ (wsL_law0_r11 ++ (wsL_law0_r12 ++ (wsL_law0_r13 ++ (wsL_law0_r14 ++ (wsL_law0_r15 ++ (wsL_law0_r16 ++ (wsL_law0_r17 ++ wsL_law0_r18))))))))))))))))) ++ wsX30 ++ wsX40 ++ wsX10 ++ wsX00 ++ wsX20 ++ ([] : List Cond)
def wsL_law : List Cond := wsL_law0 ++ (vx_atS RX3 125 "java/lang/IllegalArgumentException" ["java/lang/RuntimeException", "java/lang/Exception"]).filter goodWord ++ (vx_atS RX3 65 "java/lang/IllegalStateException" ["java/lang/RuntimeException", "java/lang/Exception"]).filter goodWord
set_option maxRecDepth 20000 in
theorem ggX0_init_X2_init : GoodIn wsX0_init wsX2_init := goodIn_r _ [16, 17, 2, 3, 8, 18, 10, 19, 20, 21, 22, 23, 24, 25] (by decide +kernel) (by decide +kernel)
set_option maxRecDepth 20000 in
theorem gX0_init_X2_init_n11 : GoodIn wsX0_init (wsX2_init) := ggX0_init_X2_init
theorem dX0_init_0 : decode cX0_init 0 = .ok (.aload_n 0, 1) := by decide +kernel
theorem dX0_init_1 : decode cX0_init 1 = .ok (.invokespecial 3, 3) := by decide +kernel
theorem dX0_init_4 : decode cX0_init 4 = .ok (.aload_n 0, 1) := by decide +kernel
theorem dX0_init_5 : decode cX0_init 5 = .ok (.new 9, 3) := by decide +kernel
theorem dX0_init_8 : decode cX0_init 8 = .ok (.dup, 1) := by decide +kernel
theorem dX0_init_9 : decode cX0_init 9 = .ok (.invokespecial 11, 3) := by decide +kernel
theorem dX0_init_12 : decode cX0_init 12 = .ok (.putfield 12, 3) := by decide +kernel
theorem dX0_init_15 : decode cX0_init 15 = .ok (.aload_n 0, 1) := by decide +kernel
theorem dX0_init_16 : decode cX0_init 16 = .ok (.bipush 20, 2) := by decide +kernel
theorem dX0_init_18 : decode cX0_init 18 = .ok (.newarray .boolean, 2) := by decide +kernel
theorem dX0_init_20 : decode cX0_init 20 = .ok (.putfield 18, 3) := by decide +kernel
theorem dX0_init_23 : decode cX0_init 23 = .ok (.aload_n 0, 1) := by decide +kernel
theorem dX0_init_24 : decode cX0_init 24 = .ok (.bipush 20, 2) := by decide +kernel
theorem dX0_init_26 : decode cX0_init 26 = .ok (.newarray .int, 2) := by decide +kernel
theorem dX0_init_28 : decode cX0_init 28 = .ok (.putfield 22, 3) := by decide +kernel
theorem dX0_init_31 : decode cX0_init 31 = .ok (.aload_n 0, 1) := by decide +kernel
theorem dX0_init_32 : decode cX0_init 32 = .ok (.bipush 20, 2) := by decide +kernel
theorem dX0_init_34 : decode cX0_init 34 = .ok (.newarray .int, 2) := by decide +kernel
theorem dX0_init_36 : decode cX0_init 36 = .ok (.putfield 26, 3) := by decide +kernel
theorem dX0_init_39 : decode cX0_init 39 = .ok (.aload_n 0, 1) := by decide +kernel
theorem dX0_init_40 : decode cX0_init 40 = .ok (.iconst 1, 1) := by decide +kernel
theorem dX0_init_41 : decode cX0_init 41 = .ok (.putfield 29, 3) := by decide +kernel
theorem dX0_init_44 : decode cX0_init 44 = .ok (.aload_n 0, 1) := by decide +kernel
theorem dX0_init_45 : decode cX0_init 45 = .ok (.iconst 0, 1) := by decide +kernel
theorem dX0_init_46 : decode cX0_init 46 = .ok (.putfield 33, 3) := by decide +kernel
theorem dX0_init_49 : decode cX0_init 49 = .ok (.return_, 1) := by decide +kernel
theorem dX0_stampOfDay_0 : decode cX0_stampOfDay 0 = .ok (.aload_n 0, 1) := by decide +kernel
theorem dX0_stampOfDay_1 : decode cX0_stampOfDay 1 = .ok (.getfield 29, 3) := by decide +kernel
theorem dX0_stampOfDay_4 : decode cX0_stampOfDay 4 = .ok (.iconst 1, 1) := by decide +kernel
theorem dX0_stampOfDay_5 : decode cX0_stampOfDay 5 = .ok (.if_icmp .le 14, 3) := by decide +kernel
theorem dX0_stampOfDay_8 : decode cX0_stampOfDay 8 = .ok (.iload_n 1, 1) := by decide +kernel
theorem dX0_stampOfDay_9 : decode cX0_stampOfDay 9 = .ok (.iload_n 1, 1) := by decide +kernel
theorem dX0_stampOfDay_10 : decode cX0_stampOfDay 10 = .ok (.aload_n 0, 1) := by decide +kernel
theorem dX0_stampOfDay_11 : decode cX0_stampOfDay 11 = .ok (.getfield 29, 3) := by decide +kernel
theorem dX0_stampOfDay_14 : decode cX0_stampOfDay 14 = .ok (.irem, 1) := by decide +kernel
theorem dX0_stampOfDay_15 : decode cX0_stampOfDay 15 = .ok (.isub, 1) := by decide +kernel
theorem dX0_stampOfDay_16 : decode cX0_stampOfDay 16 = .ok (.goto 4, 3) := by decide +kernel
theorem dX0_stampOfDay_19 : decode cX0_stampOfDay 19 = .ok (.iload_n 1, 1) := by decide +kernel
theorem dX0_stampOfDay_20 : decode cX0_stampOfDay 20 = .ok (.ireturn, 1) := by decide +kernel
set_option maxRecDepth 20000 in
theorem ggX0_change_X0_stampOfDay : GoodIn wsX0_change wsX0_stampOfDay := goodIn_r _ [7, 8, 18, 19, 20, 21, 22, 23] (by decide +kernel) (by decide +kernel)
set_option maxRecDepth 20000 in
theorem gX0_change_X0_stampOfDay : GoodIn wsX0_change (wsV RX0 36 RX0 yX0_stampOfDay wsX0_stampOfDay) := goodIn_app (goodIn_of _ (by decide +kernel)) ggX0_change_X0_stampOfDay
set_option maxRecDepth 20000 in
theorem ggX0_change_X2_keep : GoodIn wsX0_change wsX2_keep := goodIn_r _ [13, 14, 15, 16, 17, 24, 25, 26, 27] (by decide +kernel) (by decide +kernel)
set_option maxRecDepth 20000 in
theorem gX0_change_X2_keep : GoodIn wsX0_change (wsV RX0 40 RX2 yX2_keep wsX2_keep) := goodIn_app (goodIn_of _ (by decide +kernel)) ggX0_change_X2_keep
theorem dX0_change_0 : decode cX0_change 0 = .ok (.aload_n 0, 1) := by decide +kernel
theorem dX0_change_1 : decode cX0_change 1 = .ok (.iload 4, 2) := by decide +kernel
theorem dX0_change_3 : decode cX0_change 3 = .ok (.invokevirtual 36, 3) := by decide +kernel
theorem dX0_change_6 : decode cX0_change 6 = .ok (.istore 5, 2) := by decide +kernel
theorem dX0_change_8 : decode cX0_change 8 = .ok (.aload_n 0, 1) := by decide +kernel
theorem dX0_change_9 : decode cX0_change 9 = .ok (.getfield 12, 3) := by decide +kernel
theorem dX0_change_12 : decode cX0_change 12 = .ok (.iload_n 1, 1) := by decide +kernel
theorem dX0_change_13 : decode cX0_change 13 = .ok (.iload_n 2, 1) := by decide +kernel
theorem dX0_change_14 : decode cX0_change 14 = .ok (.iload_n 3, 1) := by decide +kernel
theorem dX0_change_15 : decode cX0_change 15 = .ok (.iload 5, 2) := by decide +kernel
theorem dX0_change_17 : decode cX0_change 17 = .ok (.invokevirtual 40, 3) := by decide +kernel
theorem dX0_change_20 : decode cX0_change 20 = .ok (.aload_n 0, 1) := by decide +kernel
theorem dX0_change_21 : decode cX0_change 21 = .ok (.getfield 18, 3) := by decide +kernel
theorem dX0_change_24 : decode cX0_change 24 = .ok (.iload_n 1, 1) := by decide +kernel
theorem dX0_change_25 : decode cX0_change 25 = .ok (.iconst 0, 1) := by decide +kernel
theorem dX0_change_26 : decode cX0_change 26 = .ok (.bastore, 1) := by decide +kernel
theorem dX0_change_27 : decode cX0_change 27 = .ok (.iload 5, 2) := by decide +kernel
theorem dX0_change_29 : decode cX0_change 29 = .ok (.ireturn, 1) := by decide +kernel
set_option maxRecDepth 20000 in
theorem ggX0_delete_X2_drop : GoodIn wsX0_delete wsX2_drop := goodIn_r _ [10, 11, 24, 25, 26, 27] (by decide +kernel) (by decide +kernel)
set_option maxRecDepth 20000 in
theorem gX0_delete_X2_drop : GoodIn wsX0_delete (wsV RX0 44 RX2 yX2_drop wsX2_drop) := goodIn_app (goodIn_of _ (by decide +kernel)) ggX0_delete_X2_drop
set_option maxRecDepth 20000 in
theorem ggX0_delete_X0_stampOfDay : GoodIn wsX0_delete wsX0_stampOfDay := goodIn_r _ [16, 17, 18, 19, 20, 21, 22, 23] (by decide +kernel) (by decide +kernel)
set_option maxRecDepth 20000 in
theorem gX0_delete_X0_stampOfDay : GoodIn wsX0_delete (wsV RX0 36 RX0 yX0_stampOfDay wsX0_stampOfDay) := goodIn_app (goodIn_of _ (by decide +kernel)) ggX0_delete_X0_stampOfDay
theorem dX0_delete_0 : decode cX0_delete 0 = .ok (.aload_n 0, 1) := by decide +kernel
theorem dX0_delete_1 : decode cX0_delete 1 = .ok (.getfield 12, 3) := by decide +kernel
theorem dX0_delete_4 : decode cX0_delete 4 = .ok (.iload_n 1, 1) := by decide +kernel
theorem dX0_delete_5 : decode cX0_delete 5 = .ok (.invokevirtual 44, 3) := by decide +kernel
theorem dX0_delete_8 : decode cX0_delete 8 = .ok (.aload_n 0, 1) := by decide +kernel
theorem dX0_delete_9 : decode cX0_delete 9 = .ok (.getfield 18, 3) := by decide +kernel
theorem dX0_delete_12 : decode cX0_delete 12 = .ok (.iload_n 1, 1) := by decide +kernel
theorem dX0_delete_13 : decode cX0_delete 13 = .ok (.aload_n 0, 1) := by decide +kernel
theorem dX0_delete_14 : decode cX0_delete 14 = .ok (.getfield 33, 3) := by decide +kernel
theorem dX0_delete_17 : decode cX0_delete 17 = .ok (.iconst 2, 1) := by decide +kernel
theorem dX0_delete_18 : decode cX0_delete 18 = .ok (.if_icmp .eq 7, 3) := by decide +kernel
theorem dX0_delete_21 : decode cX0_delete 21 = .ok (.iconst 1, 1) := by decide +kernel
theorem dX0_delete_22 : decode cX0_delete 22 = .ok (.goto 4, 3) := by decide +kernel
theorem dX0_delete_25 : decode cX0_delete 25 = .ok (.iconst 0, 1) := by decide +kernel
theorem dX0_delete_26 : decode cX0_delete 26 = .ok (.bastore, 1) := by decide +kernel
theorem dX0_delete_27 : decode cX0_delete 27 = .ok (.aload_n 0, 1) := by decide +kernel
theorem dX0_delete_28 : decode cX0_delete 28 = .ok (.getfield 22, 3) := by decide +kernel
theorem dX0_delete_31 : decode cX0_delete 31 = .ok (.iload_n 1, 1) := by decide +kernel
theorem dX0_delete_32 : decode cX0_delete 32 = .ok (.aload_n 0, 1) := by decide +kernel
theorem dX0_delete_33 : decode cX0_delete 33 = .ok (.iload_n 2, 1) := by decide +kernel
theorem dX0_delete_34 : decode cX0_delete 34 = .ok (.invokevirtual 36, 3) := by decide +kernel
theorem dX0_delete_37 : decode cX0_delete 37 = .ok (.iastore, 1) := by decide +kernel
theorem dX0_delete_38 : decode cX0_delete 38 = .ok (.aload_n 0, 1) := by decide +kernel
theorem dX0_delete_39 : decode cX0_delete 39 = .ok (.getfield 26, 3) := by decide +kernel
theorem dX0_delete_42 : decode cX0_delete 42 = .ok (.iload_n 1, 1) := by decide +kernel
theorem dX0_delete_43 : decode cX0_delete 43 = .ok (.iload_n 2, 1) := by decide +kernel
theorem dX0_delete_44 : decode cX0_delete 44 = .ok (.iastore, 1) := by decide +kernel
theorem dX0_delete_45 : decode cX0_delete 45 = .ok (.aload_n 0, 1) := by decide +kernel
theorem dX0_delete_46 : decode cX0_delete 46 = .ok (.getfield 18, 3) := by decide +kernel
theorem dX0_delete_49 : decode cX0_delete 49 = .ok (.iload_n 1, 1) := by decide +kernel
theorem dX0_delete_50 : decode cX0_delete 50 = .ok (.baload, 1) := by decide +kernel
theorem dX0_delete_51 : decode cX0_delete 51 = .ok (.ireturn, 1) := by decide +kernel
theorem dX0_forgetToldDeletes_0 : decode cX0_forgetToldDeletes 0 = .ok (.iconst 0, 1) := by decide +kernel
theorem dX0_forgetToldDeletes_1 : decode cX0_forgetToldDeletes 1 = .ok (.istore_n 2, 1) := by decide +kernel
theorem dX0_forgetToldDeletes_2 : decode cX0_forgetToldDeletes 2 = .ok (.iload_n 2, 1) := by decide +kernel
theorem dX0_forgetToldDeletes_3 : decode cX0_forgetToldDeletes 3 = .ok (.bipush 20, 2) := by decide +kernel
theorem dX0_forgetToldDeletes_5 : decode cX0_forgetToldDeletes 5 = .ok (.if_icmp .ge 55, 3) := by decide +kernel
theorem dX0_forgetToldDeletes_8 : decode cX0_forgetToldDeletes 8 = .ok (.iload_n 1, 1) := by decide +kernel
theorem dX0_forgetToldDeletes_9 : decode cX0_forgetToldDeletes 9 = .ok (.aload_n 0, 1) := by decide +kernel
theorem dX0_forgetToldDeletes_10 : decode cX0_forgetToldDeletes 10 = .ok (.getfield 26, 3) := by decide +kernel
theorem dX0_forgetToldDeletes_13 : decode cX0_forgetToldDeletes 13 = .ok (.iload_n 2, 1) := by decide +kernel
theorem dX0_forgetToldDeletes_14 : decode cX0_forgetToldDeletes 14 = .ok (.iaload, 1) := by decide +kernel
theorem dX0_forgetToldDeletes_15 : decode cX0_forgetToldDeletes 15 = .ok (.isub, 1) := by decide +kernel
theorem dX0_forgetToldDeletes_16 : decode cX0_forgetToldDeletes 16 = .ok (.bipush 10, 2) := by decide +kernel
theorem dX0_forgetToldDeletes_18 : decode cX0_forgetToldDeletes 18 = .ok (.if_icmp .lt 7, 3) := by decide +kernel
theorem dX0_forgetToldDeletes_21 : decode cX0_forgetToldDeletes 21 = .ok (.iconst 1, 1) := by decide +kernel
theorem dX0_forgetToldDeletes_22 : decode cX0_forgetToldDeletes 22 = .ok (.goto 4, 3) := by decide +kernel
theorem dX0_forgetToldDeletes_25 : decode cX0_forgetToldDeletes 25 = .ok (.iconst 0, 1) := by decide +kernel
theorem dX0_forgetToldDeletes_26 : decode cX0_forgetToldDeletes 26 = .ok (.istore_n 3, 1) := by decide +kernel
theorem dX0_forgetToldDeletes_27 : decode cX0_forgetToldDeletes 27 = .ok (.aload_n 0, 1) := by decide +kernel
theorem dX0_forgetToldDeletes_28 : decode cX0_forgetToldDeletes 28 = .ok (.getfield 33, 3) := by decide +kernel
theorem dX0_forgetToldDeletes_31 : decode cX0_forgetToldDeletes 31 = .ok (.iconst 2, 1) := by decide +kernel
theorem dX0_forgetToldDeletes_32 : decode cX0_forgetToldDeletes 32 = .ok (.if_icmp .eq 15, 3) := by decide +kernel
theorem dX0_forgetToldDeletes_35 : decode cX0_forgetToldDeletes 35 = .ok (.aload_n 0, 1) := by decide +kernel
theorem dX0_forgetToldDeletes_36 : decode cX0_forgetToldDeletes 36 = .ok (.getfield 33, 3) := by decide +kernel
theorem dX0_forgetToldDeletes_39 : decode cX0_forgetToldDeletes 39 = .ok (.iconst 1, 1) := by decide +kernel
theorem dX0_forgetToldDeletes_40 : decode cX0_forgetToldDeletes 40 = .ok (.if_icmp .ne 14, 3) := by decide +kernel
theorem dX0_forgetToldDeletes_43 : decode cX0_forgetToldDeletes 43 = .ok (.iload_n 3, 1) := by decide +kernel
theorem dX0_forgetToldDeletes_44 : decode cX0_forgetToldDeletes 44 = .ok (.ifCond .eq 10, 3) := by decide +kernel
theorem dX0_forgetToldDeletes_47 : decode cX0_forgetToldDeletes 47 = .ok (.aload_n 0, 1) := by decide +kernel
theorem dX0_forgetToldDeletes_48 : decode cX0_forgetToldDeletes 48 = .ok (.getfield 18, 3) := by decide +kernel
theorem dX0_forgetToldDeletes_51 : decode cX0_forgetToldDeletes 51 = .ok (.iload_n 2, 1) := by decide +kernel
theorem dX0_forgetToldDeletes_52 : decode cX0_forgetToldDeletes 52 = .ok (.iconst 0, 1) := by decide +kernel
theorem dX0_forgetToldDeletes_53 : decode cX0_forgetToldDeletes 53 = .ok (.bastore, 1) := by decide +kernel
theorem dX0_forgetToldDeletes_54 : decode cX0_forgetToldDeletes 54 = .ok (.iinc 2 1, 3) := by decide +kernel
theorem dX0_forgetToldDeletes_57 : decode cX0_forgetToldDeletes 57 = .ok (.goto (-55), 3) := by decide +kernel
theorem dX0_forgetToldDeletes_60 : decode cX0_forgetToldDeletes 60 = .ok (.return_, 1) := by decide +kernel
theorem dX0_countTold_0 : decode cX0_countTold 0 = .ok (.iconst 0, 1) := by decide +kernel
theorem dX0_countTold_1 : decode cX0_countTold 1 = .ok (.istore_n 1, 1) := by decide +kernel
theorem dX0_countTold_2 : decode cX0_countTold 2 = .ok (.iconst 0, 1) := by decide +kernel
theorem dX0_countTold_3 : decode cX0_countTold 3 = .ok (.istore_n 2, 1) := by decide +kernel
theorem dX0_countTold_4 : decode cX0_countTold 4 = .ok (.iload_n 2, 1) := by decide +kernel
theorem dX0_countTold_5 : decode cX0_countTold 5 = .ok (.bipush 20, 2) := by decide +kernel
theorem dX0_countTold_7 : decode cX0_countTold 7 = .ok (.if_icmp .ge 21, 3) := by decide +kernel
theorem dX0_countTold_10 : decode cX0_countTold 10 = .ok (.aload_n 0, 1) := by decide +kernel
theorem dX0_countTold_11 : decode cX0_countTold 11 = .ok (.getfield 18, 3) := by decide +kernel
theorem dX0_countTold_14 : decode cX0_countTold 14 = .ok (.iload_n 2, 1) := by decide +kernel
theorem dX0_countTold_15 : decode cX0_countTold 15 = .ok (.baload, 1) := by decide +kernel
theorem dX0_countTold_16 : decode cX0_countTold 16 = .ok (.ifCond .eq 6, 3) := by decide +kernel
theorem dX0_countTold_19 : decode cX0_countTold 19 = .ok (.iinc 1 1, 3) := by decide +kernel
theorem dX0_countTold_22 : decode cX0_countTold 22 = .ok (.iinc 2 1, 3) := by decide +kernel
theorem dX0_countTold_25 : decode cX0_countTold 25 = .ok (.goto (-21), 3) := by decide +kernel
theorem dX0_countTold_28 : decode cX0_countTold 28 = .ok (.iload_n 1, 1) := by decide +kernel
theorem dX0_countTold_29 : decode cX0_countTold 29 = .ok (.ireturn, 1) := by decide +kernel
theorem dX0_listedStamp_0 : decode cX0_listedStamp 0 = .ok (.aload_n 0, 1) := by decide +kernel
theorem dX0_listedStamp_1 : decode cX0_listedStamp 1 = .ok (.getfield 12, 3) := by decide +kernel
theorem dX0_listedStamp_4 : decode cX0_listedStamp 4 = .ok (.getfield 48, 3) := by decide +kernel
theorem dX0_listedStamp_7 : decode cX0_listedStamp 7 = .ok (.iload_n 1, 1) := by decide +kernel
theorem dX0_listedStamp_8 : decode cX0_listedStamp 8 = .ok (.baload, 1) := by decide +kernel
theorem dX0_listedStamp_9 : decode cX0_listedStamp 9 = .ok (.ifCond .eq 13, 3) := by decide +kernel
theorem dX0_listedStamp_12 : decode cX0_listedStamp 12 = .ok (.aload_n 0, 1) := by decide +kernel
theorem dX0_listedStamp_13 : decode cX0_listedStamp 13 = .ok (.getfield 12, 3) := by decide +kernel
theorem dX0_listedStamp_16 : decode cX0_listedStamp 16 = .ok (.getfield 51, 3) := by decide +kernel
theorem dX0_listedStamp_19 : decode cX0_listedStamp 19 = .ok (.iload_n 1, 1) := by decide +kernel
theorem dX0_listedStamp_20 : decode cX0_listedStamp 20 = .ok (.iaload, 1) := by decide +kernel
theorem dX0_listedStamp_21 : decode cX0_listedStamp 21 = .ok (.ireturn, 1) := by decide +kernel
theorem dX0_listedStamp_22 : decode cX0_listedStamp 22 = .ok (.aload_n 0, 1) := by decide +kernel
theorem dX0_listedStamp_23 : decode cX0_listedStamp 23 = .ok (.getfield 18, 3) := by decide +kernel
theorem dX0_listedStamp_26 : decode cX0_listedStamp 26 = .ok (.iload_n 1, 1) := by decide +kernel
theorem dX0_listedStamp_27 : decode cX0_listedStamp 27 = .ok (.baload, 1) := by decide +kernel
theorem dX0_listedStamp_28 : decode cX0_listedStamp 28 = .ok (.ifCond .eq 12, 3) := by decide +kernel
theorem dX0_listedStamp_31 : decode cX0_listedStamp 31 = .ok (.aload_n 0, 1) := by decide +kernel
theorem dX0_listedStamp_32 : decode cX0_listedStamp 32 = .ok (.getfield 22, 3) := by decide +kernel
theorem dX0_listedStamp_35 : decode cX0_listedStamp 35 = .ok (.iload_n 1, 1) := by decide +kernel
theorem dX0_listedStamp_36 : decode cX0_listedStamp 36 = .ok (.iaload, 1) := by decide +kernel
theorem dX0_listedStamp_37 : decode cX0_listedStamp 37 = .ok (.goto 4, 3) := by decide +kernel
theorem dX0_listedStamp_40 : decode cX0_listedStamp 40 = .ok (.iconst (-1), 1) := by decide +kernel
theorem dX0_listedStamp_41 : decode cX0_listedStamp 41 = .ok (.ireturn, 1) := by decide +kernel
set_option maxRecDepth 20000 in
theorem ggX0_nextListed_X0_listedStamp : GoodIn wsX0_nextListed wsX0_listedStamp := goodIn_r _ [5, 6, 7, 8, 9, 10, 11, 12, 13, 14, 15, 16, 17, 18, 19, 20] (by decide +kernel) (by decide +kernel)
set_option maxRecDepth 20000 in
theorem gX0_nextListed_X0_listedStamp : GoodIn wsX0_nextListed (wsV RX0 54 RX0 yX0_listedStamp wsX0_listedStamp) := goodIn_app (goodIn_of _ (by decide +kernel)) ggX0_nextListed_X0_listedStamp
theorem dX0_nextListed_0 : decode cX0_nextListed 0 = .ok (.iconst (-1), 1) := by decide +kernel
theorem dX0_nextListed_1 : decode cX0_nextListed 1 = .ok (.istore 4, 2) := by decide +kernel
theorem dX0_nextListed_3 : decode cX0_nextListed 3 = .ok (.iconst (-1), 1) := by decide +kernel
theorem dX0_nextListed_4 : decode cX0_nextListed 4 = .ok (.istore 5, 2) := by decide +kernel
theorem dX0_nextListed_6 : decode cX0_nextListed 6 = .ok (.iconst 0, 1) := by decide +kernel
theorem dX0_nextListed_7 : decode cX0_nextListed 7 = .ok (.istore 6, 2) := by decide +kernel
theorem dX0_nextListed_9 : decode cX0_nextListed 9 = .ok (.iload 6, 2) := by decide +kernel
theorem dX0_nextListed_11 : decode cX0_nextListed 11 = .ok (.bipush 20, 2) := by decide +kernel
theorem dX0_nextListed_13 : decode cX0_nextListed 13 = .ok (.if_icmp .ge 92, 3) := by decide +kernel
theorem dX0_nextListed_16 : decode cX0_nextListed 16 = .ok (.aload_n 0, 1) := by decide +kernel
theorem dX0_nextListed_17 : decode cX0_nextListed 17 = .ok (.iload 6, 2) := by decide +kernel
theorem dX0_nextListed_19 : decode cX0_nextListed 19 = .ok (.invokevirtual 54, 3) := by decide +kernel
theorem dX0_nextListed_22 : decode cX0_nextListed 22 = .ok (.istore 7, 2) := by decide +kernel
theorem dX0_nextListed_24 : decode cX0_nextListed 24 = .ok (.iload 7, 2) := by decide +kernel
theorem dX0_nextListed_26 : decode cX0_nextListed 26 = .ok (.iload_n 2, 1) := by decide +kernel
theorem dX0_nextListed_27 : decode cX0_nextListed 27 = .ok (.if_icmp .gt 15, 3) := by decide +kernel
theorem dX0_nextListed_30 : decode cX0_nextListed 30 = .ok (.iload 7, 2) := by decide +kernel
theorem dX0_nextListed_32 : decode cX0_nextListed 32 = .ok (.iload_n 2, 1) := by decide +kernel
theorem dX0_nextListed_33 : decode cX0_nextListed 33 = .ok (.if_icmp .ne 13, 3) := by decide +kernel
theorem dX0_nextListed_36 : decode cX0_nextListed 36 = .ok (.iload 6, 2) := by decide +kernel
theorem dX0_nextListed_38 : decode cX0_nextListed 38 = .ok (.iload_n 3, 1) := by decide +kernel
theorem dX0_nextListed_39 : decode cX0_nextListed 39 = .ok (.if_icmp .le 7, 3) := by decide +kernel
theorem dX0_nextListed_42 : decode cX0_nextListed 42 = .ok (.iconst 1, 1) := by decide +kernel
theorem dX0_nextListed_43 : decode cX0_nextListed 43 = .ok (.goto 4, 3) := by decide +kernel
theorem dX0_nextListed_46 : decode cX0_nextListed 46 = .ok (.iconst 0, 1) := by decide +kernel
theorem dX0_nextListed_47 : decode cX0_nextListed 47 = .ok (.istore 8, 2) := by decide +kernel
theorem dX0_nextListed_49 : decode cX0_nextListed 49 = .ok (.iload 4, 2) := by decide +kernel
theorem dX0_nextListed_51 : decode cX0_nextListed 51 = .ok (.iconst (-1), 1) := by decide +kernel
theorem dX0_nextListed_52 : decode cX0_nextListed 52 = .ok (.if_icmp .eq 10, 3) := by decide +kernel
theorem dX0_nextListed_55 : decode cX0_nextListed 55 = .ok (.iload 7, 2) := by decide +kernel
theorem dX0_nextListed_57 : decode cX0_nextListed 57 = .ok (.iload 5, 2) := by decide +kernel
theorem dX0_nextListed_59 : decode cX0_nextListed 59 = .ok (.if_icmp .ge 7, 3) := by decide +kernel
theorem dX0_nextListed_62 : decode cX0_nextListed 62 = .ok (.iconst 1, 1) := by decide +kernel
theorem dX0_nextListed_63 : decode cX0_nextListed 63 = .ok (.goto 4, 3) := by decide +kernel
theorem dX0_nextListed_66 : decode cX0_nextListed 66 = .ok (.iconst 0, 1) := by decide +kernel
theorem dX0_nextListed_67 : decode cX0_nextListed 67 = .ok (.istore 9, 2) := by decide +kernel
theorem dX0_nextListed_69 : decode cX0_nextListed 69 = .ok (.iload 7, 2) := by decide +kernel
theorem dX0_nextListed_71 : decode cX0_nextListed 71 = .ok (.iconst (-1), 1) := by decide +kernel
theorem dX0_nextListed_72 : decode cX0_nextListed 72 = .ok (.if_icmp .eq 27, 3) := by decide +kernel
theorem dX0_nextListed_75 : decode cX0_nextListed 75 = .ok (.iload 7, 2) := by decide +kernel
theorem dX0_nextListed_77 : decode cX0_nextListed 77 = .ok (.iload_n 1, 1) := by decide +kernel
theorem dX0_nextListed_78 : decode cX0_nextListed 78 = .ok (.if_icmp .lt 21, 3) := by decide +kernel
theorem dX0_nextListed_81 : decode cX0_nextListed 81 = .ok (.iload 8, 2) := by decide +kernel
theorem dX0_nextListed_83 : decode cX0_nextListed 83 = .ok (.ifCond .eq 16, 3) := by decide +kernel
theorem dX0_nextListed_86 : decode cX0_nextListed 86 = .ok (.iload 9, 2) := by decide +kernel
theorem dX0_nextListed_88 : decode cX0_nextListed 88 = .ok (.ifCond .eq 11, 3) := by decide +kernel
theorem dX0_nextListed_91 : decode cX0_nextListed 91 = .ok (.iload 6, 2) := by decide +kernel
theorem dX0_nextListed_93 : decode cX0_nextListed 93 = .ok (.istore 4, 2) := by decide +kernel
theorem dX0_nextListed_95 : decode cX0_nextListed 95 = .ok (.iload 7, 2) := by decide +kernel
theorem dX0_nextListed_97 : decode cX0_nextListed 97 = .ok (.istore 5, 2) := by decide +kernel
theorem dX0_nextListed_99 : decode cX0_nextListed 99 = .ok (.iinc 6 1, 3) := by decide +kernel
theorem dX0_nextListed_102 : decode cX0_nextListed 102 = .ok (.goto (-93), 3) := by decide +kernel
theorem dX0_nextListed_105 : decode cX0_nextListed 105 = .ok (.iload 4, 2) := by decide +kernel
theorem dX0_nextListed_107 : decode cX0_nextListed 107 = .ok (.ireturn, 1) := by decide +kernel
set_option maxRecDepth 20000 in
theorem ggX1_init_X0_init : GoodIn wsX1_init wsX0_init := goodIn_r _ [22, 23, 2, 3, 24, 9, 10, 25, 19, 26, 27, 28, 29, 30, 31, 32, 33, 34, 35, 36, 37, 38, 55, 56, 57, 58, 39, 40, 41, 42, 43, 44] (by decide +kernel) (by decide +kernel)
set_option maxRecDepth 20000 in
theorem gX1_init_X0_init_n11 : GoodIn wsX1_init (wsX0_init) := ggX1_init_X0_init
set_option maxRecDepth 20000 in
theorem ggX1_init_X2_init : GoodIn wsX1_init wsX2_init := goodIn_r _ [33, 34, 2, 3, 19, 35, 27, 36, 37, 38, 55, 56, 57, 58] (by decide +kernel) (by decide +kernel)
set_option maxRecDepth 20000 in
theorem gX1_init_X2_init_n20 : GoodIn wsX1_init (wsX2_init) := ggX1_init_X2_init
theorem dX1_init_0 : decode cX1_init 0 = .ok (.aload_n 0, 1) := by decide +kernel
theorem dX1_init_1 : decode cX1_init 1 = .ok (.invokespecial 3, 3) := by decide +kernel
theorem dX1_init_4 : decode cX1_init 4 = .ok (.aload_n 0, 1) := by decide +kernel
theorem dX1_init_5 : decode cX1_init 5 = .ok (.new 9, 3) := by decide +kernel
theorem dX1_init_8 : decode cX1_init 8 = .ok (.dup, 1) := by decide +kernel
theorem dX1_init_9 : decode cX1_init 9 = .ok (.invokespecial 11, 3) := by decide +kernel
theorem dX1_init_12 : decode cX1_init 12 = .ok (.putfield 12, 3) := by decide +kernel
theorem dX1_init_15 : decode cX1_init 15 = .ok (.aload_n 0, 1) := by decide +kernel
theorem dX1_init_16 : decode cX1_init 16 = .ok (.new 18, 3) := by decide +kernel
theorem dX1_init_19 : decode cX1_init 19 = .ok (.dup, 1) := by decide +kernel
theorem dX1_init_20 : decode cX1_init 20 = .ok (.invokespecial 20, 3) := by decide +kernel
theorem dX1_init_23 : decode cX1_init 23 = .ok (.putfield 21, 3) := by decide +kernel
theorem dX1_init_26 : decode cX1_init 26 = .ok (.aload_n 0, 1) := by decide +kernel
theorem dX1_init_27 : decode cX1_init 27 = .ok (.iconst 0, 1) := by decide +kernel
theorem dX1_init_28 : decode cX1_init 28 = .ok (.putfield 25, 3) := by decide +kernel
theorem dX1_init_31 : decode cX1_init 31 = .ok (.aload_n 0, 1) := by decide +kernel
theorem dX1_init_32 : decode cX1_init 32 = .ok (.iconst 0, 1) := by decide +kernel
theorem dX1_init_33 : decode cX1_init 33 = .ok (.putfield 29, 3) := by decide +kernel
theorem dX1_init_36 : decode cX1_init 36 = .ok (.aload_n 0, 1) := by decide +kernel
theorem dX1_init_37 : decode cX1_init 37 = .ok (.iconst 0, 1) := by decide +kernel
theorem dX1_init_38 : decode cX1_init 38 = .ok (.putfield 33, 3) := by decide +kernel
theorem dX1_init_41 : decode cX1_init 41 = .ok (.aload_n 0, 1) := by decide +kernel
theorem dX1_init_42 : decode cX1_init 42 = .ok (.iconst 0, 1) := by decide +kernel
theorem dX1_init_43 : decode cX1_init 43 = .ok (.putfield 36, 3) := by decide +kernel
theorem dX1_init_46 : decode cX1_init 46 = .ok (.aload_n 0, 1) := by decide +kernel
theorem dX1_init_47 : decode cX1_init 47 = .ok (.iconst 0, 1) := by decide +kernel
theorem dX1_init_48 : decode cX1_init 48 = .ok (.putfield 39, 3) := by decide +kernel
theorem dX1_init_51 : decode cX1_init 51 = .ok (.aload_n 0, 1) := by decide +kernel
theorem dX1_init_52 : decode cX1_init 52 = .ok (.iconst (-1), 1) := by decide +kernel
theorem dX1_init_53 : decode cX1_init 53 = .ok (.putfield 42, 3) := by decide +kernel
theorem dX1_init_56 : decode cX1_init 56 = .ok (.aload_n 0, 1) := by decide +kernel
theorem dX1_init_57 : decode cX1_init 57 = .ok (.iconst (-1), 1) := by decide +kernel
theorem dX1_init_58 : decode cX1_init 58 = .ok (.putfield 45, 3) := by decide +kernel
theorem dX1_init_61 : decode cX1_init 61 = .ok (.aload_n 0, 1) := by decide +kernel
theorem dX1_init_62 : decode cX1_init 62 = .ok (.bipush 20, 2) := by decide +kernel
theorem dX1_init_64 : decode cX1_init 64 = .ok (.newarray .boolean, 2) := by decide +kernel
theorem dX1_init_66 : decode cX1_init 66 = .ok (.putfield 48, 3) := by decide +kernel
theorem dX1_init_69 : decode cX1_init 69 = .ok (.return_, 1) := by decide +kernel
theorem dX1_begin_0 : decode cX1_begin 0 = .ok (.aload_n 0, 1) := by decide +kernel
theorem dX1_begin_1 : decode cX1_begin 1 = .ok (.iconst 1, 1) := by decide +kernel
theorem dX1_begin_2 : decode cX1_begin 2 = .ok (.putfield 29, 3) := by decide +kernel
theorem dX1_begin_5 : decode cX1_begin 5 = .ok (.aload_n 0, 1) := by decide +kernel
theorem dX1_begin_6 : decode cX1_begin 6 = .ok (.iload_n 1, 1) := by decide +kernel
theorem dX1_begin_7 : decode cX1_begin 7 = .ok (.putfield 33, 3) := by decide +kernel
theorem dX1_begin_10 : decode cX1_begin 10 = .ok (.aload_n 0, 1) := by decide +kernel
theorem dX1_begin_11 : decode cX1_begin 11 = .ok (.iload_n 2, 1) := by decide +kernel
theorem dX1_begin_12 : decode cX1_begin 12 = .ok (.putfield 36, 3) := by decide +kernel
theorem dX1_begin_15 : decode cX1_begin 15 = .ok (.aload_n 0, 1) := by decide +kernel
theorem dX1_begin_16 : decode cX1_begin 16 = .ok (.iload_n 2, 1) := by decide +kernel
theorem dX1_begin_17 : decode cX1_begin 17 = .ok (.putfield 39, 3) := by decide +kernel
theorem dX1_begin_20 : decode cX1_begin 20 = .ok (.aload_n 0, 1) := by decide +kernel
theorem dX1_begin_21 : decode cX1_begin 21 = .ok (.iconst (-1), 1) := by decide +kernel
theorem dX1_begin_22 : decode cX1_begin 22 = .ok (.putfield 42, 3) := by decide +kernel
theorem dX1_begin_25 : decode cX1_begin 25 = .ok (.aload_n 0, 1) := by decide +kernel
theorem dX1_begin_26 : decode cX1_begin 26 = .ok (.iconst (-1), 1) := by decide +kernel
theorem dX1_begin_27 : decode cX1_begin 27 = .ok (.putfield 45, 3) := by decide +kernel
theorem dX1_begin_30 : decode cX1_begin 30 = .ok (.iconst 0, 1) := by decide +kernel
theorem dX1_begin_31 : decode cX1_begin 31 = .ok (.istore_n 3, 1) := by decide +kernel
theorem dX1_begin_32 : decode cX1_begin 32 = .ok (.iload_n 3, 1) := by decide +kernel
theorem dX1_begin_33 : decode cX1_begin 33 = .ok (.bipush 20, 2) := by decide +kernel
theorem dX1_begin_35 : decode cX1_begin 35 = .ok (.if_icmp .ge 16, 3) := by decide +kernel
theorem dX1_begin_38 : decode cX1_begin 38 = .ok (.aload_n 0, 1) := by decide +kernel
theorem dX1_begin_39 : decode cX1_begin 39 = .ok (.getfield 48, 3) := by decide +kernel
theorem dX1_begin_42 : decode cX1_begin 42 = .ok (.iload_n 3, 1) := by decide +kernel
theorem dX1_begin_43 : decode cX1_begin 43 = .ok (.iconst 0, 1) := by decide +kernel
theorem dX1_begin_44 : decode cX1_begin 44 = .ok (.bastore, 1) := by decide +kernel
theorem dX1_begin_45 : decode cX1_begin 45 = .ok (.iinc 3 1, 3) := by decide +kernel
theorem dX1_begin_48 : decode cX1_begin 48 = .ok (.goto (-16), 3) := by decide +kernel
theorem dX1_begin_51 : decode cX1_begin 51 = .ok (.return_, 1) := by decide +kernel
theorem dX1_firstStamp_0 : decode cX1_firstStamp 0 = .ok (.aload_n 0, 1) := by decide +kernel
theorem dX1_firstStamp_1 : decode cX1_firstStamp 1 = .ok (.getfield 33, 3) := by decide +kernel
theorem dX1_firstStamp_4 : decode cX1_firstStamp 4 = .ok (.ifCond .eq 7, 3) := by decide +kernel
theorem dX1_firstStamp_7 : decode cX1_firstStamp 7 = .ok (.iconst 0, 1) := by decide +kernel
theorem dX1_firstStamp_8 : decode cX1_firstStamp 8 = .ok (.goto 7, 3) := by decide +kernel
theorem dX1_firstStamp_11 : decode cX1_firstStamp 11 = .ok (.aload_n 0, 1) := by decide +kernel
theorem dX1_firstStamp_12 : decode cX1_firstStamp 12 = .ok (.getfield 25, 3) := by decide +kernel
theorem dX1_firstStamp_15 : decode cX1_firstStamp 15 = .ok (.ireturn, 1) := by decide +kernel
set_option maxRecDepth 20000 in
theorem ggX1_takePage_X1_begin : GoodIn wsX1_takePage wsX1_begin := goodIn_r _ [7, 8, 2, 9, 1, 10, 11, 12, 74, 75, 76, 77, 78, 79, 80, 81, 82, 83] (by decide +kernel) (by decide +kernel)
set_option maxRecDepth 20000 in
theorem gX1_takePage_X1_begin : GoodIn wsX1_takePage (wsV RX1 52 RX1 yX1_begin wsX1_begin) := goodIn_app (goodIn_of _ (by decide +kernel)) ggX1_takePage_X1_begin
set_option maxRecDepth 20000 in
theorem ggX1_takePage_X1_nextOfList : GoodIn wsX1_takePage wsX1_nextOfList := goodIn_r _ [16, 17, 10, 11, 18, 19, 20, 6, 21, 2, 22, 23, 24, 25, 26, 27, 28, 29, 30, 31, 32, 33, 34, 35, 36, 74, 75, 76, 77, 78, 79, 80, 81, 82, 83, 84, 85, 86, 87, 88, 89, 90, 91, 92, 93] (by decide +kernel) (by decide +kernel)
set_option maxRecDepth 20000 in
theorem gX1_takePage_X1_nextOfList : GoodIn wsX1_takePage (wsV RX1 56 RX1 yX1_nextOfList wsX1_nextOfList) := goodIn_app (goodIn_of _ (by decide +kernel)) ggX1_takePage_X1_nextOfList
set_option maxRecDepth 20000 in
theorem ggX1_takePage_X1_takeOver : GoodIn wsX1_takePage wsX1_takeOver := goodIn_r _ [40, 17, 10, 11, 41, 42, 43, 44, 45, 46, 12, 47, 29, 30, 26, 31, 32, 33, 34, 35, 36, 48, 49, 50, 51, 52, 53, 54, 55, 56, 57, 58, 59, 60, 74, 75, 76, 77, 78, 79, 80, 81, 82, 83, 84, 85, 86, 87, 88, 89, 90, 91, 92, 93] (by decide +kernel) (by decide +kernel)
set_option maxRecDepth 20000 in
theorem gX1_takePage_X1_takeOver : GoodIn wsX1_takePage (wsV RX1 60 RX1 yX1_takeOver wsX1_takeOver) := goodIn_app (goodIn_of _ (by decide +kernel)) ggX1_takePage_X1_takeOver
set_option maxRecDepth 20000 in
theorem ggX1_takePage_X1_finish : GoodIn wsX1_takePage wsX1_finish := goodIn_r _ [64, 8, 17, 9, 22, 2, 65, 66, 67, 26, 68, 69, 70, 71, 72, 6, 73, 12, 43, 57, 58, 59, 51, 60, 53, 74, 75, 76, 77, 78, 79, 80, 81, 82, 83, 84, 85, 86, 87, 88, 89, 90, 91, 92, 93] (by decide +kernel) (by decide +kernel)
set_option maxRecDepth 20000 in
theorem gX1_takePage_X1_finish : GoodIn wsX1_takePage (wsV RX1 64 RX1 yX1_finish wsX1_finish) := goodIn_app (goodIn_of _ (by decide +kernel)) ggX1_takePage_X1_finish
theorem dX1_takePage_0 : decode cX1_takePage 0 = .ok (.iload_n 1, 1) := by decide +kernel
theorem dX1_takePage_1 : decode cX1_takePage 1 = .ok (.aload_n 0, 1) := by decide +kernel
theorem dX1_takePage_2 : decode cX1_takePage 2 = .ok (.getfield 39, 3) := by decide +kernel
theorem dX1_takePage_5 : decode cX1_takePage 5 = .ok (.isub, 1) := by decide +kernel
theorem dX1_takePage_6 : decode cX1_takePage 6 = .ok (.iconst 5, 1) := by decide +kernel
theorem dX1_takePage_7 : decode cX1_takePage 7 = .ok (.if_icmp .le 12, 3) := by decide +kernel
theorem dX1_takePage_10 : decode cX1_takePage 10 = .ok (.aload_n 0, 1) := by decide +kernel
theorem dX1_takePage_11 : decode cX1_takePage 11 = .ok (.aload_n 0, 1) := by decide +kernel
theorem dX1_takePage_12 : decode cX1_takePage 12 = .ok (.getfield 33, 3) := by decide +kernel
theorem dX1_takePage_15 : decode cX1_takePage 15 = .ok (.iload_n 1, 1) := by decide +kernel
theorem dX1_takePage_16 : decode cX1_takePage 16 = .ok (.invokevirtual 52, 3) := by decide +kernel
theorem dX1_takePage_19 : decode cX1_takePage 19 = .ok (.aload_n 0, 1) := by decide +kernel
theorem dX1_takePage_20 : decode cX1_takePage 20 = .ok (.iload_n 1, 1) := by decide +kernel
theorem dX1_takePage_21 : decode cX1_takePage 21 = .ok (.putfield 39, 3) := by decide +kernel
theorem dX1_takePage_24 : decode cX1_takePage 24 = .ok (.iconst 0, 1) := by decide +kernel
theorem dX1_takePage_25 : decode cX1_takePage 25 = .ok (.istore_n 2, 1) := by decide +kernel
theorem dX1_takePage_26 : decode cX1_takePage 26 = .ok (.aload_n 0, 1) := by decide +kernel
theorem dX1_takePage_27 : decode cX1_takePage 27 = .ok (.invokevirtual 56, 3) := by decide +kernel
theorem dX1_takePage_30 : decode cX1_takePage 30 = .ok (.istore_n 3, 1) := by decide +kernel
theorem dX1_takePage_31 : decode cX1_takePage 31 = .ok (.iload_n 3, 1) := by decide +kernel
theorem dX1_takePage_32 : decode cX1_takePage 32 = .ok (.iconst (-1), 1) := by decide +kernel
theorem dX1_takePage_33 : decode cX1_takePage 33 = .ok (.if_icmp .eq 24, 3) := by decide +kernel
theorem dX1_takePage_36 : decode cX1_takePage 36 = .ok (.iload_n 2, 1) := by decide +kernel
theorem dX1_takePage_37 : decode cX1_takePage 37 = .ok (.iconst 3, 1) := by decide +kernel
theorem dX1_takePage_38 : decode cX1_takePage 38 = .ok (.if_icmp .ge 19, 3) := by decide +kernel
theorem dX1_takePage_41 : decode cX1_takePage 41 = .ok (.aload_n 0, 1) := by decide +kernel
theorem dX1_takePage_42 : decode cX1_takePage 42 = .ok (.iload_n 3, 1) := by decide +kernel
theorem dX1_takePage_43 : decode cX1_takePage 43 = .ok (.invokevirtual 60, 3) := by decide +kernel
theorem dX1_takePage_46 : decode cX1_takePage 46 = .ok (.iinc 2 1, 3) := by decide +kernel
theorem dX1_takePage_49 : decode cX1_takePage 49 = .ok (.aload_n 0, 1) := by decide +kernel
theorem dX1_takePage_50 : decode cX1_takePage 50 = .ok (.invokevirtual 56, 3) := by decide +kernel
theorem dX1_takePage_53 : decode cX1_takePage 53 = .ok (.istore_n 3, 1) := by decide +kernel
theorem dX1_takePage_54 : decode cX1_takePage 54 = .ok (.goto (-23), 3) := by decide +kernel
theorem dX1_takePage_57 : decode cX1_takePage 57 = .ok (.iload_n 3, 1) := by decide +kernel
theorem dX1_takePage_58 : decode cX1_takePage 58 = .ok (.iconst (-1), 1) := by decide +kernel
theorem dX1_takePage_59 : decode cX1_takePage 59 = .ok (.if_icmp .ne 7, 3) := by decide +kernel
theorem dX1_takePage_62 : decode cX1_takePage 62 = .ok (.aload_n 0, 1) := by decide +kernel
theorem dX1_takePage_63 : decode cX1_takePage 63 = .ok (.invokevirtual 64, 3) := by decide +kernel
theorem dX1_takePage_66 : decode cX1_takePage 66 = .ok (.iload_n 2, 1) := by decide +kernel
theorem dX1_takePage_67 : decode cX1_takePage 67 = .ok (.ireturn, 1) := by decide +kernel
set_option maxRecDepth 20000 in
theorem ggX1_nextOfList_X1_firstStamp : GoodIn wsX1_nextOfList wsX1_firstStamp := goodIn_r _ [8, 9, 10, 25, 26, 27, 28, 29, 30, 31, 32, 33, 34] (by decide +kernel) (by decide +kernel)
set_option maxRecDepth 20000 in
theorem gX1_nextOfList_X1_firstStamp : GoodIn wsX1_nextOfList (wsV RX1 67 RX1 yX1_firstStamp wsX1_firstStamp) := goodIn_app (goodIn_of _ (by decide +kernel)) ggX1_nextOfList_X1_firstStamp
set_option maxRecDepth 20000 in
theorem ggX1_nextOfList_X0_nextListed : GoodIn wsX1_nextOfList wsX0_nextListed := goodIn_r _ [15, 16, 17, 18, 14, 19, 20, 21, 22, 23, 24, 35, 36, 37, 38, 39, 40, 41, 42, 43, 44] (by decide +kernel) (by decide +kernel)
set_option maxRecDepth 20000 in
theorem gX1_nextOfList_X0_nextListed : GoodIn wsX1_nextOfList (wsV RX1 70 RX0 yX0_nextListed wsX0_nextListed) := goodIn_app (goodIn_of _ (by decide +kernel)) ggX1_nextOfList_X0_nextListed
theorem dX1_nextOfList_0 : decode cX1_nextOfList 0 = .ok (.aload_n 0, 1) := by decide +kernel
theorem dX1_nextOfList_1 : decode cX1_nextOfList 1 = .ok (.getfield 12, 3) := by decide +kernel
theorem dX1_nextOfList_4 : decode cX1_nextOfList 4 = .ok (.aload_n 0, 1) := by decide +kernel
theorem dX1_nextOfList_5 : decode cX1_nextOfList 5 = .ok (.invokevirtual 67, 3) := by decide +kernel
theorem dX1_nextOfList_8 : decode cX1_nextOfList 8 = .ok (.aload_n 0, 1) := by decide +kernel
theorem dX1_nextOfList_9 : decode cX1_nextOfList 9 = .ok (.getfield 42, 3) := by decide +kernel
theorem dX1_nextOfList_12 : decode cX1_nextOfList 12 = .ok (.aload_n 0, 1) := by decide +kernel
theorem dX1_nextOfList_13 : decode cX1_nextOfList 13 = .ok (.getfield 45, 3) := by decide +kernel
theorem dX1_nextOfList_16 : decode cX1_nextOfList 16 = .ok (.invokevirtual 70, 3) := by decide +kernel
theorem dX1_nextOfList_19 : decode cX1_nextOfList 19 = .ok (.ireturn, 1) := by decide +kernel
set_option maxRecDepth 20000 in
theorem ggX1_takeOver_X0_listedStamp : GoodIn wsX1_takeOver wsX0_listedStamp := goodIn_r _ [15, 16, 17, 18, 19, 20, 44, 45, 46, 47, 48, 49, 50, 51, 52, 53] (by decide +kernel) (by decide +kernel)
set_option maxRecDepth 20000 in
theorem gX1_takeOver_X0_listedStamp : GoodIn wsX1_takeOver (wsV RX1 74 RX0 yX0_listedStamp wsX0_listedStamp) := goodIn_app (goodIn_of _ (by decide +kernel)) ggX1_takeOver_X0_listedStamp
set_option maxRecDepth 20000 in
theorem ggX1_takeOver_X2_keep : GoodIn wsX1_takeOver wsX2_keep := goodIn_r _ [25, 26, 27, 28, 29, 50, 51, 52, 53] (by decide +kernel) (by decide +kernel)
set_option maxRecDepth 20000 in
theorem gX1_takeOver_X2_keep : GoodIn wsX1_takeOver (wsV RX1 94 RX2 yX2_keep wsX2_keep) := goodIn_app (goodIn_of _ (by decide +kernel)) ggX1_takeOver_X2_keep
set_option maxRecDepth 20000 in
theorem ggX1_takeOver_X2_drop : GoodIn wsX1_takeOver wsX2_drop := goodIn_r _ [33, 26, 50, 51, 52, 53] (by decide +kernel) (by decide +kernel)
set_option maxRecDepth 20000 in
theorem gX1_takeOver_X2_drop : GoodIn wsX1_takeOver (wsV RX1 98 RX2 yX2_drop wsX2_drop) := goodIn_app (goodIn_of _ (by decide +kernel)) ggX1_takeOver_X2_drop
theorem dX1_takeOver_0 : decode cX1_takeOver 0 = .ok (.aload_n 0, 1) := by decide +kernel
theorem dX1_takeOver_1 : decode cX1_takeOver 1 = .ok (.aload_n 0, 1) := by decide +kernel
theorem dX1_takeOver_2 : decode cX1_takeOver 2 = .ok (.getfield 12, 3) := by decide +kernel
theorem dX1_takeOver_5 : decode cX1_takeOver 5 = .ok (.iload_n 1, 1) := by decide +kernel
theorem dX1_takeOver_6 : decode cX1_takeOver 6 = .ok (.invokevirtual 74, 3) := by decide +kernel
theorem dX1_takeOver_9 : decode cX1_takeOver 9 = .ok (.putfield 42, 3) := by decide +kernel
theorem dX1_takeOver_12 : decode cX1_takeOver 12 = .ok (.aload_n 0, 1) := by decide +kernel
theorem dX1_takeOver_13 : decode cX1_takeOver 13 = .ok (.iload_n 1, 1) := by decide +kernel
theorem dX1_takeOver_14 : decode cX1_takeOver 14 = .ok (.putfield 45, 3) := by decide +kernel
theorem dX1_takeOver_17 : decode cX1_takeOver 17 = .ok (.aload_n 0, 1) := by decide +kernel
theorem dX1_takeOver_18 : decode cX1_takeOver 18 = .ok (.getfield 12, 3) := by decide +kernel
theorem dX1_takeOver_21 : decode cX1_takeOver 21 = .ok (.getfield 78, 3) := by decide +kernel
theorem dX1_takeOver_24 : decode cX1_takeOver 24 = .ok (.astore_n 2, 1) := by decide +kernel
theorem dX1_takeOver_25 : decode cX1_takeOver 25 = .ok (.aload_n 2, 1) := by decide +kernel
theorem dX1_takeOver_26 : decode cX1_takeOver 26 = .ok (.getfield 81, 3) := by decide +kernel
theorem dX1_takeOver_29 : decode cX1_takeOver 29 = .ok (.iload_n 1, 1) := by decide +kernel
theorem dX1_takeOver_30 : decode cX1_takeOver 30 = .ok (.baload, 1) := by decide +kernel
theorem dX1_takeOver_31 : decode cX1_takeOver 31 = .ok (.ifCond .eq 39, 3) := by decide +kernel
theorem dX1_takeOver_34 : decode cX1_takeOver 34 = .ok (.aload_n 0, 1) := by decide +kernel
theorem dX1_takeOver_35 : decode cX1_takeOver 35 = .ok (.getfield 21, 3) := by decide +kernel
theorem dX1_takeOver_38 : decode cX1_takeOver 38 = .ok (.iload_n 1, 1) := by decide +kernel
theorem dX1_takeOver_39 : decode cX1_takeOver 39 = .ok (.aload_n 2, 1) := by decide +kernel
theorem dX1_takeOver_40 : decode cX1_takeOver 40 = .ok (.getfield 84, 3) := by decide +kernel
theorem dX1_takeOver_43 : decode cX1_takeOver 43 = .ok (.iload_n 1, 1) := by decide +kernel
theorem dX1_takeOver_44 : decode cX1_takeOver 44 = .ok (.iaload, 1) := by decide +kernel
theorem dX1_takeOver_45 : decode cX1_takeOver 45 = .ok (.aload_n 2, 1) := by decide +kernel
theorem dX1_takeOver_46 : decode cX1_takeOver 46 = .ok (.getfield 88, 3) := by decide +kernel
theorem dX1_takeOver_49 : decode cX1_takeOver 49 = .ok (.iload_n 1, 1) := by decide +kernel
theorem dX1_takeOver_50 : decode cX1_takeOver 50 = .ok (.iaload, 1) := by decide +kernel
theorem dX1_takeOver_51 : decode cX1_takeOver 51 = .ok (.aload_n 2, 1) := by decide +kernel
theorem dX1_takeOver_52 : decode cX1_takeOver 52 = .ok (.getfield 91, 3) := by decide +kernel
theorem dX1_takeOver_55 : decode cX1_takeOver 55 = .ok (.iload_n 1, 1) := by decide +kernel
theorem dX1_takeOver_56 : decode cX1_takeOver 56 = .ok (.iaload, 1) := by decide +kernel
theorem dX1_takeOver_57 : decode cX1_takeOver 57 = .ok (.invokevirtual 94, 3) := by decide +kernel
theorem dX1_takeOver_60 : decode cX1_takeOver 60 = .ok (.aload_n 0, 1) := by decide +kernel
theorem dX1_takeOver_61 : decode cX1_takeOver 61 = .ok (.getfield 48, 3) := by decide +kernel
theorem dX1_takeOver_64 : decode cX1_takeOver 64 = .ok (.iload_n 1, 1) := by decide +kernel
theorem dX1_takeOver_65 : decode cX1_takeOver 65 = .ok (.iconst 1, 1) := by decide +kernel
theorem dX1_takeOver_66 : decode cX1_takeOver 66 = .ok (.bastore, 1) := by decide +kernel
theorem dX1_takeOver_67 : decode cX1_takeOver 67 = .ok (.goto 11, 3) := by decide +kernel
theorem dX1_takeOver_70 : decode cX1_takeOver 70 = .ok (.aload_n 0, 1) := by decide +kernel
theorem dX1_takeOver_71 : decode cX1_takeOver 71 = .ok (.getfield 21, 3) := by decide +kernel
theorem dX1_takeOver_74 : decode cX1_takeOver 74 = .ok (.iload_n 1, 1) := by decide +kernel
theorem dX1_takeOver_75 : decode cX1_takeOver 75 = .ok (.invokevirtual 98, 3) := by decide +kernel
theorem dX1_takeOver_78 : decode cX1_takeOver 78 = .ok (.return_, 1) := by decide +kernel
set_option maxRecDepth 20000 in
theorem ggX1_finish_X0_stampOfDay : GoodIn wsX1_finish wsX0_stampOfDay := goodIn_r _ [10, 11, 35, 36, 37, 38, 39, 40] (by decide +kernel) (by decide +kernel)
set_option maxRecDepth 20000 in
theorem gX1_finish_X0_stampOfDay : GoodIn wsX1_finish (wsV RX1 101 RX0 yX0_stampOfDay wsX0_stampOfDay) := goodIn_app (goodIn_of _ (by decide +kernel)) ggX1_finish_X0_stampOfDay
set_option maxRecDepth 20000 in
theorem ggX1_finish_X1_dropWhatIsGone : GoodIn wsX1_finish wsX1_dropWhatIsGone := goodIn_r _ [16, 17, 18, 19, 20, 21, 22, 23, 24, 25, 26, 27, 28, 29, 30, 31, 32, 33, 34, 41, 42, 43, 44] (by decide +kernel) (by decide +kernel)
set_option maxRecDepth 20000 in
theorem gX1_finish_X1_dropWhatIsGone : GoodIn wsX1_finish (wsV RX1 104 RX1 yX1_dropWhatIsGone wsX1_dropWhatIsGone) := goodIn_app (goodIn_of _ (by decide +kernel)) ggX1_finish_X1_dropWhatIsGone
theorem dX1_finish_0 : decode cX1_finish 0 = .ok (.aload_n 0, 1) := by decide +kernel
theorem dX1_finish_1 : decode cX1_finish 1 = .ok (.iconst 0, 1) := by decide +kernel
theorem dX1_finish_2 : decode cX1_finish 2 = .ok (.putfield 29, 3) := by decide +kernel
theorem dX1_finish_5 : decode cX1_finish 5 = .ok (.aload_n 0, 1) := by decide +kernel
theorem dX1_finish_6 : decode cX1_finish 6 = .ok (.aload_n 0, 1) := by decide +kernel
theorem dX1_finish_7 : decode cX1_finish 7 = .ok (.getfield 12, 3) := by decide +kernel
theorem dX1_finish_10 : decode cX1_finish 10 = .ok (.aload_n 0, 1) := by decide +kernel
theorem dX1_finish_11 : decode cX1_finish 11 = .ok (.getfield 36, 3) := by decide +kernel
theorem dX1_finish_14 : decode cX1_finish 14 = .ok (.invokevirtual 101, 3) := by decide +kernel
theorem dX1_finish_17 : decode cX1_finish 17 = .ok (.putfield 25, 3) := by decide +kernel
theorem dX1_finish_20 : decode cX1_finish 20 = .ok (.aload_n 0, 1) := by decide +kernel
theorem dX1_finish_21 : decode cX1_finish 21 = .ok (.getfield 33, 3) := by decide +kernel
theorem dX1_finish_24 : decode cX1_finish 24 = .ok (.ifCond .eq 7, 3) := by decide +kernel
theorem dX1_finish_27 : decode cX1_finish 27 = .ok (.aload_n 0, 1) := by decide +kernel
theorem dX1_finish_28 : decode cX1_finish 28 = .ok (.invokevirtual 104, 3) := by decide +kernel
theorem dX1_finish_31 : decode cX1_finish 31 = .ok (.return_, 1) := by decide +kernel
set_option maxRecDepth 20000 in
theorem ggX1_dropWhatIsGone_X2_drop : GoodIn wsX1_dropWhatIsGone wsX2_drop := goodIn_r _ [7, 8, 19, 20, 21, 22] (by decide +kernel) (by decide +kernel)
set_option maxRecDepth 20000 in
theorem gX1_dropWhatIsGone_X2_drop : GoodIn wsX1_dropWhatIsGone (wsV RX1 98 RX2 yX2_drop wsX2_drop) := goodIn_app (goodIn_of _ (by decide +kernel)) ggX1_dropWhatIsGone_X2_drop
theorem dX1_dropWhatIsGone_0 : decode cX1_dropWhatIsGone 0 = .ok (.iconst 0, 1) := by decide +kernel
theorem dX1_dropWhatIsGone_1 : decode cX1_dropWhatIsGone 1 = .ok (.istore_n 1, 1) := by decide +kernel
theorem dX1_dropWhatIsGone_2 : decode cX1_dropWhatIsGone 2 = .ok (.iload_n 1, 1) := by decide +kernel
theorem dX1_dropWhatIsGone_3 : decode cX1_dropWhatIsGone 3 = .ok (.bipush 20, 2) := by decide +kernel
theorem dX1_dropWhatIsGone_5 : decode cX1_dropWhatIsGone 5 = .ok (.if_icmp .ge 26, 3) := by decide +kernel
theorem dX1_dropWhatIsGone_8 : decode cX1_dropWhatIsGone 8 = .ok (.aload_n 0, 1) := by decide +kernel
theorem dX1_dropWhatIsGone_9 : decode cX1_dropWhatIsGone 9 = .ok (.getfield 48, 3) := by decide +kernel
theorem dX1_dropWhatIsGone_12 : decode cX1_dropWhatIsGone 12 = .ok (.iload_n 1, 1) := by decide +kernel
theorem dX1_dropWhatIsGone_13 : decode cX1_dropWhatIsGone 13 = .ok (.baload, 1) := by decide +kernel
theorem dX1_dropWhatIsGone_14 : decode cX1_dropWhatIsGone 14 = .ok (.ifCond .ne 11, 3) := by decide +kernel
theorem dX1_dropWhatIsGone_17 : decode cX1_dropWhatIsGone 17 = .ok (.aload_n 0, 1) := by decide +kernel
theorem dX1_dropWhatIsGone_18 : decode cX1_dropWhatIsGone 18 = .ok (.getfield 21, 3) := by decide +kernel
theorem dX1_dropWhatIsGone_21 : decode cX1_dropWhatIsGone 21 = .ok (.iload_n 1, 1) := by decide +kernel
theorem dX1_dropWhatIsGone_22 : decode cX1_dropWhatIsGone 22 = .ok (.invokevirtual 98, 3) := by decide +kernel
theorem dX1_dropWhatIsGone_25 : decode cX1_dropWhatIsGone 25 = .ok (.iinc 1 1, 3) := by decide +kernel
theorem dX1_dropWhatIsGone_28 : decode cX1_dropWhatIsGone 28 = .ok (.goto (-26), 3) := by decide +kernel
theorem dX1_dropWhatIsGone_31 : decode cX1_dropWhatIsGone 31 = .ok (.return_, 1) := by decide +kernel
theorem dX2_init_0 : decode cX2_init 0 = .ok (.aload_n 0, 1) := by decide +kernel
theorem dX2_init_1 : decode cX2_init 1 = .ok (.invokespecial 3, 3) := by decide +kernel
theorem dX2_init_4 : decode cX2_init 4 = .ok (.aload_n 0, 1) := by decide +kernel
theorem dX2_init_5 : decode cX2_init 5 = .ok (.bipush 20, 2) := by decide +kernel
theorem dX2_init_7 : decode cX2_init 7 = .ok (.newarray .boolean, 2) := by decide +kernel
theorem dX2_init_9 : decode cX2_init 9 = .ok (.putfield 9, 3) := by decide +kernel
theorem dX2_init_12 : decode cX2_init 12 = .ok (.aload_n 0, 1) := by decide +kernel
theorem dX2_init_13 : decode cX2_init 13 = .ok (.bipush 20, 2) := by decide +kernel
theorem dX2_init_15 : decode cX2_init 15 = .ok (.newarray .int, 2) := by decide +kernel
theorem dX2_init_17 : decode cX2_init 17 = .ok (.putfield 15, 3) := by decide +kernel
theorem dX2_init_20 : decode cX2_init 20 = .ok (.aload_n 0, 1) := by decide +kernel
theorem dX2_init_21 : decode cX2_init 21 = .ok (.bipush 20, 2) := by decide +kernel
theorem dX2_init_23 : decode cX2_init 23 = .ok (.newarray .int, 2) := by decide +kernel
theorem dX2_init_25 : decode cX2_init 25 = .ok (.putfield 19, 3) := by decide +kernel
theorem dX2_init_28 : decode cX2_init 28 = .ok (.aload_n 0, 1) := by decide +kernel
theorem dX2_init_29 : decode cX2_init 29 = .ok (.bipush 20, 2) := by decide +kernel
theorem dX2_init_31 : decode cX2_init 31 = .ok (.newarray .int, 2) := by decide +kernel
theorem dX2_init_33 : decode cX2_init 33 = .ok (.putfield 22, 3) := by decide +kernel
theorem dX2_init_36 : decode cX2_init 36 = .ok (.return_, 1) := by decide +kernel
theorem dX2_keep_0 : decode cX2_keep 0 = .ok (.aload_n 0, 1) := by decide +kernel
theorem dX2_keep_1 : decode cX2_keep 1 = .ok (.getfield 9, 3) := by decide +kernel
theorem dX2_keep_4 : decode cX2_keep 4 = .ok (.iload_n 1, 1) := by decide +kernel
theorem dX2_keep_5 : decode cX2_keep 5 = .ok (.iconst 1, 1) := by decide +kernel
theorem dX2_keep_6 : decode cX2_keep 6 = .ok (.bastore, 1) := by decide +kernel
theorem dX2_keep_7 : decode cX2_keep 7 = .ok (.aload_n 0, 1) := by decide +kernel
theorem dX2_keep_8 : decode cX2_keep 8 = .ok (.getfield 15, 3) := by decide +kernel
theorem dX2_keep_11 : decode cX2_keep 11 = .ok (.iload_n 1, 1) := by decide +kernel
theorem dX2_keep_12 : decode cX2_keep 12 = .ok (.iload_n 2, 1) := by decide +kernel
theorem dX2_keep_13 : decode cX2_keep 13 = .ok (.iastore, 1) := by decide +kernel
theorem dX2_keep_14 : decode cX2_keep 14 = .ok (.aload_n 0, 1) := by decide +kernel
theorem dX2_keep_15 : decode cX2_keep 15 = .ok (.getfield 19, 3) := by decide +kernel
theorem dX2_keep_18 : decode cX2_keep 18 = .ok (.iload_n 1, 1) := by decide +kernel
theorem dX2_keep_19 : decode cX2_keep 19 = .ok (.iload_n 3, 1) := by decide +kernel
theorem dX2_keep_20 : decode cX2_keep 20 = .ok (.iastore, 1) := by decide +kernel
theorem dX2_keep_21 : decode cX2_keep 21 = .ok (.aload_n 0, 1) := by decide +kernel
theorem dX2_keep_22 : decode cX2_keep 22 = .ok (.getfield 22, 3) := by decide +kernel
theorem dX2_keep_25 : decode cX2_keep 25 = .ok (.iload_n 1, 1) := by decide +kernel
theorem dX2_keep_26 : decode cX2_keep 26 = .ok (.iload 4, 2) := by decide +kernel
theorem dX2_keep_28 : decode cX2_keep 28 = .ok (.iastore, 1) := by decide +kernel
theorem dX2_keep_29 : decode cX2_keep 29 = .ok (.return_, 1) := by decide +kernel
theorem dX2_drop_0 : decode cX2_drop 0 = .ok (.aload_n 0, 1) := by decide +kernel
theorem dX2_drop_1 : decode cX2_drop 1 = .ok (.getfield 9, 3) := by decide +kernel
theorem dX2_drop_4 : decode cX2_drop 4 = .ok (.iload_n 1, 1) := by decide +kernel
theorem dX2_drop_5 : decode cX2_drop 5 = .ok (.iconst 0, 1) := by decide +kernel
theorem dX2_drop_6 : decode cX2_drop 6 = .ok (.bastore, 1) := by decide +kernel
theorem dX2_drop_7 : decode cX2_drop 7 = .ok (.return_, 1) := by decide +kernel
theorem dX2_count_0 : decode cX2_count 0 = .ok (.iconst 0, 1) := by decide +kernel
theorem dX2_count_1 : decode cX2_count 1 = .ok (.istore_n 1, 1) := by decide +kernel
theorem dX2_count_2 : decode cX2_count 2 = .ok (.iconst 0, 1) := by decide +kernel
theorem dX2_count_3 : decode cX2_count 3 = .ok (.istore_n 2, 1) := by decide +kernel
theorem dX2_count_4 : decode cX2_count 4 = .ok (.iload_n 2, 1) := by decide +kernel
theorem dX2_count_5 : decode cX2_count 5 = .ok (.bipush 20, 2) := by decide +kernel
theorem dX2_count_7 : decode cX2_count 7 = .ok (.if_icmp .ge 21, 3) := by decide +kernel
theorem dX2_count_10 : decode cX2_count 10 = .ok (.aload_n 0, 1) := by decide +kernel
theorem dX2_count_11 : decode cX2_count 11 = .ok (.getfield 9, 3) := by decide +kernel
theorem dX2_count_14 : decode cX2_count 14 = .ok (.iload_n 2, 1) := by decide +kernel
theorem dX2_count_15 : decode cX2_count 15 = .ok (.baload, 1) := by decide +kernel
theorem dX2_count_16 : decode cX2_count 16 = .ok (.ifCond .eq 6, 3) := by decide +kernel
theorem dX2_count_19 : decode cX2_count 19 = .ok (.iinc 1 1, 3) := by decide +kernel
theorem dX2_count_22 : decode cX2_count 22 = .ok (.iinc 2 1, 3) := by decide +kernel
theorem dX2_count_25 : decode cX2_count 25 = .ok (.goto (-21), 3) := by decide +kernel
theorem dX2_count_28 : decode cX2_count 28 = .ok (.iload_n 1, 1) := by decide +kernel
theorem dX2_count_29 : decode cX2_count 29 = .ok (.ireturn, 1) := by decide +kernel
theorem dX2_countOfWork_0 : decode cX2_countOfWork 0 = .ok (.iconst 0, 1) := by decide +kernel
theorem dX2_countOfWork_1 : decode cX2_countOfWork 1 = .ok (.istore_n 2, 1) := by decide +kernel
theorem dX2_countOfWork_2 : decode cX2_countOfWork 2 = .ok (.iconst 0, 1) := by decide +kernel
theorem dX2_countOfWork_3 : decode cX2_countOfWork 3 = .ok (.istore_n 3, 1) := by decide +kernel
theorem dX2_countOfWork_4 : decode cX2_countOfWork 4 = .ok (.iload_n 3, 1) := by decide +kernel
theorem dX2_countOfWork_5 : decode cX2_countOfWork 5 = .ok (.bipush 20, 2) := by decide +kernel
theorem dX2_countOfWork_7 : decode cX2_countOfWork 7 = .ok (.if_icmp .ge 31, 3) := by decide +kernel
theorem dX2_countOfWork_10 : decode cX2_countOfWork 10 = .ok (.aload_n 0, 1) := by decide +kernel
theorem dX2_countOfWork_11 : decode cX2_countOfWork 11 = .ok (.getfield 9, 3) := by decide +kernel
theorem dX2_countOfWork_14 : decode cX2_countOfWork 14 = .ok (.iload_n 3, 1) := by decide +kernel
theorem dX2_countOfWork_15 : decode cX2_countOfWork 15 = .ok (.baload, 1) := by decide +kernel
theorem dX2_countOfWork_16 : decode cX2_countOfWork 16 = .ok (.ifCond .eq 16, 3) := by decide +kernel
theorem dX2_countOfWork_19 : decode cX2_countOfWork 19 = .ok (.aload_n 0, 1) := by decide +kernel
theorem dX2_countOfWork_20 : decode cX2_countOfWork 20 = .ok (.getfield 15, 3) := by decide +kernel
theorem dX2_countOfWork_23 : decode cX2_countOfWork 23 = .ok (.iload_n 3, 1) := by decide +kernel
theorem dX2_countOfWork_24 : decode cX2_countOfWork 24 = .ok (.iaload, 1) := by decide +kernel
theorem dX2_countOfWork_25 : decode cX2_countOfWork 25 = .ok (.iload_n 1, 1) := by decide +kernel
theorem dX2_countOfWork_26 : decode cX2_countOfWork 26 = .ok (.if_icmp .ne 6, 3) := by decide +kernel
theorem dX2_countOfWork_29 : decode cX2_countOfWork 29 = .ok (.iinc 2 1, 3) := by decide +kernel
theorem dX2_countOfWork_32 : decode cX2_countOfWork 32 = .ok (.iinc 3 1, 3) := by decide +kernel
theorem dX2_countOfWork_35 : decode cX2_countOfWork 35 = .ok (.goto (-31), 3) := by decide +kernel
theorem dX2_countOfWork_38 : decode cX2_countOfWork 38 = .ok (.iload_n 2, 1) := by decide +kernel
theorem dX2_countOfWork_39 : decode cX2_countOfWork 39 = .ok (.ireturn, 1) := by decide +kernel
set_option maxRecDepth 20000 in
theorem ggX2_countUnlike_X2_isLike : GoodIn wsX2_countUnlike wsX2_isLike := goodIn_r _ [5, 6, 7, 8, 9, 10, 11, 12, 13] (by decide +kernel) (by decide +kernel)
set_option maxRecDepth 20000 in
theorem gX2_countUnlike_X2_isLike : GoodIn wsX2_countUnlike (wsV RX2 25 RX2 yX2_isLike wsX2_isLike) := goodIn_app (goodIn_of _ (by decide +kernel)) ggX2_countUnlike_X2_isLike
theorem dX2_countUnlike_0 : decode cX2_countUnlike 0 = .ok (.iconst 0, 1) := by decide +kernel
theorem dX2_countUnlike_1 : decode cX2_countUnlike 1 = .ok (.istore_n 2, 1) := by decide +kernel
theorem dX2_countUnlike_2 : decode cX2_countUnlike 2 = .ok (.iconst 0, 1) := by decide +kernel
theorem dX2_countUnlike_3 : decode cX2_countUnlike 3 = .ok (.istore_n 3, 1) := by decide +kernel
theorem dX2_countUnlike_4 : decode cX2_countUnlike 4 = .ok (.iload_n 3, 1) := by decide +kernel
theorem dX2_countUnlike_5 : decode cX2_countUnlike 5 = .ok (.bipush 20, 2) := by decide +kernel
theorem dX2_countUnlike_7 : decode cX2_countUnlike 7 = .ok (.if_icmp .ge 21, 3) := by decide +kernel
theorem dX2_countUnlike_10 : decode cX2_countUnlike 10 = .ok (.aload_n 0, 1) := by decide +kernel
theorem dX2_countUnlike_11 : decode cX2_countUnlike 11 = .ok (.aload_n 1, 1) := by decide +kernel
theorem dX2_countUnlike_12 : decode cX2_countUnlike 12 = .ok (.iload_n 3, 1) := by decide +kernel
theorem dX2_countUnlike_13 : decode cX2_countUnlike 13 = .ok (.invokevirtual 25, 3) := by decide +kernel
theorem dX2_countUnlike_16 : decode cX2_countUnlike 16 = .ok (.ifCond .ne 6, 3) := by decide +kernel
theorem dX2_countUnlike_19 : decode cX2_countUnlike 19 = .ok (.iinc 2 1, 3) := by decide +kernel
theorem dX2_countUnlike_22 : decode cX2_countUnlike 22 = .ok (.iinc 3 1, 3) := by decide +kernel
theorem dX2_countUnlike_25 : decode cX2_countUnlike 25 = .ok (.goto (-21), 3) := by decide +kernel
theorem dX2_countUnlike_28 : decode cX2_countUnlike 28 = .ok (.iload_n 2, 1) := by decide +kernel
theorem dX2_countUnlike_29 : decode cX2_countUnlike 29 = .ok (.ireturn, 1) := by decide +kernel
theorem dX2_isLike_0 : decode cX2_isLike 0 = .ok (.aload_n 0, 1) := by decide +kernel
theorem dX2_isLike_1 : decode cX2_isLike 1 = .ok (.getfield 9, 3) := by decide +kernel
theorem dX2_isLike_4 : decode cX2_isLike 4 = .ok (.iload_n 2, 1) := by decide +kernel
theorem dX2_isLike_5 : decode cX2_isLike 5 = .ok (.baload, 1) := by decide +kernel
theorem dX2_isLike_6 : decode cX2_isLike 6 = .ok (.ifCond .eq 12, 3) := by decide +kernel
theorem dX2_isLike_9 : decode cX2_isLike 9 = .ok (.aload_n 1, 1) := by decide +kernel
theorem dX2_isLike_10 : decode cX2_isLike 10 = .ok (.getfield 9, 3) := by decide +kernel
theorem dX2_isLike_13 : decode cX2_isLike 13 = .ok (.iload_n 2, 1) := by decide +kernel
theorem dX2_isLike_14 : decode cX2_isLike 14 = .ok (.baload, 1) := by decide +kernel
theorem dX2_isLike_15 : decode cX2_isLike 15 = .ok (.ifCond .ne 24, 3) := by decide +kernel
theorem dX2_isLike_18 : decode cX2_isLike 18 = .ok (.aload_n 0, 1) := by decide +kernel
theorem dX2_isLike_19 : decode cX2_isLike 19 = .ok (.getfield 9, 3) := by decide +kernel
theorem dX2_isLike_22 : decode cX2_isLike 22 = .ok (.iload_n 2, 1) := by decide +kernel
theorem dX2_isLike_23 : decode cX2_isLike 23 = .ok (.baload, 1) := by decide +kernel
theorem dX2_isLike_24 : decode cX2_isLike 24 = .ok (.aload_n 1, 1) := by decide +kernel
theorem dX2_isLike_25 : decode cX2_isLike 25 = .ok (.getfield 9, 3) := by decide +kernel
theorem dX2_isLike_28 : decode cX2_isLike 28 = .ok (.iload_n 2, 1) := by decide +kernel
theorem dX2_isLike_29 : decode cX2_isLike 29 = .ok (.baload, 1) := by decide +kernel
theorem dX2_isLike_30 : decode cX2_isLike 30 = .ok (.if_icmp .ne 7, 3) := by decide +kernel
theorem dX2_isLike_33 : decode cX2_isLike 33 = .ok (.iconst 1, 1) := by decide +kernel
theorem dX2_isLike_34 : decode cX2_isLike 34 = .ok (.goto 4, 3) := by decide +kernel
theorem dX2_isLike_37 : decode cX2_isLike 37 = .ok (.iconst 0, 1) := by decide +kernel
theorem dX2_isLike_38 : decode cX2_isLike 38 = .ok (.ireturn, 1) := by decide +kernel
theorem dX2_isLike_39 : decode cX2_isLike 39 = .ok (.aload_n 0, 1) := by decide +kernel
theorem dX2_isLike_40 : decode cX2_isLike 40 = .ok (.getfield 15, 3) := by decide +kernel
theorem dX2_isLike_43 : decode cX2_isLike 43 = .ok (.iload_n 2, 1) := by decide +kernel
theorem dX2_isLike_44 : decode cX2_isLike 44 = .ok (.iaload, 1) := by decide +kernel
theorem dX2_isLike_45 : decode cX2_isLike 45 = .ok (.aload_n 1, 1) := by decide +kernel
theorem dX2_isLike_46 : decode cX2_isLike 46 = .ok (.getfield 15, 3) := by decide +kernel
theorem dX2_isLike_49 : decode cX2_isLike 49 = .ok (.iload_n 2, 1) := by decide +kernel
theorem dX2_isLike_50 : decode cX2_isLike 50 = .ok (.iaload, 1) := by decide +kernel
theorem dX2_isLike_51 : decode cX2_isLike 51 = .ok (.if_icmp .ne 37, 3) := by decide +kernel
theorem dX2_isLike_54 : decode cX2_isLike 54 = .ok (.aload_n 0, 1) := by decide +kernel
theorem dX2_isLike_55 : decode cX2_isLike 55 = .ok (.getfield 19, 3) := by decide +kernel
theorem dX2_isLike_58 : decode cX2_isLike 58 = .ok (.iload_n 2, 1) := by decide +kernel
theorem dX2_isLike_59 : decode cX2_isLike 59 = .ok (.iaload, 1) := by decide +kernel
theorem dX2_isLike_60 : decode cX2_isLike 60 = .ok (.aload_n 1, 1) := by decide +kernel
theorem dX2_isLike_61 : decode cX2_isLike 61 = .ok (.getfield 19, 3) := by decide +kernel
theorem dX2_isLike_64 : decode cX2_isLike 64 = .ok (.iload_n 2, 1) := by decide +kernel
theorem dX2_isLike_65 : decode cX2_isLike 65 = .ok (.iaload, 1) := by decide +kernel
theorem dX2_isLike_66 : decode cX2_isLike 66 = .ok (.if_icmp .ne 22, 3) := by decide +kernel
theorem dX2_isLike_69 : decode cX2_isLike 69 = .ok (.aload_n 0, 1) := by decide +kernel
theorem dX2_isLike_70 : decode cX2_isLike 70 = .ok (.getfield 22, 3) := by decide +kernel
theorem dX2_isLike_73 : decode cX2_isLike 73 = .ok (.iload_n 2, 1) := by decide +kernel
theorem dX2_isLike_74 : decode cX2_isLike 74 = .ok (.iaload, 1) := by decide +kernel
theorem dX2_isLike_75 : decode cX2_isLike 75 = .ok (.aload_n 1, 1) := by decide +kernel
theorem dX2_isLike_76 : decode cX2_isLike 76 = .ok (.getfield 22, 3) := by decide +kernel
theorem dX2_isLike_79 : decode cX2_isLike 79 = .ok (.iload_n 2, 1) := by decide +kernel
theorem dX2_isLike_80 : decode cX2_isLike 80 = .ok (.iaload, 1) := by decide +kernel
theorem dX2_isLike_81 : decode cX2_isLike 81 = .ok (.if_icmp .ne 7, 3) := by decide +kernel
theorem dX2_isLike_84 : decode cX2_isLike 84 = .ok (.iconst 1, 1) := by decide +kernel
theorem dX2_isLike_85 : decode cX2_isLike 85 = .ok (.goto 4, 3) := by decide +kernel
theorem dX2_isLike_88 : decode cX2_isLike 88 = .ok (.iconst 0, 1) := by decide +kernel
theorem dX2_isLike_89 : decode cX2_isLike 89 = .ok (.ireturn, 1) := by decide +kernel
theorem dX2_latestOfWork_0 : decode cX2_latestOfWork 0 = .ok (.iconst (-1), 1) := by decide +kernel
theorem dX2_latestOfWork_1 : decode cX2_latestOfWork 1 = .ok (.istore_n 2, 1) := by decide +kernel
theorem dX2_latestOfWork_2 : decode cX2_latestOfWork 2 = .ok (.iconst (-1), 1) := by decide +kernel
theorem dX2_latestOfWork_3 : decode cX2_latestOfWork 3 = .ok (.istore_n 3, 1) := by decide +kernel
theorem dX2_latestOfWork_4 : decode cX2_latestOfWork 4 = .ok (.iconst 0, 1) := by decide +kernel
theorem dX2_latestOfWork_5 : decode cX2_latestOfWork 5 = .ok (.istore 4, 2) := by decide +kernel
theorem dX2_latestOfWork_7 : decode cX2_latestOfWork 7 = .ok (.iload 4, 2) := by decide +kernel
theorem dX2_latestOfWork_9 : decode cX2_latestOfWork 9 = .ok (.bipush 20, 2) := by decide +kernel
theorem dX2_latestOfWork_11 : decode cX2_latestOfWork 11 = .ok (.if_icmp .ge 52, 3) := by decide +kernel
theorem dX2_latestOfWork_14 : decode cX2_latestOfWork 14 = .ok (.aload_n 0, 1) := by decide +kernel
theorem dX2_latestOfWork_15 : decode cX2_latestOfWork 15 = .ok (.getfield 9, 3) := by decide +kernel
theorem dX2_latestOfWork_18 : decode cX2_latestOfWork 18 = .ok (.iload 4, 2) := by decide +kernel
theorem dX2_latestOfWork_20 : decode cX2_latestOfWork 20 = .ok (.baload, 1) := by decide +kernel
theorem dX2_latestOfWork_21 : decode cX2_latestOfWork 21 = .ok (.ifCond .eq 36, 3) := by decide +kernel
theorem dX2_latestOfWork_24 : decode cX2_latestOfWork 24 = .ok (.aload_n 0, 1) := by decide +kernel
theorem dX2_latestOfWork_25 : decode cX2_latestOfWork 25 = .ok (.getfield 15, 3) := by decide +kernel
theorem dX2_latestOfWork_28 : decode cX2_latestOfWork 28 = .ok (.iload 4, 2) := by decide +kernel
theorem dX2_latestOfWork_30 : decode cX2_latestOfWork 30 = .ok (.iaload, 1) := by decide +kernel
theorem dX2_latestOfWork_31 : decode cX2_latestOfWork 31 = .ok (.iload_n 1, 1) := by decide +kernel
theorem dX2_latestOfWork_32 : decode cX2_latestOfWork 32 = .ok (.if_icmp .ne 25, 3) := by decide +kernel
theorem dX2_latestOfWork_35 : decode cX2_latestOfWork 35 = .ok (.aload_n 0, 1) := by decide +kernel
theorem dX2_latestOfWork_36 : decode cX2_latestOfWork 36 = .ok (.getfield 22, 3) := by decide +kernel
theorem dX2_latestOfWork_39 : decode cX2_latestOfWork 39 = .ok (.iload 4, 2) := by decide +kernel
theorem dX2_latestOfWork_41 : decode cX2_latestOfWork 41 = .ok (.iaload, 1) := by decide +kernel
theorem dX2_latestOfWork_42 : decode cX2_latestOfWork 42 = .ok (.iload_n 3, 1) := by decide +kernel
theorem dX2_latestOfWork_43 : decode cX2_latestOfWork 43 = .ok (.if_icmp .le 14, 3) := by decide +kernel
theorem dX2_latestOfWork_46 : decode cX2_latestOfWork 46 = .ok (.iload 4, 2) := by decide +kernel
theorem dX2_latestOfWork_48 : decode cX2_latestOfWork 48 = .ok (.istore_n 2, 1) := by decide +kernel
theorem dX2_latestOfWork_49 : decode cX2_latestOfWork 49 = .ok (.aload_n 0, 1) := by decide +kernel
theorem dX2_latestOfWork_50 : decode cX2_latestOfWork 50 = .ok (.getfield 22, 3) := by decide +kernel
theorem dX2_latestOfWork_53 : decode cX2_latestOfWork 53 = .ok (.iload 4, 2) := by decide +kernel
theorem dX2_latestOfWork_55 : decode cX2_latestOfWork 55 = .ok (.iaload, 1) := by decide +kernel
theorem dX2_latestOfWork_56 : decode cX2_latestOfWork 56 = .ok (.istore_n 3, 1) := by decide +kernel
theorem dX2_latestOfWork_57 : decode cX2_latestOfWork 57 = .ok (.iinc 4 1, 3) := by decide +kernel
theorem dX2_latestOfWork_60 : decode cX2_latestOfWork 60 = .ok (.goto (-53), 3) := by decide +kernel
theorem dX2_latestOfWork_63 : decode cX2_latestOfWork 63 = .ok (.iload_n 2, 1) := by decide +kernel
theorem dX2_latestOfWork_64 : decode cX2_latestOfWork 64 = .ok (.ireturn, 1) := by decide +kernel
set_option maxRecDepth 20000 in
theorem ggX3_init_X1_init : GoodIn wsX3_init wsX1_init := goodIn_r _ [10, 11, 2, 3, 12, 13, 14, 15, 16, 17, 18, 19, 20, 21, 22, 23, 24, 25, 26, 27, 28, 29, 30, 31, 32, 33, 34, 35, 36, 37, 38, 39, 40, 41, 42, 43, 44, 45, 46, 59, 60, 61, 62, 63, 64, 49, 50, 51, 52, 53, 54, 55, 56, 57, 58, 65, 66, 67, 68] (by decide +kernel) (by decide +kernel)
set_option maxRecDepth 20000 in
theorem gX3_init_X1_init_n15 : GoodIn wsX3_init (wsX1_init) := ggX3_init_X1_init
theorem dX3_init_0 : decode cX3_init 0 = .ok (.aload_n 0, 1) := by decide +kernel
theorem dX3_init_1 : decode cX3_init 1 = .ok (.invokespecial 1, 3) := by decide +kernel
theorem dX3_init_4 : decode cX3_init 4 = .ok (.aload_n 0, 1) := by decide +kernel
theorem dX3_init_5 : decode cX3_init 5 = .ok (.iconst 4, 1) := by decide +kernel
theorem dX3_init_6 : decode cX3_init 6 = .ok (.anewarray 9, 3) := by decide +kernel
theorem dX3_init_9 : decode cX3_init 9 = .ok (.putfield 11, 3) := by decide +kernel
theorem dX3_init_12 : decode cX3_init 12 = .ok (.iconst 0, 1) := by decide +kernel
theorem dX3_init_13 : decode cX3_init 13 = .ok (.istore_n 1, 1) := by decide +kernel
theorem dX3_init_14 : decode cX3_init 14 = .ok (.iload_n 1, 1) := by decide +kernel
theorem dX3_init_15 : decode cX3_init 15 = .ok (.iconst 4, 1) := by decide +kernel
theorem dX3_init_16 : decode cX3_init 16 = .ok (.if_icmp .ge 22, 3) := by decide +kernel
theorem dX3_init_19 : decode cX3_init 19 = .ok (.aload_n 0, 1) := by decide +kernel
theorem dX3_init_20 : decode cX3_init 20 = .ok (.getfield 11, 3) := by decide +kernel
theorem dX3_init_23 : decode cX3_init 23 = .ok (.iload_n 1, 1) := by decide +kernel
theorem dX3_init_24 : decode cX3_init 24 = .ok (.new 9, 3) := by decide +kernel
theorem dX3_init_27 : decode cX3_init 27 = .ok (.dup, 1) := by decide +kernel
theorem dX3_init_28 : decode cX3_init 28 = .ok (.invokespecial 15, 3) := by decide +kernel
theorem dX3_init_31 : decode cX3_init 31 = .ok (.aastore, 1) := by decide +kernel
theorem dX3_init_32 : decode cX3_init 32 = .ok (.iinc 1 1, 3) := by decide +kernel
theorem dX3_init_35 : decode cX3_init 35 = .ok (.goto (-21), 3) := by decide +kernel
theorem dX3_init_38 : decode cX3_init 38 = .ok (.aload_n 0, 1) := by decide +kernel
theorem dX3_init_39 : decode cX3_init 39 = .ok (.iconst 0, 1) := by decide +kernel
theorem dX3_init_40 : decode cX3_init 40 = .ok (.putfield 16, 3) := by decide +kernel
theorem dX3_init_43 : decode cX3_init 43 = .ok (.return_, 1) := by decide +kernel
set_option maxRecDepth 20000 in
theorem ggX3_setCatalogue_X3_harvestOf : GoodIn wsX3_setCatalogue wsX3_harvestOf := goodIn_ca (goodIn_r _ [9, 10, 11, 12, 40, 41] (by decide +kernel) (by decide +kernel)) (goodIn_sub (fun _ h => List.mem_cons_of_mem _ (List.mem_append_right _ h)) (by decide +kernel))
set_option maxRecDepth 20000 in
theorem gX3_setCatalogue_X3_harvestOf : GoodIn wsX3_setCatalogue (wsV RX3 20 RX3 yX3_harvestOf wsX3_harvestOf) := goodIn_app (goodIn_of _ (by decide +kernel)) ggX3_setCatalogue_X3_harvestOf
set_option maxRecDepth 20000 in
theorem ggX3_setCatalogue_X3_refuseOutside : GoodIn wsX3_setCatalogue wsX3_refuseOutside := goodIn_ca (goodIn_r _ [15, 10, 11] (by decide +kernel) (by decide +kernel)) (goodIn_sub (fun _ h => List.mem_cons_of_mem _ (List.mem_append_right _ h)) (by decide +kernel))
set_option maxRecDepth 20000 in
theorem gX3_setCatalogue_X3_refuseOutside : GoodIn wsX3_setCatalogue (va_wsS RX3 24 yX3_refuseOutside wsX3_refuseOutside) := goodIn_app (goodIn_of _ (by decide +kernel)) ggX3_setCatalogue_X3_refuseOutside
set_option maxRecDepth 20000 in
theorem ggX3_setCatalogue_X0_forgetToldDeletes : GoodIn wsX3_setCatalogue wsX0_forgetToldDeletes := goodIn_r _ [20, 21, 22, 23, 34, 35, 36, 37, 38, 39] (by decide +kernel) (by decide +kernel)
set_option maxRecDepth 20000 in
theorem gX3_setCatalogue_X0_forgetToldDeletes : GoodIn wsX3_setCatalogue (wsV RX3 40 RX0 yX0_forgetToldDeletes wsX0_forgetToldDeletes) := goodIn_app (goodIn_of _ (by decide +kernel)) ggX3_setCatalogue_X0_forgetToldDeletes
theorem dX3_setCatalogue_0 : decode cX3_setCatalogue 0 = .ok (.aload_n 0, 1) := by decide +kernel
theorem dX3_setCatalogue_1 : decode cX3_setCatalogue 1 = .ok (.iload_n 1, 1) := by decide +kernel
theorem dX3_setCatalogue_2 : decode cX3_setCatalogue 2 = .ok (.invokevirtual 20, 3) := by decide +kernel
theorem dX3_setCatalogue_5 : decode cX3_setCatalogue 5 = .ok (.astore 4, 2) := by decide +kernel
theorem dX3_setCatalogue_7 : decode cX3_setCatalogue 7 = .ok (.iload_n 2, 1) := by decide +kernel
theorem dX3_setCatalogue_8 : decode cX3_setCatalogue 8 = .ok (.iconst 1, 1) := by decide +kernel
theorem dX3_setCatalogue_9 : decode cX3_setCatalogue 9 = .ok (.bipush 30, 2) := by decide +kernel
theorem dX3_setCatalogue_11 : decode cX3_setCatalogue 11 = .ok (.invokestatic 24, 3) := by decide +kernel
theorem dX3_setCatalogue_14 : decode cX3_setCatalogue 14 = .ok (.iload_n 3, 1) := by decide +kernel
theorem dX3_setCatalogue_15 : decode cX3_setCatalogue 15 = .ok (.iconst 0, 1) := by decide +kernel
theorem dX3_setCatalogue_16 : decode cX3_setCatalogue 16 = .ok (.iconst 2, 1) := by decide +kernel
theorem dX3_setCatalogue_17 : decode cX3_setCatalogue 17 = .ok (.invokestatic 24, 3) := by decide +kernel
theorem dX3_setCatalogue_20 : decode cX3_setCatalogue 20 = .ok (.aload 4, 2) := by decide +kernel
theorem dX3_setCatalogue_22 : decode cX3_setCatalogue 22 = .ok (.getfield 28, 3) := by decide +kernel
theorem dX3_setCatalogue_25 : decode cX3_setCatalogue 25 = .ok (.getfield 32, 3) := by decide +kernel
theorem dX3_setCatalogue_28 : decode cX3_setCatalogue 28 = .ok (.istore 5, 2) := by decide +kernel
theorem dX3_setCatalogue_30 : decode cX3_setCatalogue 30 = .ok (.aload 4, 2) := by decide +kernel
theorem dX3_setCatalogue_32 : decode cX3_setCatalogue 32 = .ok (.getfield 28, 3) := by decide +kernel
theorem dX3_setCatalogue_35 : decode cX3_setCatalogue 35 = .ok (.iload_n 2, 1) := by decide +kernel
theorem dX3_setCatalogue_36 : decode cX3_setCatalogue 36 = .ok (.putfield 32, 3) := by decide +kernel
theorem dX3_setCatalogue_39 : decode cX3_setCatalogue 39 = .ok (.aload 4, 2) := by decide +kernel
theorem dX3_setCatalogue_41 : decode cX3_setCatalogue 41 = .ok (.getfield 28, 3) := by decide +kernel
theorem dX3_setCatalogue_44 : decode cX3_setCatalogue 44 = .ok (.iload_n 3, 1) := by decide +kernel
theorem dX3_setCatalogue_45 : decode cX3_setCatalogue 45 = .ok (.putfield 37, 3) := by decide +kernel
theorem dX3_setCatalogue_48 : decode cX3_setCatalogue 48 = .ok (.aload 4, 2) := by decide +kernel
theorem dX3_setCatalogue_50 : decode cX3_setCatalogue 50 = .ok (.getfield 28, 3) := by decide +kernel
theorem dX3_setCatalogue_53 : decode cX3_setCatalogue 53 = .ok (.aload_n 0, 1) := by decide +kernel
theorem dX3_setCatalogue_54 : decode cX3_setCatalogue 54 = .ok (.getfield 16, 3) := by decide +kernel
theorem dX3_setCatalogue_57 : decode cX3_setCatalogue 57 = .ok (.invokevirtual 40, 3) := by decide +kernel
theorem dX3_setCatalogue_60 : decode cX3_setCatalogue 60 = .ok (.iload 5, 2) := by decide +kernel
theorem dX3_setCatalogue_62 : decode cX3_setCatalogue 62 = .ok (.ireturn, 1) := by decide +kernel
set_option maxRecDepth 20000 in
theorem ggX3_put_X3_harvestOf : GoodIn wsX3_put wsX3_harvestOf := goodIn_ca (goodIn_r _ [7, 8, 9, 10, 48, 49] (by decide +kernel) (by decide +kernel)) (goodIn_sub (fun _ h => List.mem_cons_of_mem _ (List.mem_append_right _ h)) (by decide +kernel))
set_option maxRecDepth 20000 in
theorem gX3_put_X3_harvestOf : GoodIn wsX3_put (wsV RX3 20 RX3 yX3_harvestOf wsX3_harvestOf) := goodIn_app (goodIn_of _ (by decide +kernel)) ggX3_put_X3_harvestOf
set_option maxRecDepth 20000 in
theorem ggX3_put_X3_refuseRecord : GoodIn wsX3_put wsX3_refuseRecord := goodIn_ca (goodIn_r _ [13, 14, 15, 6, 16, 8, 9] (by decide +kernel) (by decide +kernel)) (goodIn_sub (fun _ h => List.mem_cons_of_mem _ (List.mem_append_right _ h)) (by decide +kernel))
set_option maxRecDepth 20000 in
theorem gX3_put_X3_refuseRecord : GoodIn wsX3_put (va_wsS RX3 44 yX3_refuseRecord wsX3_refuseRecord) := goodIn_app (goodIn_of _ (by decide +kernel)) ggX3_put_X3_refuseRecord
set_option maxRecDepth 20000 in
theorem ggX3_put_X3_refuseOutside : GoodIn wsX3_put wsX3_refuseOutside := goodIn_ca (goodIn_r _ [16, 8, 9] (by decide +kernel) (by decide +kernel)) (goodIn_sub (fun _ h => List.mem_cons_of_mem _ (List.mem_append_right _ h)) (by decide +kernel))
set_option maxRecDepth 20000 in
theorem gX3_put_X3_refuseOutside : GoodIn wsX3_put (va_wsS RX3 24 yX3_refuseOutside wsX3_refuseOutside) := goodIn_app (goodIn_of _ (by decide +kernel)) ggX3_put_X3_refuseOutside
set_option maxRecDepth 20000 in
theorem ggX3_put_X0_change : GoodIn wsX3_put wsX0_change := goodIn_r _ [21, 22, 23, 24, 25, 26, 20, 27, 28, 29, 30, 31, 32, 33, 34, 35, 36, 37, 50, 51, 52, 53, 54, 55, 56, 57, 58, 59] (by decide +kernel) (by decide +kernel)
set_option maxRecDepth 20000 in
theorem gX3_put_X0_change : GoodIn wsX3_put (wsV RX3 47 RX0 yX0_change wsX0_change) := goodIn_app (goodIn_of _ (by decide +kernel)) ggX3_put_X0_change
theorem dX3_put_0 : decode cX3_put 0 = .ok (.aload_n 0, 1) := by decide +kernel
theorem dX3_put_1 : decode cX3_put 1 = .ok (.iload_n 1, 1) := by decide +kernel
theorem dX3_put_2 : decode cX3_put 2 = .ok (.invokevirtual 20, 3) := by decide +kernel
theorem dX3_put_5 : decode cX3_put 5 = .ok (.astore 5, 2) := by decide +kernel
theorem dX3_put_7 : decode cX3_put 7 = .ok (.iload_n 2, 1) := by decide +kernel
theorem dX3_put_8 : decode cX3_put 8 = .ok (.invokestatic 44, 3) := by decide +kernel
theorem dX3_put_11 : decode cX3_put 11 = .ok (.iload_n 3, 1) := by decide +kernel
theorem dX3_put_12 : decode cX3_put 12 = .ok (.iconst 0, 1) := by decide +kernel
theorem dX3_put_13 : decode cX3_put 13 = .ok (.bipush 9, 2) := by decide +kernel
theorem dX3_put_15 : decode cX3_put 15 = .ok (.invokestatic 24, 3) := by decide +kernel
theorem dX3_put_18 : decode cX3_put 18 = .ok (.iload 4, 2) := by decide +kernel
theorem dX3_put_20 : decode cX3_put 20 = .ok (.iconst 0, 1) := by decide +kernel
theorem dX3_put_21 : decode cX3_put 21 = .ok (.sipush 1000, 3) := by decide +kernel
theorem dX3_put_24 : decode cX3_put 24 = .ok (.invokestatic 24, 3) := by decide +kernel
theorem dX3_put_27 : decode cX3_put 27 = .ok (.aload 5, 2) := by decide +kernel
theorem dX3_put_29 : decode cX3_put 29 = .ok (.getfield 28, 3) := by decide +kernel
theorem dX3_put_32 : decode cX3_put 32 = .ok (.iload_n 2, 1) := by decide +kernel
theorem dX3_put_33 : decode cX3_put 33 = .ok (.iload_n 3, 1) := by decide +kernel
theorem dX3_put_34 : decode cX3_put 34 = .ok (.iload 4, 2) := by decide +kernel
theorem dX3_put_36 : decode cX3_put 36 = .ok (.aload_n 0, 1) := by decide +kernel
theorem dX3_put_37 : decode cX3_put 37 = .ok (.getfield 16, 3) := by decide +kernel
theorem dX3_put_40 : decode cX3_put 40 = .ok (.invokevirtual 47, 3) := by decide +kernel
theorem dX3_put_43 : decode cX3_put 43 = .ok (.ireturn, 1) := by decide +kernel
set_option maxRecDepth 20000 in
theorem ggX3_remove_X3_harvestOf : GoodIn wsX3_remove wsX3_harvestOf := goodIn_ca (goodIn_r _ [11, 12, 13, 14, 62, 63] (by decide +kernel) (by decide +kernel)) (goodIn_sub (fun _ h => List.mem_cons_of_mem _ (List.mem_append_right _ h)) (by decide +kernel))
set_option maxRecDepth 20000 in
theorem gX3_remove_X3_harvestOf : GoodIn wsX3_remove (wsV RX3 20 RX3 yX3_harvestOf wsX3_harvestOf) := goodIn_app (goodIn_of _ (by decide +kernel)) ggX3_remove_X3_harvestOf
set_option maxRecDepth 20000 in
theorem ggX3_remove_X3_refuseRecord : GoodIn wsX3_remove wsX3_refuseRecord := goodIn_ca (goodIn_r _ [17, 18, 19, 10, 20, 12, 13] (by decide +kernel) (by decide +kernel)) (goodIn_sub (fun _ h => List.mem_cons_of_mem _ (List.mem_append_right _ h)) (by decide +kernel))
set_option maxRecDepth 20000 in
theorem gX3_remove_X3_refuseRecord : GoodIn wsX3_remove (va_wsS RX3 44 yX3_refuseRecord wsX3_refuseRecord) := goodIn_app (goodIn_of _ (by decide +kernel)) ggX3_remove_X3_refuseRecord
set_option maxRecDepth 20000 in
theorem ggX3_remove_X0_delete : GoodIn wsX3_remove wsX0_delete := goodIn_r _ [25, 26, 27, 28, 29, 30, 31, 32, 33, 34, 35, 36, 37, 38, 39, 24, 40, 41, 52, 53, 54, 55, 56, 57, 58, 59, 60, 61] (by decide +kernel) (by decide +kernel)
set_option maxRecDepth 20000 in
theorem gX3_remove_X0_delete : GoodIn wsX3_remove (wsV RX3 68 RX0 yX0_delete wsX0_delete) := goodIn_app (goodIn_of _ (by decide +kernel)) ggX3_remove_X0_delete
theorem dX3_remove_0 : decode cX3_remove 0 = .ok (.aload_n 0, 1) := by decide +kernel
theorem dX3_remove_1 : decode cX3_remove 1 = .ok (.iload_n 1, 1) := by decide +kernel
theorem dX3_remove_2 : decode cX3_remove 2 = .ok (.invokevirtual 20, 3) := by decide +kernel
theorem dX3_remove_5 : decode cX3_remove 5 = .ok (.astore_n 3, 1) := by decide +kernel
theorem dX3_remove_6 : decode cX3_remove 6 = .ok (.iload_n 2, 1) := by decide +kernel
theorem dX3_remove_7 : decode cX3_remove 7 = .ok (.invokestatic 44, 3) := by decide +kernel
theorem dX3_remove_10 : decode cX3_remove 10 = .ok (.aload_n 3, 1) := by decide +kernel
theorem dX3_remove_11 : decode cX3_remove 11 = .ok (.getfield 28, 3) := by decide +kernel
theorem dX3_remove_14 : decode cX3_remove 14 = .ok (.getfield 51, 3) := by decide +kernel
theorem dX3_remove_17 : decode cX3_remove 17 = .ok (.getfield 55, 3) := by decide +kernel
theorem dX3_remove_20 : decode cX3_remove 20 = .ok (.iload_n 2, 1) := by decide +kernel
theorem dX3_remove_21 : decode cX3_remove 21 = .ok (.baload, 1) := by decide +kernel
theorem dX3_remove_22 : decode cX3_remove 22 = .ok (.ifCond .ne 13, 3) := by decide +kernel
theorem dX3_remove_25 : decode cX3_remove 25 = .ok (.new 61, 3) := by decide +kernel
theorem dX3_remove_28 : decode cX3_remove 28 = .ok (.dup, 1) := by decide +kernel
theorem dX3_remove_29 : decode cX3_remove 29 = .ok (.ldc 63, 2) := by decide +kernel
theorem dX3_remove_31 : decode cX3_remove 31 = .ok (.invokespecial 65, 3) := by decide +kernel
theorem dX3_remove_34 : decode cX3_remove 34 = .ok (.athrow, 1) := by decide +kernel
theorem dX3_remove_35 : decode cX3_remove 35 = .ok (.aload_n 3, 1) := by decide +kernel
theorem dX3_remove_36 : decode cX3_remove 36 = .ok (.getfield 28, 3) := by decide +kernel
theorem dX3_remove_39 : decode cX3_remove 39 = .ok (.iload_n 2, 1) := by decide +kernel
theorem dX3_remove_40 : decode cX3_remove 40 = .ok (.aload_n 0, 1) := by decide +kernel
theorem dX3_remove_41 : decode cX3_remove 41 = .ok (.getfield 16, 3) := by decide +kernel
theorem dX3_remove_44 : decode cX3_remove 44 = .ok (.invokevirtual 68, 3) := by decide +kernel
theorem dX3_remove_47 : decode cX3_remove 47 = .ok (.ireturn, 1) := by decide +kernel
set_option maxRecDepth 20000 in
theorem ggX3_pass_X3_refuseOutside : GoodIn wsX3_pass wsX3_refuseOutside := goodIn_ca (goodIn_r _ [8, 9, 10] (by decide +kernel) (by decide +kernel)) (goodIn_sub (fun _ h => List.mem_cons_of_mem _ (List.mem_append_right _ h)) (by decide +kernel))
set_option maxRecDepth 20000 in
theorem gX3_pass_X3_refuseOutside : GoodIn wsX3_pass (va_wsS RX3 24 yX3_refuseOutside wsX3_refuseOutside) := goodIn_app (goodIn_of _ (by decide +kernel)) ggX3_pass_X3_refuseOutside
set_option maxRecDepth 20000 in
theorem ggX3_pass_X3_harvestOf : GoodIn wsX3_pass wsX3_harvestOf := goodIn_ca (goodIn_r _ [14, 9, 10, 15, 24, 25] (by decide +kernel) (by decide +kernel)) (goodIn_sub (fun _ h => List.mem_cons_of_mem _ (List.mem_append_right _ h)) (by decide +kernel))
set_option maxRecDepth 20000 in
theorem gX3_pass_X3_harvestOf : GoodIn wsX3_pass (wsV RX3 20 RX3 yX3_harvestOf wsX3_harvestOf) := goodIn_app (goodIn_of _ (by decide +kernel)) ggX3_pass_X3_harvestOf
set_option maxRecDepth 20000 in
theorem ggX3_pass_X0_forgetToldDeletes : GoodIn wsX3_pass wsX0_forgetToldDeletes := goodIn_r _ [20, 21, 22, 23, 36, 37, 38, 39, 40, 41] (by decide +kernel) (by decide +kernel)
set_option maxRecDepth 20000 in
theorem gX3_pass_X0_forgetToldDeletes : GoodIn wsX3_pass (wsV RX3 40 RX0 yX0_forgetToldDeletes wsX0_forgetToldDeletes) := goodIn_app (goodIn_of _ (by decide +kernel)) ggX3_pass_X0_forgetToldDeletes
theorem dX3_pass_0 : decode cX3_pass 0 = .ok (.iload_n 1, 1) := by decide +kernel
theorem dX3_pass_1 : decode cX3_pass 1 = .ok (.iconst 1, 1) := by decide +kernel
theorem dX3_pass_2 : decode cX3_pass 2 = .ok (.bipush 100, 2) := by decide +kernel
theorem dX3_pass_4 : decode cX3_pass 4 = .ok (.invokestatic 24, 3) := by decide +kernel
theorem dX3_pass_7 : decode cX3_pass 7 = .ok (.aload_n 0, 1) := by decide +kernel
theorem dX3_pass_8 : decode cX3_pass 8 = .ok (.getfield 16, 3) := by decide +kernel
theorem dX3_pass_11 : decode cX3_pass 11 = .ok (.iload_n 1, 1) := by decide +kernel
theorem dX3_pass_12 : decode cX3_pass 12 = .ok (.iadd, 1) := by decide +kernel
theorem dX3_pass_13 : decode cX3_pass 13 = .ok (.sipush 5000, 3) := by decide +kernel
theorem dX3_pass_16 : decode cX3_pass 16 = .ok (.if_icmp .le 13, 3) := by decide +kernel
theorem dX3_pass_19 : decode cX3_pass 19 = .ok (.new 61, 3) := by decide +kernel
theorem dX3_pass_22 : decode cX3_pass 22 = .ok (.dup, 1) := by decide +kernel
theorem dX3_pass_23 : decode cX3_pass 23 = .ok (.ldc 72, 2) := by decide +kernel
theorem dX3_pass_25 : decode cX3_pass 25 = .ok (.invokespecial 65, 3) := by decide +kernel
theorem dX3_pass_28 : decode cX3_pass 28 = .ok (.athrow, 1) := by decide +kernel
theorem dX3_pass_29 : decode cX3_pass 29 = .ok (.aload_n 0, 1) := by decide +kernel
theorem dX3_pass_30 : decode cX3_pass 30 = .ok (.dup, 1) := by decide +kernel
theorem dX3_pass_31 : decode cX3_pass 31 = .ok (.getfield 16, 3) := by decide +kernel
theorem dX3_pass_34 : decode cX3_pass 34 = .ok (.iload_n 1, 1) := by decide +kernel
theorem dX3_pass_35 : decode cX3_pass 35 = .ok (.iadd, 1) := by decide +kernel
theorem dX3_pass_36 : decode cX3_pass 36 = .ok (.putfield 16, 3) := by decide +kernel
theorem dX3_pass_39 : decode cX3_pass 39 = .ok (.iconst 0, 1) := by decide +kernel
theorem dX3_pass_40 : decode cX3_pass 40 = .ok (.istore_n 2, 1) := by decide +kernel
theorem dX3_pass_41 : decode cX3_pass 41 = .ok (.iload_n 2, 1) := by decide +kernel
theorem dX3_pass_42 : decode cX3_pass 42 = .ok (.iconst 4, 1) := by decide +kernel
theorem dX3_pass_43 : decode cX3_pass 43 = .ok (.if_icmp .ge 24, 3) := by decide +kernel
theorem dX3_pass_46 : decode cX3_pass 46 = .ok (.aload_n 0, 1) := by decide +kernel
theorem dX3_pass_47 : decode cX3_pass 47 = .ok (.iload_n 2, 1) := by decide +kernel
theorem dX3_pass_48 : decode cX3_pass 48 = .ok (.invokevirtual 20, 3) := by decide +kernel
theorem dX3_pass_51 : decode cX3_pass 51 = .ok (.getfield 28, 3) := by decide +kernel
theorem dX3_pass_54 : decode cX3_pass 54 = .ok (.aload_n 0, 1) := by decide +kernel
theorem dX3_pass_55 : decode cX3_pass 55 = .ok (.getfield 16, 3) := by decide +kernel
theorem dX3_pass_58 : decode cX3_pass 58 = .ok (.invokevirtual 40, 3) := by decide +kernel
theorem dX3_pass_61 : decode cX3_pass 61 = .ok (.iinc 2 1, 3) := by decide +kernel
theorem dX3_pass_64 : decode cX3_pass 64 = .ok (.goto (-23), 3) := by decide +kernel
theorem dX3_pass_67 : decode cX3_pass 67 = .ok (.aload_n 0, 1) := by decide +kernel
theorem dX3_pass_68 : decode cX3_pass 68 = .ok (.getfield 16, 3) := by decide +kernel
theorem dX3_pass_71 : decode cX3_pass 71 = .ok (.ireturn, 1) := by decide +kernel
theorem dX3_today_0 : decode cX3_today 0 = .ok (.aload_n 0, 1) := by decide +kernel
theorem dX3_today_1 : decode cX3_today 1 = .ok (.getfield 16, 3) := by decide +kernel
theorem dX3_today_4 : decode cX3_today 4 = .ok (.ireturn, 1) := by decide +kernel
set_option maxRecDepth 20000 in
theorem ggX3_far_X3_harvestOf : GoodIn wsX3_far wsX3_harvestOf := goodIn_ca (goodIn_r _ [7, 8, 9, 10, 33, 34] (by decide +kernel) (by decide +kernel)) (goodIn_sub (fun _ h => List.mem_cons_of_mem _ (List.mem_append_right _ h)) (by decide +kernel))
set_option maxRecDepth 20000 in
theorem gX3_far_X3_harvestOf : GoodIn wsX3_far (wsV RX3 20 RX3 yX3_harvestOf wsX3_harvestOf) := goodIn_app (goodIn_of _ (by decide +kernel)) ggX3_far_X3_harvestOf
set_option maxRecDepth 20000 in
theorem ggX3_far_X2_count : GoodIn wsX3_far wsX2_count := goodIn_r _ [15, 16, 35, 36, 37, 38] (by decide +kernel) (by decide +kernel)
set_option maxRecDepth 20000 in
theorem gX3_far_X2_count : GoodIn wsX3_far (wsV RX3 74 RX2 yX2_count wsX2_count) := goodIn_app (goodIn_of _ (by decide +kernel)) ggX3_far_X2_count
theorem dX3_far_0 : decode cX3_far 0 = .ok (.aload_n 0, 1) := by decide +kernel
theorem dX3_far_1 : decode cX3_far 1 = .ok (.iload_n 1, 1) := by decide +kernel
theorem dX3_far_2 : decode cX3_far 2 = .ok (.invokevirtual 20, 3) := by decide +kernel
theorem dX3_far_5 : decode cX3_far 5 = .ok (.getfield 28, 3) := by decide +kernel
theorem dX3_far_8 : decode cX3_far 8 = .ok (.getfield 51, 3) := by decide +kernel
theorem dX3_far_11 : decode cX3_far 11 = .ok (.invokevirtual 74, 3) := by decide +kernel
theorem dX3_far_14 : decode cX3_far 14 = .ok (.ireturn, 1) := by decide +kernel
set_option maxRecDepth 20000 in
theorem ggX3_told_X3_harvestOf : GoodIn wsX3_told wsX3_harvestOf := goodIn_ca (goodIn_r _ [6, 7, 8, 9, 26, 27] (by decide +kernel) (by decide +kernel)) (goodIn_sub (fun _ h => List.mem_cons_of_mem _ (List.mem_append_right _ h)) (by decide +kernel))
set_option maxRecDepth 20000 in
theorem gX3_told_X3_harvestOf : GoodIn wsX3_told (wsV RX3 20 RX3 yX3_harvestOf wsX3_harvestOf) := goodIn_app (goodIn_of _ (by decide +kernel)) ggX3_told_X3_harvestOf
set_option maxRecDepth 20000 in
theorem ggX3_told_X0_countTold : GoodIn wsX3_told wsX0_countTold := goodIn_r _ [14, 15, 28, 29, 30, 31, 32, 33] (by decide +kernel) (by decide +kernel)
set_option maxRecDepth 20000 in
theorem gX3_told_X0_countTold : GoodIn wsX3_told (wsV RX3 78 RX0 yX0_countTold wsX0_countTold) := goodIn_app (goodIn_of _ (by decide +kernel)) ggX3_told_X0_countTold
theorem dX3_told_0 : decode cX3_told 0 = .ok (.aload_n 0, 1) := by decide +kernel
theorem dX3_told_1 : decode cX3_told 1 = .ok (.iload_n 1, 1) := by decide +kernel
theorem dX3_told_2 : decode cX3_told 2 = .ok (.invokevirtual 20, 3) := by decide +kernel
theorem dX3_told_5 : decode cX3_told 5 = .ok (.getfield 28, 3) := by decide +kernel
theorem dX3_told_8 : decode cX3_told 8 = .ok (.invokevirtual 78, 3) := by decide +kernel
theorem dX3_told_11 : decode cX3_told 11 = .ok (.ireturn, 1) := by decide +kernel
set_option maxRecDepth 20000 in
theorem ggX3_open_X3_harvestOf : GoodIn wsX3_open wsX3_harvestOf := goodIn_ca (goodIn_r _ [6, 7, 8, 9, 27, 28] (by decide +kernel) (by decide +kernel)) (goodIn_sub (fun _ h => List.mem_cons_of_mem _ (List.mem_append_right _ h)) (by decide +kernel))
set_option maxRecDepth 20000 in
theorem gX3_open_X3_harvestOf : GoodIn wsX3_open (wsV RX3 20 RX3 yX3_harvestOf wsX3_harvestOf) := goodIn_app (goodIn_of _ (by decide +kernel)) ggX3_open_X3_harvestOf
set_option maxRecDepth 20000 in
theorem ggX3_open_X1_begin : GoodIn wsX3_open wsX1_begin := goodIn_r _ [14, 15, 16, 17, 18, 19, 20, 21, 29, 30, 31, 32, 33, 34, 35, 36, 37, 38] (by decide +kernel) (by decide +kernel)
set_option maxRecDepth 20000 in
theorem gX3_open_X1_begin : GoodIn wsX3_open (wsV RX3 81 RX1 yX1_begin wsX1_begin) := goodIn_app (goodIn_of _ (by decide +kernel)) ggX3_open_X1_begin
set_option maxRecDepth 20000 in
theorem ggX3_open_X1_firstStamp : GoodIn wsX3_open wsX1_firstStamp := goodIn_r _ [25, 16, 26, 29, 30, 31, 32, 33, 34, 35, 36, 37, 38] (by decide +kernel) (by decide +kernel)
set_option maxRecDepth 20000 in
theorem gX3_open_X1_firstStamp : GoodIn wsX3_open (wsV RX3 85 RX1 yX1_firstStamp wsX1_firstStamp) := goodIn_app (goodIn_of _ (by decide +kernel)) ggX3_open_X1_firstStamp
theorem dX3_open_0 : decode cX3_open 0 = .ok (.aload_n 0, 1) := by decide +kernel
theorem dX3_open_1 : decode cX3_open 1 = .ok (.iload_n 1, 1) := by decide +kernel
theorem dX3_open_2 : decode cX3_open 2 = .ok (.invokevirtual 20, 3) := by decide +kernel
theorem dX3_open_5 : decode cX3_open 5 = .ok (.astore_n 3, 1) := by decide +kernel
theorem dX3_open_6 : decode cX3_open 6 = .ok (.aload_n 3, 1) := by decide +kernel
theorem dX3_open_7 : decode cX3_open 7 = .ok (.iload_n 2, 1) := by decide +kernel
theorem dX3_open_8 : decode cX3_open 8 = .ok (.aload_n 0, 1) := by decide +kernel
theorem dX3_open_9 : decode cX3_open 9 = .ok (.getfield 16, 3) := by decide +kernel
theorem dX3_open_12 : decode cX3_open 12 = .ok (.invokevirtual 81, 3) := by decide +kernel
theorem dX3_open_15 : decode cX3_open 15 = .ok (.aload_n 3, 1) := by decide +kernel
theorem dX3_open_16 : decode cX3_open 16 = .ok (.invokevirtual 85, 3) := by decide +kernel
theorem dX3_open_19 : decode cX3_open 19 = .ok (.ireturn, 1) := by decide +kernel
set_option maxRecDepth 20000 in
theorem ggX3_read_X3_harvestOf : GoodIn wsX3_read wsX3_harvestOf := goodIn_ca (goodIn_r _ [9, 10, 11, 12, 100, 101] (by decide +kernel) (by decide +kernel)) (goodIn_sub (fun _ h => List.mem_cons_of_mem _ (List.mem_append_right _ h)) (by decide +kernel))
set_option maxRecDepth 20000 in
theorem gX3_read_X3_harvestOf : GoodIn wsX3_read (wsV RX3 20 RX3 yX3_harvestOf wsX3_harvestOf) := goodIn_app (goodIn_of _ (by decide +kernel)) ggX3_read_X3_harvestOf
set_option maxRecDepth 20000 in
theorem ggX3_read_X1_takePage : GoodIn wsX3_read wsX1_takePage := goodIn_r _ [17, 18, 19, 20, 21, 22, 16, 23, 24, 25, 26, 27, 28, 29, 30, 31, 32, 33, 34, 35, 36, 37, 38, 39, 40, 41, 42, 43, 44, 45, 46, 47, 48, 49, 50, 51, 52, 53, 54, 55, 56, 57, 58, 59, 60, 61, 62, 63, 64, 65, 66, 67, 68, 69, 70, 71, 72, 73, 74, 75, 76, 77, 78, 79, 80, 81, 82, 83, 84, 85, 86, 87, 88, 89, 90, 91, 92, 93, 94, 95, 96, 97, 98, 99, 102, 103, 104, 105, 106, 107, 108, 109, 110, 111] (by decide +kernel) (by decide +kernel)
set_option maxRecDepth 20000 in
theorem gX3_read_X1_takePage : GoodIn wsX3_read (wsV RX3 94 RX1 yX1_takePage wsX1_takePage) := goodIn_app (goodIn_of _ (by decide +kernel)) ggX3_read_X1_takePage
theorem dX3_read_0 : decode cX3_read 0 = .ok (.aload_n 0, 1) := by decide +kernel
theorem dX3_read_1 : decode cX3_read 1 = .ok (.iload_n 1, 1) := by decide +kernel
theorem dX3_read_2 : decode cX3_read 2 = .ok (.invokevirtual 20, 3) := by decide +kernel
theorem dX3_read_5 : decode cX3_read 5 = .ok (.astore_n 2, 1) := by decide +kernel
theorem dX3_read_6 : decode cX3_read 6 = .ok (.aload_n 2, 1) := by decide +kernel
theorem dX3_read_7 : decode cX3_read 7 = .ok (.getfield 88, 3) := by decide +kernel
theorem dX3_read_10 : decode cX3_read 10 = .ok (.ifCond .ne 13, 3) := by decide +kernel
theorem dX3_read_13 : decode cX3_read 13 = .ok (.new 61, 3) := by decide +kernel
theorem dX3_read_16 : decode cX3_read 16 = .ok (.dup, 1) := by decide +kernel
theorem dX3_read_17 : decode cX3_read 17 = .ok (.ldc 92, 2) := by decide +kernel
theorem dX3_read_19 : decode cX3_read 19 = .ok (.invokespecial 65, 3) := by decide +kernel
theorem dX3_read_22 : decode cX3_read 22 = .ok (.athrow, 1) := by decide +kernel
theorem dX3_read_23 : decode cX3_read 23 = .ok (.aload_n 2, 1) := by decide +kernel
theorem dX3_read_24 : decode cX3_read 24 = .ok (.aload_n 0, 1) := by decide +kernel
theorem dX3_read_25 : decode cX3_read 25 = .ok (.getfield 16, 3) := by decide +kernel
theorem dX3_read_28 : decode cX3_read 28 = .ok (.invokevirtual 94, 3) := by decide +kernel
theorem dX3_read_31 : decode cX3_read 31 = .ok (.ireturn, 1) := by decide +kernel
set_option maxRecDepth 20000 in
theorem ggX3_isOpen_X3_harvestOf : GoodIn wsX3_isOpen wsX3_harvestOf := goodIn_ca (goodIn_r _ [6, 7, 8, 9, 20, 21] (by decide +kernel) (by decide +kernel)) (goodIn_sub (fun _ h => List.mem_cons_of_mem _ (List.mem_append_right _ h)) (by decide +kernel))
set_option maxRecDepth 20000 in
theorem gX3_isOpen_X3_harvestOf : GoodIn wsX3_isOpen (wsV RX3 20 RX3 yX3_harvestOf wsX3_harvestOf) := goodIn_app (goodIn_of _ (by decide +kernel)) ggX3_isOpen_X3_harvestOf
theorem dX3_isOpen_0 : decode cX3_isOpen 0 = .ok (.aload_n 0, 1) := by decide +kernel
theorem dX3_isOpen_1 : decode cX3_isOpen 1 = .ok (.iload_n 1, 1) := by decide +kernel
theorem dX3_isOpen_2 : decode cX3_isOpen 2 = .ok (.invokevirtual 20, 3) := by decide +kernel
theorem dX3_isOpen_5 : decode cX3_isOpen 5 = .ok (.getfield 88, 3) := by decide +kernel
theorem dX3_isOpen_8 : decode cX3_isOpen 8 = .ok (.ireturn, 1) := by decide +kernel
set_option maxRecDepth 20000 in
theorem ggX3_mark_X3_harvestOf : GoodIn wsX3_mark wsX3_harvestOf := goodIn_ca (goodIn_r _ [6, 7, 8, 9, 20, 21] (by decide +kernel) (by decide +kernel)) (goodIn_sub (fun _ h => List.mem_cons_of_mem _ (List.mem_append_right _ h)) (by decide +kernel))
set_option maxRecDepth 20000 in
theorem gX3_mark_X3_harvestOf : GoodIn wsX3_mark (wsV RX3 20 RX3 yX3_harvestOf wsX3_harvestOf) := goodIn_app (goodIn_of _ (by decide +kernel)) ggX3_mark_X3_harvestOf
theorem dX3_mark_0 : decode cX3_mark 0 = .ok (.aload_n 0, 1) := by decide +kernel
theorem dX3_mark_1 : decode cX3_mark 1 = .ok (.iload_n 1, 1) := by decide +kernel
theorem dX3_mark_2 : decode cX3_mark 2 = .ok (.invokevirtual 20, 3) := by decide +kernel
theorem dX3_mark_5 : decode cX3_mark 5 = .ok (.getfield 98, 3) := by decide +kernel
theorem dX3_mark_8 : decode cX3_mark 8 = .ok (.ireturn, 1) := by decide +kernel
set_option maxRecDepth 20000 in
theorem ggX3_stored_X3_harvestOf : GoodIn wsX3_stored wsX3_harvestOf := goodIn_ca (goodIn_r _ [8, 9, 10, 11, 32, 33] (by decide +kernel) (by decide +kernel)) (goodIn_sub (fun _ h => List.mem_cons_of_mem _ (List.mem_append_right _ h)) (by decide +kernel))
set_option maxRecDepth 20000 in
theorem gX3_stored_X3_harvestOf : GoodIn wsX3_stored (wsV RX3 20 RX3 yX3_harvestOf wsX3_harvestOf) := goodIn_app (goodIn_of _ (by decide +kernel)) ggX3_stored_X3_harvestOf
set_option maxRecDepth 20000 in
theorem ggX3_stored_X3_refuseRecord : GoodIn wsX3_stored wsX3_refuseRecord := goodIn_ca (goodIn_r _ [14, 15, 16, 7, 17, 9, 10] (by decide +kernel) (by decide +kernel)) (goodIn_sub (fun _ h => List.mem_cons_of_mem _ (List.mem_append_right _ h)) (by decide +kernel))
set_option maxRecDepth 20000 in
theorem gX3_stored_X3_refuseRecord : GoodIn wsX3_stored (va_wsS RX3 44 yX3_refuseRecord wsX3_refuseRecord) := goodIn_app (goodIn_of _ (by decide +kernel)) ggX3_stored_X3_refuseRecord
theorem dX3_stored_0 : decode cX3_stored 0 = .ok (.aload_n 0, 1) := by decide +kernel
theorem dX3_stored_1 : decode cX3_stored 1 = .ok (.iload_n 1, 1) := by decide +kernel
theorem dX3_stored_2 : decode cX3_stored 2 = .ok (.invokevirtual 20, 3) := by decide +kernel
theorem dX3_stored_5 : decode cX3_stored 5 = .ok (.astore_n 3, 1) := by decide +kernel
theorem dX3_stored_6 : decode cX3_stored 6 = .ok (.iload_n 2, 1) := by decide +kernel
theorem dX3_stored_7 : decode cX3_stored 7 = .ok (.invokestatic 44, 3) := by decide +kernel
theorem dX3_stored_10 : decode cX3_stored 10 = .ok (.aload_n 3, 1) := by decide +kernel
theorem dX3_stored_11 : decode cX3_stored 11 = .ok (.getfield 101, 3) := by decide +kernel
theorem dX3_stored_14 : decode cX3_stored 14 = .ok (.getfield 55, 3) := by decide +kernel
theorem dX3_stored_17 : decode cX3_stored 17 = .ok (.iload_n 2, 1) := by decide +kernel
theorem dX3_stored_18 : decode cX3_stored 18 = .ok (.baload, 1) := by decide +kernel
theorem dX3_stored_19 : decode cX3_stored 19 = .ok (.ifCond .eq 15, 3) := by decide +kernel
theorem dX3_stored_22 : decode cX3_stored 22 = .ok (.aload_n 3, 1) := by decide +kernel
theorem dX3_stored_23 : decode cX3_stored 23 = .ok (.getfield 101, 3) := by decide +kernel
theorem dX3_stored_26 : decode cX3_stored 26 = .ok (.getfield 104, 3) := by decide +kernel
theorem dX3_stored_29 : decode cX3_stored 29 = .ok (.iload_n 2, 1) := by decide +kernel
theorem dX3_stored_30 : decode cX3_stored 30 = .ok (.iaload, 1) := by decide +kernel
theorem dX3_stored_31 : decode cX3_stored 31 = .ok (.goto 4, 3) := by decide +kernel
theorem dX3_stored_34 : decode cX3_stored 34 = .ok (.iconst (-1), 1) := by decide +kernel
theorem dX3_stored_35 : decode cX3_stored 35 = .ok (.ireturn, 1) := by decide +kernel
set_option maxRecDepth 20000 in
theorem ggX3_held_X3_harvestOf : GoodIn wsX3_held wsX3_harvestOf := goodIn_ca (goodIn_r _ [6, 7, 8, 9, 26, 27] (by decide +kernel) (by decide +kernel)) (goodIn_sub (fun _ h => List.mem_cons_of_mem _ (List.mem_append_right _ h)) (by decide +kernel))
set_option maxRecDepth 20000 in
theorem gX3_held_X3_harvestOf : GoodIn wsX3_held (wsV RX3 20 RX3 yX3_harvestOf wsX3_harvestOf) := goodIn_app (goodIn_of _ (by decide +kernel)) ggX3_held_X3_harvestOf
set_option maxRecDepth 20000 in
theorem ggX3_held_X2_count : GoodIn wsX3_held wsX2_count := goodIn_r _ [14, 15, 28, 29, 30, 31] (by decide +kernel) (by decide +kernel)
set_option maxRecDepth 20000 in
theorem gX3_held_X2_count : GoodIn wsX3_held (wsV RX3 74 RX2 yX2_count wsX2_count) := goodIn_app (goodIn_of _ (by decide +kernel)) ggX3_held_X2_count
theorem dX3_held_0 : decode cX3_held 0 = .ok (.aload_n 0, 1) := by decide +kernel
theorem dX3_held_1 : decode cX3_held 1 = .ok (.iload_n 1, 1) := by decide +kernel
theorem dX3_held_2 : decode cX3_held 2 = .ok (.invokevirtual 20, 3) := by decide +kernel
theorem dX3_held_5 : decode cX3_held 5 = .ok (.getfield 101, 3) := by decide +kernel
theorem dX3_held_8 : decode cX3_held 8 = .ok (.invokevirtual 74, 3) := by decide +kernel
theorem dX3_held_11 : decode cX3_held 11 = .ok (.ireturn, 1) := by decide +kernel
set_option maxRecDepth 20000 in
theorem ggX3_wrong_X3_harvestOf : GoodIn wsX3_wrong wsX3_harvestOf := goodIn_ca (goodIn_r _ [8, 9, 10, 11, 41, 42] (by decide +kernel) (by decide +kernel)) (goodIn_sub (fun _ h => List.mem_cons_of_mem _ (List.mem_append_right _ h)) (by decide +kernel))
set_option maxRecDepth 20000 in
theorem gX3_wrong_X3_harvestOf : GoodIn wsX3_wrong (wsV RX3 20 RX3 yX3_harvestOf wsX3_harvestOf) := goodIn_app (goodIn_of _ (by decide +kernel)) ggX3_wrong_X3_harvestOf
set_option maxRecDepth 20000 in
theorem ggX3_wrong_X2_countUnlike : GoodIn wsX3_wrong wsX2_countUnlike := goodIn_r _ [16, 17, 18, 19, 15, 20, 21, 22, 23, 24, 43, 44, 45, 46] (by decide +kernel) (by decide +kernel)
set_option maxRecDepth 20000 in
theorem gX3_wrong_X2_countUnlike : GoodIn wsX3_wrong (wsV RX3 108 RX2 yX2_countUnlike wsX2_countUnlike) := goodIn_app (goodIn_of _ (by decide +kernel)) ggX3_wrong_X2_countUnlike
theorem dX3_wrong_0 : decode cX3_wrong 0 = .ok (.aload_n 0, 1) := by decide +kernel
theorem dX3_wrong_1 : decode cX3_wrong 1 = .ok (.iload_n 1, 1) := by decide +kernel
theorem dX3_wrong_2 : decode cX3_wrong 2 = .ok (.invokevirtual 20, 3) := by decide +kernel
theorem dX3_wrong_5 : decode cX3_wrong 5 = .ok (.astore_n 2, 1) := by decide +kernel
theorem dX3_wrong_6 : decode cX3_wrong 6 = .ok (.aload_n 2, 1) := by decide +kernel
theorem dX3_wrong_7 : decode cX3_wrong 7 = .ok (.getfield 101, 3) := by decide +kernel
theorem dX3_wrong_10 : decode cX3_wrong 10 = .ok (.aload_n 2, 1) := by decide +kernel
theorem dX3_wrong_11 : decode cX3_wrong 11 = .ok (.getfield 28, 3) := by decide +kernel
theorem dX3_wrong_14 : decode cX3_wrong 14 = .ok (.getfield 51, 3) := by decide +kernel
theorem dX3_wrong_17 : decode cX3_wrong 17 = .ok (.invokevirtual 108, 3) := by decide +kernel
theorem dX3_wrong_20 : decode cX3_wrong 20 = .ok (.ireturn, 1) := by decide +kernel
set_option maxRecDepth 20000 in
theorem ggX3_copies_X3_refuseOutside : GoodIn wsX3_copies wsX3_refuseOutside := goodIn_ca (goodIn_r _ [5, 6, 7] (by decide +kernel) (by decide +kernel)) (goodIn_sub (fun _ h => List.mem_cons_of_mem _ (List.mem_append_right _ h)) (by decide +kernel))
set_option maxRecDepth 20000 in
theorem gX3_copies_X3_refuseOutside : GoodIn wsX3_copies (va_wsS RX3 24 yX3_refuseOutside wsX3_refuseOutside) := goodIn_app (goodIn_of _ (by decide +kernel)) ggX3_copies_X3_refuseOutside
set_option maxRecDepth 20000 in
theorem ggX3_copies_X3_harvestOf : GoodIn wsX3_copies wsX3_harvestOf := goodIn_ca (goodIn_r _ [11, 6, 7, 12, 30, 31] (by decide +kernel) (by decide +kernel)) (goodIn_sub (fun _ h => List.mem_cons_of_mem _ (List.mem_append_right _ h)) (by decide +kernel))
set_option maxRecDepth 20000 in
theorem gX3_copies_X3_harvestOf : GoodIn wsX3_copies (wsV RX3 20 RX3 yX3_harvestOf wsX3_harvestOf) := goodIn_app (goodIn_of _ (by decide +kernel)) ggX3_copies_X3_harvestOf
set_option maxRecDepth 20000 in
theorem ggX3_copies_X2_countOfWork : GoodIn wsX3_copies wsX2_countOfWork := goodIn_r _ [17, 18, 19, 32, 33, 34, 35] (by decide +kernel) (by decide +kernel)
set_option maxRecDepth 20000 in
theorem gX3_copies_X2_countOfWork : GoodIn wsX3_copies (wsV RX3 112 RX2 yX2_countOfWork wsX2_countOfWork) := goodIn_app (goodIn_of _ (by decide +kernel)) ggX3_copies_X2_countOfWork
theorem dX3_copies_0 : decode cX3_copies 0 = .ok (.iload_n 1, 1) := by decide +kernel
theorem dX3_copies_1 : decode cX3_copies 1 = .ok (.iconst 0, 1) := by decide +kernel
theorem dX3_copies_2 : decode cX3_copies 2 = .ok (.bipush 9, 2) := by decide +kernel
theorem dX3_copies_4 : decode cX3_copies 4 = .ok (.invokestatic 24, 3) := by decide +kernel
theorem dX3_copies_7 : decode cX3_copies 7 = .ok (.iconst 0, 1) := by decide +kernel
theorem dX3_copies_8 : decode cX3_copies 8 = .ok (.istore_n 2, 1) := by decide +kernel
theorem dX3_copies_9 : decode cX3_copies 9 = .ok (.iconst 0, 1) := by decide +kernel
theorem dX3_copies_10 : decode cX3_copies 10 = .ok (.istore_n 3, 1) := by decide +kernel
theorem dX3_copies_11 : decode cX3_copies 11 = .ok (.iload_n 3, 1) := by decide +kernel
theorem dX3_copies_12 : decode cX3_copies 12 = .ok (.iconst 4, 1) := by decide +kernel
theorem dX3_copies_13 : decode cX3_copies 13 = .ok (.if_icmp .ge 24, 3) := by decide +kernel
theorem dX3_copies_16 : decode cX3_copies 16 = .ok (.iload_n 2, 1) := by decide +kernel
theorem dX3_copies_17 : decode cX3_copies 17 = .ok (.aload_n 0, 1) := by decide +kernel
theorem dX3_copies_18 : decode cX3_copies 18 = .ok (.iload_n 3, 1) := by decide +kernel
theorem dX3_copies_19 : decode cX3_copies 19 = .ok (.invokevirtual 20, 3) := by decide +kernel
theorem dX3_copies_22 : decode cX3_copies 22 = .ok (.getfield 101, 3) := by decide +kernel
theorem dX3_copies_25 : decode cX3_copies 25 = .ok (.iload_n 1, 1) := by decide +kernel
theorem dX3_copies_26 : decode cX3_copies 26 = .ok (.invokevirtual 112, 3) := by decide +kernel
theorem dX3_copies_29 : decode cX3_copies 29 = .ok (.iadd, 1) := by decide +kernel
theorem dX3_copies_30 : decode cX3_copies 30 = .ok (.istore_n 2, 1) := by decide +kernel
theorem dX3_copies_31 : decode cX3_copies 31 = .ok (.iinc 3 1, 3) := by decide +kernel
theorem dX3_copies_34 : decode cX3_copies 34 = .ok (.goto (-23), 3) := by decide +kernel
theorem dX3_copies_37 : decode cX3_copies 37 = .ok (.iload_n 2, 1) := by decide +kernel
theorem dX3_copies_38 : decode cX3_copies 38 = .ok (.ireturn, 1) := by decide +kernel
set_option maxRecDepth 20000 in
theorem ggX3_best_X3_refuseOutside : GoodIn wsX3_best wsX3_refuseOutside := goodIn_ca (goodIn_r _ [6, 7, 8] (by decide +kernel) (by decide +kernel)) (goodIn_sub (fun _ h => List.mem_cons_of_mem _ (List.mem_append_right _ h)) (by decide +kernel))
set_option maxRecDepth 20000 in
theorem gX3_best_X3_refuseOutside : GoodIn wsX3_best (va_wsS RX3 24 yX3_refuseOutside wsX3_refuseOutside) := goodIn_app (goodIn_of _ (by decide +kernel)) ggX3_best_X3_refuseOutside
set_option maxRecDepth 20000 in
theorem ggX3_best_X3_harvestOf : GoodIn wsX3_best wsX3_harvestOf := goodIn_ca (goodIn_r _ [12, 7, 8, 13, 36, 37] (by decide +kernel) (by decide +kernel)) (goodIn_sub (fun _ h => List.mem_cons_of_mem _ (List.mem_append_right _ h)) (by decide +kernel))
set_option maxRecDepth 20000 in
theorem gX3_best_X3_harvestOf : GoodIn wsX3_best (wsV RX3 20 RX3 yX3_harvestOf wsX3_harvestOf) := goodIn_app (goodIn_of _ (by decide +kernel)) ggX3_best_X3_harvestOf
set_option maxRecDepth 20000 in
theorem ggX3_best_X2_latestOfWork : GoodIn wsX3_best wsX2_latestOfWork := goodIn_r _ [18, 19, 20, 21, 32, 33, 34, 35] (by decide +kernel) (by decide +kernel)
set_option maxRecDepth 20000 in
theorem gX3_best_X2_latestOfWork : GoodIn wsX3_best (wsV RX3 115 RX2 yX2_latestOfWork wsX2_latestOfWork) := goodIn_app (goodIn_of _ (by decide +kernel)) ggX3_best_X2_latestOfWork
theorem dX3_best_0 : decode cX3_best 0 = .ok (.iload_n 1, 1) := by decide +kernel
theorem dX3_best_1 : decode cX3_best 1 = .ok (.iconst 0, 1) := by decide +kernel
theorem dX3_best_2 : decode cX3_best 2 = .ok (.bipush 9, 2) := by decide +kernel
theorem dX3_best_4 : decode cX3_best 4 = .ok (.invokestatic 24, 3) := by decide +kernel
theorem dX3_best_7 : decode cX3_best 7 = .ok (.iconst (-1), 1) := by decide +kernel
theorem dX3_best_8 : decode cX3_best 8 = .ok (.istore_n 2, 1) := by decide +kernel
theorem dX3_best_9 : decode cX3_best 9 = .ok (.iconst (-1), 1) := by decide +kernel
theorem dX3_best_10 : decode cX3_best 10 = .ok (.istore_n 3, 1) := by decide +kernel
theorem dX3_best_11 : decode cX3_best 11 = .ok (.iconst 0, 1) := by decide +kernel
theorem dX3_best_12 : decode cX3_best 12 = .ok (.istore 4, 2) := by decide +kernel
theorem dX3_best_14 : decode cX3_best 14 = .ok (.iload 4, 2) := by decide +kernel
theorem dX3_best_16 : decode cX3_best 16 = .ok (.iconst 4, 1) := by decide +kernel
theorem dX3_best_17 : decode cX3_best 17 = .ok (.if_icmp .ge 64, 3) := by decide +kernel
theorem dX3_best_20 : decode cX3_best 20 = .ok (.aload_n 0, 1) := by decide +kernel
theorem dX3_best_21 : decode cX3_best 21 = .ok (.iload 4, 2) := by decide +kernel
theorem dX3_best_23 : decode cX3_best 23 = .ok (.invokevirtual 20, 3) := by decide +kernel
theorem dX3_best_26 : decode cX3_best 26 = .ok (.getfield 101, 3) := by decide +kernel
theorem dX3_best_29 : decode cX3_best 29 = .ok (.astore 5, 2) := by decide +kernel
theorem dX3_best_31 : decode cX3_best 31 = .ok (.aload 5, 2) := by decide +kernel
theorem dX3_best_33 : decode cX3_best 33 = .ok (.iload_n 1, 1) := by decide +kernel
theorem dX3_best_34 : decode cX3_best 34 = .ok (.invokevirtual 115, 3) := by decide +kernel
theorem dX3_best_37 : decode cX3_best 37 = .ok (.istore 6, 2) := by decide +kernel
theorem dX3_best_39 : decode cX3_best 39 = .ok (.iload 6, 2) := by decide +kernel
theorem dX3_best_41 : decode cX3_best 41 = .ok (.iconst (-1), 1) := by decide +kernel
theorem dX3_best_42 : decode cX3_best 42 = .ok (.if_icmp .eq 33, 3) := by decide +kernel
theorem dX3_best_45 : decode cX3_best 45 = .ok (.aload 5, 2) := by decide +kernel
theorem dX3_best_47 : decode cX3_best 47 = .ok (.getfield 118, 3) := by decide +kernel
theorem dX3_best_50 : decode cX3_best 50 = .ok (.iload 6, 2) := by decide +kernel
theorem dX3_best_52 : decode cX3_best 52 = .ok (.iaload, 1) := by decide +kernel
theorem dX3_best_53 : decode cX3_best 53 = .ok (.iload_n 3, 1) := by decide +kernel
theorem dX3_best_54 : decode cX3_best 54 = .ok (.if_icmp .le 21, 3) := by decide +kernel
theorem dX3_best_57 : decode cX3_best 57 = .ok (.bipush 100, 2) := by decide +kernel
theorem dX3_best_59 : decode cX3_best 59 = .ok (.iload 4, 2) := by decide +kernel
theorem dX3_best_61 : decode cX3_best 61 = .ok (.imul, 1) := by decide +kernel
theorem dX3_best_62 : decode cX3_best 62 = .ok (.iload 6, 2) := by decide +kernel
theorem dX3_best_64 : decode cX3_best 64 = .ok (.iadd, 1) := by decide +kernel
theorem dX3_best_65 : decode cX3_best 65 = .ok (.istore_n 2, 1) := by decide +kernel
theorem dX3_best_66 : decode cX3_best 66 = .ok (.aload 5, 2) := by decide +kernel
theorem dX3_best_68 : decode cX3_best 68 = .ok (.getfield 118, 3) := by decide +kernel
theorem dX3_best_71 : decode cX3_best 71 = .ok (.iload 6, 2) := by decide +kernel
theorem dX3_best_73 : decode cX3_best 73 = .ok (.iaload, 1) := by decide +kernel
theorem dX3_best_74 : decode cX3_best 74 = .ok (.istore_n 3, 1) := by decide +kernel
theorem dX3_best_75 : decode cX3_best 75 = .ok (.iinc 4 1, 3) := by decide +kernel
theorem dX3_best_78 : decode cX3_best 78 = .ok (.goto (-64), 3) := by decide +kernel
theorem dX3_best_81 : decode cX3_best 81 = .ok (.iload_n 2, 1) := by decide +kernel
theorem dX3_best_82 : decode cX3_best 82 = .ok (.ireturn, 1) := by decide +kernel
theorem dX3_harvestOf_0 : decode cX3_harvestOf 0 = .ok (.iload_n 1, 1) := by decide +kernel
theorem dX3_harvestOf_1 : decode cX3_harvestOf 1 = .ok (.ifCond .lt 17, 3) := by decide +kernel
theorem dX3_harvestOf_4 : decode cX3_harvestOf 4 = .ok (.iload_n 1, 1) := by decide +kernel
theorem dX3_harvestOf_5 : decode cX3_harvestOf 5 = .ok (.iconst 4, 1) := by decide +kernel
theorem dX3_harvestOf_6 : decode cX3_harvestOf 6 = .ok (.if_icmp .ge 12, 3) := by decide +kernel
theorem dX3_harvestOf_9 : decode cX3_harvestOf 9 = .ok (.aload_n 0, 1) := by decide +kernel
theorem dX3_harvestOf_10 : decode cX3_harvestOf 10 = .ok (.getfield 11, 3) := by decide +kernel
theorem dX3_harvestOf_13 : decode cX3_harvestOf 13 = .ok (.iload_n 1, 1) := by decide +kernel
theorem dX3_harvestOf_14 : decode cX3_harvestOf 14 = .ok (.aaload, 1) := by decide +kernel
theorem dX3_harvestOf_15 : decode cX3_harvestOf 15 = .ok (.goto 4, 3) := by decide +kernel
theorem dX3_harvestOf_18 : decode cX3_harvestOf 18 = .ok (.aconst_null, 1) := by decide +kernel
theorem dX3_harvestOf_19 : decode cX3_harvestOf 19 = .ok (.astore_n 2, 1) := by decide +kernel
theorem dX3_harvestOf_20 : decode cX3_harvestOf 20 = .ok (.aload_n 2, 1) := by decide +kernel
theorem dX3_harvestOf_21 : decode cX3_harvestOf 21 = .ok (.ifnonnull 13, 3) := by decide +kernel
theorem dX3_harvestOf_24 : decode cX3_harvestOf 24 = .ok (.new 121, 3) := by decide +kernel
theorem dX3_harvestOf_27 : decode cX3_harvestOf 27 = .ok (.dup, 1) := by decide +kernel
theorem dX3_harvestOf_28 : decode cX3_harvestOf 28 = .ok (.ldc 123, 2) := by decide +kernel
theorem dX3_harvestOf_30 : decode cX3_harvestOf 30 = .ok (.invokespecial 125, 3) := by decide +kernel
theorem dX3_harvestOf_33 : decode cX3_harvestOf 33 = .ok (.athrow, 1) := by decide +kernel
theorem dX3_harvestOf_34 : decode cX3_harvestOf 34 = .ok (.aload_n 2, 1) := by decide +kernel
theorem dX3_harvestOf_35 : decode cX3_harvestOf 35 = .ok (.areturn, 1) := by decide +kernel
set_option maxRecDepth 20000 in
theorem ggX3_refuseRecord_X3_refuseOutside : GoodIn wsX3_refuseRecord wsX3_refuseOutside := goodIn_ca (goodIn_r _ [4, 5, 6] (by decide +kernel) (by decide +kernel)) (goodIn_sub (fun _ h => List.mem_cons_of_mem _ (List.mem_append_right _ h)) (by decide +kernel))
set_option maxRecDepth 20000 in
theorem gX3_refuseRecord_X3_refuseOutside : GoodIn wsX3_refuseRecord (va_wsS RX3 24 yX3_refuseOutside wsX3_refuseOutside) := goodIn_app (goodIn_of _ (by decide +kernel)) ggX3_refuseRecord_X3_refuseOutside
theorem dX3_refuseRecord_0 : decode cX3_refuseRecord 0 = .ok (.iload_n 0, 1) := by decide +kernel
theorem dX3_refuseRecord_1 : decode cX3_refuseRecord 1 = .ok (.iconst 0, 1) := by decide +kernel
theorem dX3_refuseRecord_2 : decode cX3_refuseRecord 2 = .ok (.bipush 19, 2) := by decide +kernel
theorem dX3_refuseRecord_4 : decode cX3_refuseRecord 4 = .ok (.invokestatic 24, 3) := by decide +kernel
theorem dX3_refuseRecord_7 : decode cX3_refuseRecord 7 = .ok (.return_, 1) := by decide +kernel
theorem dX3_refuseOutside_0 : decode cX3_refuseOutside 0 = .ok (.iload_n 0, 1) := by decide +kernel
theorem dX3_refuseOutside_1 : decode cX3_refuseOutside 1 = .ok (.iload_n 1, 1) := by decide +kernel
theorem dX3_refuseOutside_2 : decode cX3_refuseOutside 2 = .ok (.if_icmp .lt 8, 3) := by decide +kernel
theorem dX3_refuseOutside_5 : decode cX3_refuseOutside 5 = .ok (.iload_n 0, 1) := by decide +kernel
theorem dX3_refuseOutside_6 : decode cX3_refuseOutside 6 = .ok (.iload_n 2, 1) := by decide +kernel
theorem dX3_refuseOutside_7 : decode cX3_refuseOutside 7 = .ok (.if_icmp .le 13, 3) := by decide +kernel
theorem dX3_refuseOutside_10 : decode cX3_refuseOutside 10 = .ok (.new 121, 3) := by decide +kernel
theorem dX3_refuseOutside_13 : decode cX3_refuseOutside 13 = .ok (.dup, 1) := by decide +kernel
theorem dX3_refuseOutside_14 : decode cX3_refuseOutside 14 = .ok (.ldc 126, 2) := by decide +kernel
theorem dX3_refuseOutside_16 : decode cX3_refuseOutside 16 = .ok (.invokespecial 125, 3) := by decide +kernel
theorem dX3_refuseOutside_19 : decode cX3_refuseOutside 19 = .ok (.athrow, 1) := by decide +kernel
theorem dX3_refuseOutside_20 : decode cX3_refuseOutside 20 = .ok (.return_, 1) := by decide +kernel
theorem dX4_init_0 : decode cX4_init 0 = .ok (.aload_n 0, 1) := by decide +kernel
theorem dX4_init_1 : decode cX4_init 1 = .ok (.invokespecial 1, 3) := by decide +kernel
theorem dX4_init_4 : decode cX4_init 4 = .ok (.aload_n 0, 1) := by decide +kernel
theorem dX4_init_5 : decode cX4_init 5 = .ok (.iconst 4, 1) := by decide +kernel
theorem dX4_init_6 : decode cX4_init 6 = .ok (.newarray .int, 2) := by decide +kernel
theorem dX4_init_8 : decode cX4_init 8 = .ok (.putfield 7, 3) := by decide +kernel
theorem dX4_init_11 : decode cX4_init 11 = .ok (.aload_n 0, 1) := by decide +kernel
theorem dX4_init_12 : decode cX4_init 12 = .ok (.iconst 4, 1) := by decide +kernel
theorem dX4_init_13 : decode cX4_init 13 = .ok (.newarray .int, 2) := by decide +kernel
theorem dX4_init_15 : decode cX4_init 15 = .ok (.putfield 13, 3) := by decide +kernel
theorem dX4_init_18 : decode cX4_init 18 = .ok (.aload_n 0, 1) := by decide +kernel
theorem dX4_init_19 : decode cX4_init 19 = .ok (.bipush 80, 2) := by decide +kernel
theorem dX4_init_21 : decode cX4_init 21 = .ok (.newarray .int, 2) := by decide +kernel
theorem dX4_init_23 : decode cX4_init 23 = .ok (.putfield 16, 3) := by decide +kernel
theorem dX4_init_26 : decode cX4_init 26 = .ok (.aload_n 0, 1) := by decide +kernel
theorem dX4_init_27 : decode cX4_init 27 = .ok (.bipush 80, 2) := by decide +kernel
theorem dX4_init_29 : decode cX4_init 29 = .ok (.newarray .int, 2) := by decide +kernel
theorem dX4_init_31 : decode cX4_init 31 = .ok (.putfield 19, 3) := by decide +kernel
theorem dX4_init_34 : decode cX4_init 34 = .ok (.aload_n 0, 1) := by decide +kernel
theorem dX4_init_35 : decode cX4_init 35 = .ok (.bipush 80, 2) := by decide +kernel
theorem dX4_init_37 : decode cX4_init 37 = .ok (.newarray .int, 2) := by decide +kernel
theorem dX4_init_39 : decode cX4_init 39 = .ok (.putfield 22, 3) := by decide +kernel
theorem dX4_init_42 : decode cX4_init 42 = .ok (.aload_n 0, 1) := by decide +kernel
theorem dX4_init_43 : decode cX4_init 43 = .ok (.bipush 80, 2) := by decide +kernel
theorem dX4_init_45 : decode cX4_init 45 = .ok (.newarray .int, 2) := by decide +kernel
theorem dX4_init_47 : decode cX4_init 47 = .ok (.putfield 25, 3) := by decide +kernel
theorem dX4_init_50 : decode cX4_init 50 = .ok (.aload_n 0, 1) := by decide +kernel
theorem dX4_init_51 : decode cX4_init 51 = .ok (.bipush 80, 2) := by decide +kernel
theorem dX4_init_53 : decode cX4_init 53 = .ok (.newarray .int, 2) := by decide +kernel
theorem dX4_init_55 : decode cX4_init 55 = .ok (.putfield 28, 3) := by decide +kernel
theorem dX4_init_58 : decode cX4_init 58 = .ok (.aload_n 0, 1) := by decide +kernel
theorem dX4_init_59 : decode cX4_init 59 = .ok (.iconst 4, 1) := by decide +kernel
theorem dX4_init_60 : decode cX4_init 60 = .ok (.newarray .int, 2) := by decide +kernel
theorem dX4_init_62 : decode cX4_init 62 = .ok (.putfield 31, 3) := by decide +kernel
theorem dX4_init_65 : decode cX4_init 65 = .ok (.aload_n 0, 1) := by decide +kernel
theorem dX4_init_66 : decode cX4_init 66 = .ok (.iconst 4, 1) := by decide +kernel
theorem dX4_init_67 : decode cX4_init 67 = .ok (.newarray .boolean, 2) := by decide +kernel
theorem dX4_init_69 : decode cX4_init 69 = .ok (.putfield 34, 3) := by decide +kernel
theorem dX4_init_72 : decode cX4_init 72 = .ok (.aload_n 0, 1) := by decide +kernel
theorem dX4_init_73 : decode cX4_init 73 = .ok (.iconst 4, 1) := by decide +kernel
theorem dX4_init_74 : decode cX4_init 74 = .ok (.newarray .boolean, 2) := by decide +kernel
theorem dX4_init_76 : decode cX4_init 76 = .ok (.putfield 38, 3) := by decide +kernel
theorem dX4_init_79 : decode cX4_init 79 = .ok (.aload_n 0, 1) := by decide +kernel
theorem dX4_init_80 : decode cX4_init 80 = .ok (.iconst 4, 1) := by decide +kernel
theorem dX4_init_81 : decode cX4_init 81 = .ok (.newarray .int, 2) := by decide +kernel
theorem dX4_init_83 : decode cX4_init 83 = .ok (.putfield 41, 3) := by decide +kernel
theorem dX4_init_86 : decode cX4_init 86 = .ok (.aload_n 0, 1) := by decide +kernel
theorem dX4_init_87 : decode cX4_init 87 = .ok (.iconst 4, 1) := by decide +kernel
theorem dX4_init_88 : decode cX4_init 88 = .ok (.newarray .int, 2) := by decide +kernel
theorem dX4_init_90 : decode cX4_init 90 = .ok (.putfield 44, 3) := by decide +kernel
theorem dX4_init_93 : decode cX4_init 93 = .ok (.aload_n 0, 1) := by decide +kernel
theorem dX4_init_94 : decode cX4_init 94 = .ok (.iconst 4, 1) := by decide +kernel
theorem dX4_init_95 : decode cX4_init 95 = .ok (.newarray .int, 2) := by decide +kernel
theorem dX4_init_97 : decode cX4_init 97 = .ok (.putfield 47, 3) := by decide +kernel
theorem dX4_init_100 : decode cX4_init 100 = .ok (.aload_n 0, 1) := by decide +kernel
theorem dX4_init_101 : decode cX4_init 101 = .ok (.iconst 4, 1) := by decide +kernel
theorem dX4_init_102 : decode cX4_init 102 = .ok (.newarray .int, 2) := by decide +kernel
theorem dX4_init_104 : decode cX4_init 104 = .ok (.putfield 50, 3) := by decide +kernel
theorem dX4_init_107 : decode cX4_init 107 = .ok (.aload_n 0, 1) := by decide +kernel
theorem dX4_init_108 : decode cX4_init 108 = .ok (.iconst 4, 1) := by decide +kernel
theorem dX4_init_109 : decode cX4_init 109 = .ok (.newarray .int, 2) := by decide +kernel
theorem dX4_init_111 : decode cX4_init 111 = .ok (.putfield 53, 3) := by decide +kernel
theorem dX4_init_114 : decode cX4_init 114 = .ok (.aload_n 0, 1) := by decide +kernel
theorem dX4_init_115 : decode cX4_init 115 = .ok (.bipush 80, 2) := by decide +kernel
theorem dX4_init_117 : decode cX4_init 117 = .ok (.newarray .boolean, 2) := by decide +kernel
theorem dX4_init_119 : decode cX4_init 119 = .ok (.putfield 56, 3) := by decide +kernel
theorem dX4_init_122 : decode cX4_init 122 = .ok (.aload_n 0, 1) := by decide +kernel
theorem dX4_init_123 : decode cX4_init 123 = .ok (.bipush 80, 2) := by decide +kernel
theorem dX4_init_125 : decode cX4_init 125 = .ok (.newarray .int, 2) := by decide +kernel
theorem dX4_init_127 : decode cX4_init 127 = .ok (.putfield 59, 3) := by decide +kernel
theorem dX4_init_130 : decode cX4_init 130 = .ok (.aload_n 0, 1) := by decide +kernel
theorem dX4_init_131 : decode cX4_init 131 = .ok (.bipush 80, 2) := by decide +kernel
theorem dX4_init_133 : decode cX4_init 133 = .ok (.newarray .int, 2) := by decide +kernel
theorem dX4_init_135 : decode cX4_init 135 = .ok (.putfield 62, 3) := by decide +kernel
theorem dX4_init_138 : decode cX4_init 138 = .ok (.aload_n 0, 1) := by decide +kernel
theorem dX4_init_139 : decode cX4_init 139 = .ok (.bipush 80, 2) := by decide +kernel
theorem dX4_init_141 : decode cX4_init 141 = .ok (.newarray .int, 2) := by decide +kernel
theorem dX4_init_143 : decode cX4_init 143 = .ok (.putfield 65, 3) := by decide +kernel
theorem dX4_init_146 : decode cX4_init 146 = .ok (.aload_n 0, 1) := by decide +kernel
theorem dX4_init_147 : decode cX4_init 147 = .ok (.bipush 80, 2) := by decide +kernel
theorem dX4_init_149 : decode cX4_init 149 = .ok (.newarray .boolean, 2) := by decide +kernel
theorem dX4_init_151 : decode cX4_init 151 = .ok (.putfield 68, 3) := by decide +kernel
theorem dX4_init_154 : decode cX4_init 154 = .ok (.iconst 0, 1) := by decide +kernel
theorem dX4_init_155 : decode cX4_init 155 = .ok (.istore_n 1, 1) := by decide +kernel
theorem dX4_init_156 : decode cX4_init 156 = .ok (.iload_n 1, 1) := by decide +kernel
theorem dX4_init_157 : decode cX4_init 157 = .ok (.iconst 4, 1) := by decide +kernel
theorem dX4_init_158 : decode cX4_init 158 = .ok (.if_icmp .ge 16, 3) := by decide +kernel
theorem dX4_init_161 : decode cX4_init 161 = .ok (.aload_n 0, 1) := by decide +kernel
theorem dX4_init_162 : decode cX4_init 162 = .ok (.getfield 7, 3) := by decide +kernel
theorem dX4_init_165 : decode cX4_init 165 = .ok (.iload_n 1, 1) := by decide +kernel
theorem dX4_init_166 : decode cX4_init 166 = .ok (.iconst 1, 1) := by decide +kernel
theorem dX4_init_167 : decode cX4_init 167 = .ok (.iastore, 1) := by decide +kernel
theorem dX4_init_168 : decode cX4_init 168 = .ok (.iinc 1 1, 3) := by decide +kernel
theorem dX4_init_171 : decode cX4_init 171 = .ok (.goto (-15), 3) := by decide +kernel
theorem dX4_init_174 : decode cX4_init 174 = .ok (.return_, 1) := by decide +kernel
theorem dX4_thrown_0 : decode cX4_thrown 0 = .ok (.aload_n 0, 1) := by decide +kernel
theorem dX4_thrown_1 : decode cX4_thrown 1 = .ok (.getfield 71, 3) := by decide +kernel
theorem dX4_thrown_4 : decode cX4_thrown 4 = .ok (.ireturn, 1) := by decide +kernel
theorem dX4_goes_0 : decode cX4_goes 0 = .ok (.aload_n 0, 1) := by decide +kernel
theorem dX4_goes_1 : decode cX4_goes 1 = .ok (.iload_n 1, 1) := by decide +kernel
theorem dX4_goes_2 : decode cX4_goes 2 = .ok (.putfield 71, 3) := by decide +kernel
theorem dX4_goes_5 : decode cX4_goes 5 = .ok (.iload_n 1, 1) := by decide +kernel
theorem dX4_goes_6 : decode cX4_goes 6 = .ok (.ifCond .ne 7, 3) := by decide +kernel
theorem dX4_goes_9 : decode cX4_goes 9 = .ok (.iconst 1, 1) := by decide +kernel
theorem dX4_goes_10 : decode cX4_goes 10 = .ok (.goto 4, 3) := by decide +kernel
theorem dX4_goes_13 : decode cX4_goes 13 = .ok (.iconst 0, 1) := by decide +kernel
theorem dX4_goes_14 : decode cX4_goes 14 = .ok (.ireturn, 1) := by decide +kernel
theorem dX4_isIn_0 : decode cX4_isIn 0 = .ok (.iload_n 0, 1) := by decide +kernel
theorem dX4_isIn_1 : decode cX4_isIn 1 = .ok (.iload_n 1, 1) := by decide +kernel
theorem dX4_isIn_2 : decode cX4_isIn 2 = .ok (.if_icmp .lt 12, 3) := by decide +kernel
theorem dX4_isIn_5 : decode cX4_isIn 5 = .ok (.iload_n 0, 1) := by decide +kernel
theorem dX4_isIn_6 : decode cX4_isIn 6 = .ok (.iload_n 2, 1) := by decide +kernel
theorem dX4_isIn_7 : decode cX4_isIn 7 = .ok (.if_icmp .gt 7, 3) := by decide +kernel
theorem dX4_isIn_10 : decode cX4_isIn 10 = .ok (.iconst 1, 1) := by decide +kernel
theorem dX4_isIn_11 : decode cX4_isIn 11 = .ok (.goto 4, 3) := by decide +kernel
theorem dX4_isIn_14 : decode cX4_isIn 14 = .ok (.iconst 0, 1) := by decide +kernel
theorem dX4_isIn_15 : decode cX4_isIn 15 = .ok (.ireturn, 1) := by decide +kernel
set_option maxRecDepth 20000 in
theorem ggX4_isCatalogue_X4_isIn : GoodIn wsX4_isCatalogue wsX4_isIn := goodIn_r _ [4] (by decide +kernel) (by decide +kernel)
set_option maxRecDepth 20000 in
theorem gX4_isCatalogue_X4_isIn : GoodIn wsX4_isCatalogue (va_wsS RX4 75 yX4_isIn wsX4_isIn) := goodIn_app (goodIn_of _ (by decide +kernel)) ggX4_isCatalogue_X4_isIn
theorem dX4_isCatalogue_0 : decode cX4_isCatalogue 0 = .ok (.iload_n 0, 1) := by decide +kernel
theorem dX4_isCatalogue_1 : decode cX4_isCatalogue 1 = .ok (.iconst 0, 1) := by decide +kernel
theorem dX4_isCatalogue_2 : decode cX4_isCatalogue 2 = .ok (.iconst 3, 1) := by decide +kernel
theorem dX4_isCatalogue_3 : decode cX4_isCatalogue 3 = .ok (.invokestatic 75, 3) := by decide +kernel
theorem dX4_isCatalogue_6 : decode cX4_isCatalogue 6 = .ok (.ireturn, 1) := by decide +kernel
set_option maxRecDepth 20000 in
theorem ggX4_isRecord_X4_isIn : GoodIn wsX4_isRecord wsX4_isIn := goodIn_r _ [4] (by decide +kernel) (by decide +kernel)
set_option maxRecDepth 20000 in
theorem gX4_isRecord_X4_isIn : GoodIn wsX4_isRecord (va_wsS RX4 75 yX4_isIn wsX4_isIn) := goodIn_app (goodIn_of _ (by decide +kernel)) ggX4_isRecord_X4_isIn
theorem dX4_isRecord_0 : decode cX4_isRecord 0 = .ok (.iload_n 0, 1) := by decide +kernel
theorem dX4_isRecord_1 : decode cX4_isRecord 1 = .ok (.iconst 0, 1) := by decide +kernel
theorem dX4_isRecord_2 : decode cX4_isRecord 2 = .ok (.bipush 19, 2) := by decide +kernel
theorem dX4_isRecord_4 : decode cX4_isRecord 4 = .ok (.invokestatic 75, 3) := by decide +kernel
theorem dX4_isRecord_7 : decode cX4_isRecord 7 = .ok (.ireturn, 1) := by decide +kernel
theorem dX4_stamp_0 : decode cX4_stamp 0 = .ok (.iload_n 2, 1) := by decide +kernel
theorem dX4_stamp_1 : decode cX4_stamp 1 = .ok (.iload_n 2, 1) := by decide +kernel
theorem dX4_stamp_2 : decode cX4_stamp 2 = .ok (.aload_n 0, 1) := by decide +kernel
theorem dX4_stamp_3 : decode cX4_stamp 3 = .ok (.getfield 7, 3) := by decide +kernel
theorem dX4_stamp_6 : decode cX4_stamp 6 = .ok (.iload_n 1, 1) := by decide +kernel
theorem dX4_stamp_7 : decode cX4_stamp 7 = .ok (.iaload, 1) := by decide +kernel
theorem dX4_stamp_8 : decode cX4_stamp 8 = .ok (.irem, 1) := by decide +kernel
theorem dX4_stamp_9 : decode cX4_stamp 9 = .ok (.isub, 1) := by decide +kernel
theorem dX4_stamp_10 : decode cX4_stamp 10 = .ok (.ireturn, 1) := by decide +kernel
theorem dX4_clears_0 : decode cX4_clears 0 = .ok (.bipush 20, 2) := by decide +kernel
theorem dX4_clears_2 : decode cX4_clears 2 = .ok (.iload_n 1, 1) := by decide +kernel
theorem dX4_clears_3 : decode cX4_clears 3 = .ok (.imul, 1) := by decide +kernel
theorem dX4_clears_4 : decode cX4_clears 4 = .ok (.istore_n 2, 1) := by decide +kernel
theorem dX4_clears_5 : decode cX4_clears 5 = .ok (.iload_n 2, 1) := by decide +kernel
theorem dX4_clears_6 : decode cX4_clears 6 = .ok (.bipush 20, 2) := by decide +kernel
theorem dX4_clears_8 : decode cX4_clears 8 = .ok (.iload_n 1, 1) := by decide +kernel
theorem dX4_clears_9 : decode cX4_clears 9 = .ok (.iconst 1, 1) := by decide +kernel
theorem dX4_clears_10 : decode cX4_clears 10 = .ok (.iadd, 1) := by decide +kernel
theorem dX4_clears_11 : decode cX4_clears 11 = .ok (.imul, 1) := by decide +kernel
theorem dX4_clears_12 : decode cX4_clears 12 = .ok (.if_icmp .ge 81, 3) := by decide +kernel
theorem dX4_clears_15 : decode cX4_clears 15 = .ok (.aload_n 0, 1) := by decide +kernel
theorem dX4_clears_16 : decode cX4_clears 16 = .ok (.getfield 13, 3) := by decide +kernel
theorem dX4_clears_19 : decode cX4_clears 19 = .ok (.iload_n 1, 1) := by decide +kernel
theorem dX4_clears_20 : decode cX4_clears 20 = .ok (.iaload, 1) := by decide +kernel
theorem dX4_clears_21 : decode cX4_clears 21 = .ok (.iconst 2, 1) := by decide +kernel
theorem dX4_clears_22 : decode cX4_clears 22 = .ok (.if_icmp .eq 29, 3) := by decide +kernel
theorem dX4_clears_25 : decode cX4_clears 25 = .ok (.aload_n 0, 1) := by decide +kernel
theorem dX4_clears_26 : decode cX4_clears 26 = .ok (.getfield 13, 3) := by decide +kernel
theorem dX4_clears_29 : decode cX4_clears 29 = .ok (.iload_n 1, 1) := by decide +kernel
theorem dX4_clears_30 : decode cX4_clears 30 = .ok (.iaload, 1) := by decide +kernel
theorem dX4_clears_31 : decode cX4_clears 31 = .ok (.iconst 1, 1) := by decide +kernel
theorem dX4_clears_32 : decode cX4_clears 32 = .ok (.if_icmp .ne 23, 3) := by decide +kernel
theorem dX4_clears_35 : decode cX4_clears 35 = .ok (.aload_n 0, 1) := by decide +kernel
theorem dX4_clears_36 : decode cX4_clears 36 = .ok (.getfield 79, 3) := by decide +kernel
theorem dX4_clears_39 : decode cX4_clears 39 = .ok (.aload_n 0, 1) := by decide +kernel
theorem dX4_clears_40 : decode cX4_clears 40 = .ok (.getfield 28, 3) := by decide +kernel
theorem dX4_clears_43 : decode cX4_clears 43 = .ok (.iload_n 2, 1) := by decide +kernel
theorem dX4_clears_44 : decode cX4_clears 44 = .ok (.iaload, 1) := by decide +kernel
theorem dX4_clears_45 : decode cX4_clears 45 = .ok (.isub, 1) := by decide +kernel
theorem dX4_clears_46 : decode cX4_clears 46 = .ok (.bipush 10, 2) := by decide +kernel
theorem dX4_clears_48 : decode cX4_clears 48 = .ok (.if_icmp .lt 7, 3) := by decide +kernel
theorem dX4_clears_51 : decode cX4_clears 51 = .ok (.iconst 1, 1) := by decide +kernel
theorem dX4_clears_52 : decode cX4_clears 52 = .ok (.goto 4, 3) := by decide +kernel
theorem dX4_clears_55 : decode cX4_clears 55 = .ok (.iconst 0, 1) := by decide +kernel
theorem dX4_clears_56 : decode cX4_clears 56 = .ok (.istore_n 3, 1) := by decide +kernel
theorem dX4_clears_57 : decode cX4_clears 57 = .ok (.aload_n 0, 1) := by decide +kernel
theorem dX4_clears_58 : decode cX4_clears 58 = .ok (.getfield 16, 3) := by decide +kernel
theorem dX4_clears_61 : decode cX4_clears 61 = .ok (.iload_n 2, 1) := by decide +kernel
theorem dX4_clears_62 : decode cX4_clears 62 = .ok (.aload_n 0, 1) := by decide +kernel
theorem dX4_clears_63 : decode cX4_clears 63 = .ok (.getfield 16, 3) := by decide +kernel
theorem dX4_clears_66 : decode cX4_clears 66 = .ok (.iload_n 2, 1) := by decide +kernel
theorem dX4_clears_67 : decode cX4_clears 67 = .ok (.iaload, 1) := by decide +kernel
theorem dX4_clears_68 : decode cX4_clears 68 = .ok (.iconst 2, 1) := by decide +kernel
theorem dX4_clears_69 : decode cX4_clears 69 = .ok (.if_icmp .ne 11, 3) := by decide +kernel
theorem dX4_clears_72 : decode cX4_clears 72 = .ok (.iload_n 3, 1) := by decide +kernel
theorem dX4_clears_73 : decode cX4_clears 73 = .ok (.ifCond .eq 7, 3) := by decide +kernel
theorem dX4_clears_76 : decode cX4_clears 76 = .ok (.iconst 0, 1) := by decide +kernel
theorem dX4_clears_77 : decode cX4_clears 77 = .ok (.goto 9, 3) := by decide +kernel
theorem dX4_clears_80 : decode cX4_clears 80 = .ok (.aload_n 0, 1) := by decide +kernel
theorem dX4_clears_81 : decode cX4_clears 81 = .ok (.getfield 16, 3) := by decide +kernel
theorem dX4_clears_84 : decode cX4_clears 84 = .ok (.iload_n 2, 1) := by decide +kernel
theorem dX4_clears_85 : decode cX4_clears 85 = .ok (.iaload, 1) := by decide +kernel
theorem dX4_clears_86 : decode cX4_clears 86 = .ok (.iastore, 1) := by decide +kernel
theorem dX4_clears_87 : decode cX4_clears 87 = .ok (.iinc 2 1, 3) := by decide +kernel
theorem dX4_clears_90 : decode cX4_clears 90 = .ok (.goto (-85), 3) := by decide +kernel
theorem dX4_clears_93 : decode cX4_clears 93 = .ok (.return_, 1) := by decide +kernel
set_option maxRecDepth 20000 in
theorem ggX4_setCatalogue_X4_isCatalogue : GoodIn wsX4_setCatalogue wsX4_isCatalogue := goodIn_r _ [6, 7, 8, 5, 9] (by decide +kernel) (by decide +kernel)
set_option maxRecDepth 20000 in
theorem gX4_setCatalogue_X4_isCatalogue : GoodIn wsX4_setCatalogue (va_wsS RX4 82 yX4_isCatalogue wsX4_isCatalogue) := goodIn_app (goodIn_of _ (by decide +kernel)) ggX4_setCatalogue_X4_isCatalogue
set_option maxRecDepth 20000 in
theorem ggX4_setCatalogue_X4_isIn : GoodIn wsX4_setCatalogue wsX4_isIn := goodIn_r _ [9] (by decide +kernel) (by decide +kernel)
set_option maxRecDepth 20000 in
theorem gX4_setCatalogue_X4_isIn : GoodIn wsX4_setCatalogue (va_wsS RX4 75 yX4_isIn wsX4_isIn) := goodIn_app (goodIn_of _ (by decide +kernel)) ggX4_setCatalogue_X4_isIn
set_option maxRecDepth 20000 in
theorem ggX4_setCatalogue_X4_goes : GoodIn wsX4_setCatalogue wsX4_goes := goodIn_r _ [13, 14, 22, 23, 24, 25, 26, 27, 28, 29, 30, 31, 32, 33, 34, 35, 36, 37, 38, 39, 40, 41, 42, 43] (by decide +kernel) (by decide +kernel)
set_option maxRecDepth 20000 in
theorem gX4_setCatalogue_X4_goes : GoodIn wsX4_setCatalogue (wsV RX4 86 RX4 yX4_goes wsX4_goes) := goodIn_app (goodIn_of _ (by decide +kernel)) ggX4_setCatalogue_X4_goes
set_option maxRecDepth 20000 in
theorem ggX4_setCatalogue_X4_clears : GoodIn wsX4_setCatalogue wsX4_clears := goodIn_r _ [18, 2, 19, 20, 21, 22, 23, 24, 25, 26, 27, 28, 29, 30, 31, 32, 33, 34, 35, 36, 37, 38, 39, 40, 41, 42, 43] (by decide +kernel) (by decide +kernel)
set_option maxRecDepth 20000 in
theorem gX4_setCatalogue_X4_clears : GoodIn wsX4_setCatalogue (wsV RX4 89 RX4 yX4_clears wsX4_clears) := goodIn_app (goodIn_of _ (by decide +kernel)) ggX4_setCatalogue_X4_clears
theorem dX4_setCatalogue_0 : decode cX4_setCatalogue 0 = .ok (.iload_n 1, 1) := by decide +kernel
theorem dX4_setCatalogue_1 : decode cX4_setCatalogue 1 = .ok (.invokestatic 82, 3) := by decide +kernel
theorem dX4_setCatalogue_4 : decode cX4_setCatalogue 4 = .ok (.ifCond .eq 26, 3) := by decide +kernel
theorem dX4_setCatalogue_7 : decode cX4_setCatalogue 7 = .ok (.iload_n 2, 1) := by decide +kernel
theorem dX4_setCatalogue_8 : decode cX4_setCatalogue 8 = .ok (.iconst 1, 1) := by decide +kernel
theorem dX4_setCatalogue_9 : decode cX4_setCatalogue 9 = .ok (.bipush 30, 2) := by decide +kernel
theorem dX4_setCatalogue_11 : decode cX4_setCatalogue 11 = .ok (.invokestatic 75, 3) := by decide +kernel
theorem dX4_setCatalogue_14 : decode cX4_setCatalogue 14 = .ok (.ifCond .eq 16, 3) := by decide +kernel
theorem dX4_setCatalogue_17 : decode cX4_setCatalogue 17 = .ok (.iload_n 3, 1) := by decide +kernel
theorem dX4_setCatalogue_18 : decode cX4_setCatalogue 18 = .ok (.iconst 0, 1) := by decide +kernel
theorem dX4_setCatalogue_19 : decode cX4_setCatalogue 19 = .ok (.iconst 2, 1) := by decide +kernel
theorem dX4_setCatalogue_20 : decode cX4_setCatalogue 20 = .ok (.invokestatic 75, 3) := by decide +kernel
theorem dX4_setCatalogue_23 : decode cX4_setCatalogue 23 = .ok (.ifCond .eq 7, 3) := by decide +kernel
theorem dX4_setCatalogue_26 : decode cX4_setCatalogue 26 = .ok (.iconst 1, 1) := by decide +kernel
theorem dX4_setCatalogue_27 : decode cX4_setCatalogue 27 = .ok (.goto 4, 3) := by decide +kernel
theorem dX4_setCatalogue_30 : decode cX4_setCatalogue 30 = .ok (.iconst 0, 1) := by decide +kernel
theorem dX4_setCatalogue_31 : decode cX4_setCatalogue 31 = .ok (.istore 4, 2) := by decide +kernel
theorem dX4_setCatalogue_33 : decode cX4_setCatalogue 33 = .ok (.aload_n 0, 1) := by decide +kernel
theorem dX4_setCatalogue_34 : decode cX4_setCatalogue 34 = .ok (.iload 4, 2) := by decide +kernel
theorem dX4_setCatalogue_36 : decode cX4_setCatalogue 36 = .ok (.ifCond .eq 7, 3) := by decide +kernel
theorem dX4_setCatalogue_39 : decode cX4_setCatalogue 39 = .ok (.iconst 0, 1) := by decide +kernel
theorem dX4_setCatalogue_40 : decode cX4_setCatalogue 40 = .ok (.goto 4, 3) := by decide +kernel
theorem dX4_setCatalogue_43 : decode cX4_setCatalogue 43 = .ok (.iconst 1, 1) := by decide +kernel
theorem dX4_setCatalogue_44 : decode cX4_setCatalogue 44 = .ok (.invokevirtual 86, 3) := by decide +kernel
theorem dX4_setCatalogue_47 : decode cX4_setCatalogue 47 = .ok (.ifCond .ne 5, 3) := by decide +kernel
theorem dX4_setCatalogue_50 : decode cX4_setCatalogue 50 = .ok (.iconst 0, 1) := by decide +kernel
theorem dX4_setCatalogue_51 : decode cX4_setCatalogue 51 = .ok (.ireturn, 1) := by decide +kernel
theorem dX4_setCatalogue_52 : decode cX4_setCatalogue 52 = .ok (.aload_n 0, 1) := by decide +kernel
theorem dX4_setCatalogue_53 : decode cX4_setCatalogue 53 = .ok (.getfield 7, 3) := by decide +kernel
theorem dX4_setCatalogue_56 : decode cX4_setCatalogue 56 = .ok (.iload_n 1, 1) := by decide +kernel
theorem dX4_setCatalogue_57 : decode cX4_setCatalogue 57 = .ok (.iaload, 1) := by decide +kernel
theorem dX4_setCatalogue_58 : decode cX4_setCatalogue 58 = .ok (.istore 5, 2) := by decide +kernel
theorem dX4_setCatalogue_60 : decode cX4_setCatalogue 60 = .ok (.aload_n 0, 1) := by decide +kernel
theorem dX4_setCatalogue_61 : decode cX4_setCatalogue 61 = .ok (.getfield 7, 3) := by decide +kernel
theorem dX4_setCatalogue_64 : decode cX4_setCatalogue 64 = .ok (.iload_n 1, 1) := by decide +kernel
theorem dX4_setCatalogue_65 : decode cX4_setCatalogue 65 = .ok (.iload_n 2, 1) := by decide +kernel
theorem dX4_setCatalogue_66 : decode cX4_setCatalogue 66 = .ok (.iastore, 1) := by decide +kernel
theorem dX4_setCatalogue_67 : decode cX4_setCatalogue 67 = .ok (.aload_n 0, 1) := by decide +kernel
theorem dX4_setCatalogue_68 : decode cX4_setCatalogue 68 = .ok (.getfield 13, 3) := by decide +kernel
theorem dX4_setCatalogue_71 : decode cX4_setCatalogue 71 = .ok (.iload_n 1, 1) := by decide +kernel
theorem dX4_setCatalogue_72 : decode cX4_setCatalogue 72 = .ok (.iload_n 3, 1) := by decide +kernel
theorem dX4_setCatalogue_73 : decode cX4_setCatalogue 73 = .ok (.iastore, 1) := by decide +kernel
theorem dX4_setCatalogue_74 : decode cX4_setCatalogue 74 = .ok (.aload_n 0, 1) := by decide +kernel
theorem dX4_setCatalogue_75 : decode cX4_setCatalogue 75 = .ok (.iload_n 1, 1) := by decide +kernel
theorem dX4_setCatalogue_76 : decode cX4_setCatalogue 76 = .ok (.invokevirtual 89, 3) := by decide +kernel
theorem dX4_setCatalogue_79 : decode cX4_setCatalogue 79 = .ok (.iload 5, 2) := by decide +kernel
theorem dX4_setCatalogue_81 : decode cX4_setCatalogue 81 = .ok (.ireturn, 1) := by decide +kernel
set_option maxRecDepth 20000 in
theorem ggX4_put_X4_isCatalogue : GoodIn wsX4_put wsX4_isCatalogue := goodIn_r _ [9, 10, 11, 8, 12] (by decide +kernel) (by decide +kernel)
set_option maxRecDepth 20000 in
theorem gX4_put_X4_isCatalogue : GoodIn wsX4_put (va_wsS RX4 82 yX4_isCatalogue wsX4_isCatalogue) := goodIn_app (goodIn_of _ (by decide +kernel)) ggX4_put_X4_isCatalogue
set_option maxRecDepth 20000 in
theorem ggX4_put_X4_isRecord : GoodIn wsX4_put wsX4_isRecord := goodIn_r _ [15, 10, 11, 8, 12] (by decide +kernel) (by decide +kernel)
set_option maxRecDepth 20000 in
theorem gX4_put_X4_isRecord : GoodIn wsX4_put (va_wsS RX4 93 yX4_isRecord wsX4_isRecord) := goodIn_app (goodIn_of _ (by decide +kernel)) ggX4_put_X4_isRecord
set_option maxRecDepth 20000 in
theorem ggX4_put_X4_isIn : GoodIn wsX4_put wsX4_isIn := goodIn_r _ [12] (by decide +kernel) (by decide +kernel)
set_option maxRecDepth 20000 in
theorem gX4_put_X4_isIn : GoodIn wsX4_put (va_wsS RX4 75 yX4_isIn wsX4_isIn) := goodIn_app (goodIn_of _ (by decide +kernel)) ggX4_put_X4_isIn
set_option maxRecDepth 20000 in
theorem ggX4_put_X4_goes : GoodIn wsX4_put wsX4_goes := goodIn_r _ [19, 20, 26, 27, 28, 29, 30, 31, 32, 33, 34, 35, 36, 37, 38, 39, 40, 41, 42, 43, 44, 45, 46, 47] (by decide +kernel) (by decide +kernel)
set_option maxRecDepth 20000 in
theorem gX4_put_X4_goes : GoodIn wsX4_put (wsV RX4 86 RX4 yX4_goes wsX4_goes) := goodIn_app (goodIn_of _ (by decide +kernel)) ggX4_put_X4_goes
set_option maxRecDepth 20000 in
theorem ggX4_put_X4_stamp : GoodIn wsX4_put wsX4_stamp := goodIn_r _ [24, 25, 26, 27, 28, 29, 30, 31, 32, 33, 34, 35, 36, 37, 38, 39, 40, 41, 42, 43, 44, 45, 46, 47] (by decide +kernel) (by decide +kernel)
set_option maxRecDepth 20000 in
theorem gX4_put_X4_stamp : GoodIn wsX4_put (wsV RX4 96 RX4 yX4_stamp wsX4_stamp) := goodIn_app (goodIn_of _ (by decide +kernel)) ggX4_put_X4_stamp
theorem dX4_put_0 : decode cX4_put 0 = .ok (.iload_n 1, 1) := by decide +kernel
theorem dX4_put_1 : decode cX4_put 1 = .ok (.invokestatic 82, 3) := by decide +kernel
theorem dX4_put_4 : decode cX4_put 4 = .ok (.ifCond .eq 36, 3) := by decide +kernel
theorem dX4_put_7 : decode cX4_put 7 = .ok (.iload_n 2, 1) := by decide +kernel
theorem dX4_put_8 : decode cX4_put 8 = .ok (.invokestatic 93, 3) := by decide +kernel
theorem dX4_put_11 : decode cX4_put 11 = .ok (.ifCond .eq 29, 3) := by decide +kernel
theorem dX4_put_14 : decode cX4_put 14 = .ok (.iload_n 3, 1) := by decide +kernel
theorem dX4_put_15 : decode cX4_put 15 = .ok (.iconst 0, 1) := by decide +kernel
theorem dX4_put_16 : decode cX4_put 16 = .ok (.bipush 9, 2) := by decide +kernel
theorem dX4_put_18 : decode cX4_put 18 = .ok (.invokestatic 75, 3) := by decide +kernel
theorem dX4_put_21 : decode cX4_put 21 = .ok (.ifCond .eq 19, 3) := by decide +kernel
theorem dX4_put_24 : decode cX4_put 24 = .ok (.iload 4, 2) := by decide +kernel
theorem dX4_put_26 : decode cX4_put 26 = .ok (.iconst 0, 1) := by decide +kernel
theorem dX4_put_27 : decode cX4_put 27 = .ok (.sipush 1000, 3) := by decide +kernel
theorem dX4_put_30 : decode cX4_put 30 = .ok (.invokestatic 75, 3) := by decide +kernel
theorem dX4_put_33 : decode cX4_put 33 = .ok (.ifCond .eq 7, 3) := by decide +kernel
theorem dX4_put_36 : decode cX4_put 36 = .ok (.iconst 1, 1) := by decide +kernel
theorem dX4_put_37 : decode cX4_put 37 = .ok (.goto 4, 3) := by decide +kernel
theorem dX4_put_40 : decode cX4_put 40 = .ok (.iconst 0, 1) := by decide +kernel
theorem dX4_put_41 : decode cX4_put 41 = .ok (.istore 5, 2) := by decide +kernel
theorem dX4_put_43 : decode cX4_put 43 = .ok (.aload_n 0, 1) := by decide +kernel
theorem dX4_put_44 : decode cX4_put 44 = .ok (.iload 5, 2) := by decide +kernel
theorem dX4_put_46 : decode cX4_put 46 = .ok (.ifCond .eq 7, 3) := by decide +kernel
theorem dX4_put_49 : decode cX4_put 49 = .ok (.iconst 0, 1) := by decide +kernel
theorem dX4_put_50 : decode cX4_put 50 = .ok (.goto 4, 3) := by decide +kernel
theorem dX4_put_53 : decode cX4_put 53 = .ok (.iconst 1, 1) := by decide +kernel
theorem dX4_put_54 : decode cX4_put 54 = .ok (.invokevirtual 86, 3) := by decide +kernel
theorem dX4_put_57 : decode cX4_put 57 = .ok (.ifCond .ne 5, 3) := by decide +kernel
theorem dX4_put_60 : decode cX4_put 60 = .ok (.iconst 0, 1) := by decide +kernel
theorem dX4_put_61 : decode cX4_put 61 = .ok (.ireturn, 1) := by decide +kernel
theorem dX4_put_62 : decode cX4_put 62 = .ok (.bipush 20, 2) := by decide +kernel
theorem dX4_put_64 : decode cX4_put 64 = .ok (.iload_n 1, 1) := by decide +kernel
theorem dX4_put_65 : decode cX4_put 65 = .ok (.imul, 1) := by decide +kernel
theorem dX4_put_66 : decode cX4_put 66 = .ok (.iload_n 2, 1) := by decide +kernel
theorem dX4_put_67 : decode cX4_put 67 = .ok (.iadd, 1) := by decide +kernel
theorem dX4_put_68 : decode cX4_put 68 = .ok (.istore 6, 2) := by decide +kernel
theorem dX4_put_70 : decode cX4_put 70 = .ok (.aload_n 0, 1) := by decide +kernel
theorem dX4_put_71 : decode cX4_put 71 = .ok (.getfield 16, 3) := by decide +kernel
theorem dX4_put_74 : decode cX4_put 74 = .ok (.iload 6, 2) := by decide +kernel
theorem dX4_put_76 : decode cX4_put 76 = .ok (.iconst 1, 1) := by decide +kernel
theorem dX4_put_77 : decode cX4_put 77 = .ok (.iastore, 1) := by decide +kernel
theorem dX4_put_78 : decode cX4_put 78 = .ok (.aload_n 0, 1) := by decide +kernel
theorem dX4_put_79 : decode cX4_put 79 = .ok (.getfield 19, 3) := by decide +kernel
theorem dX4_put_82 : decode cX4_put 82 = .ok (.iload 6, 2) := by decide +kernel
theorem dX4_put_84 : decode cX4_put 84 = .ok (.iload_n 3, 1) := by decide +kernel
theorem dX4_put_85 : decode cX4_put 85 = .ok (.iastore, 1) := by decide +kernel
theorem dX4_put_86 : decode cX4_put 86 = .ok (.aload_n 0, 1) := by decide +kernel
theorem dX4_put_87 : decode cX4_put 87 = .ok (.getfield 22, 3) := by decide +kernel
theorem dX4_put_90 : decode cX4_put 90 = .ok (.iload 6, 2) := by decide +kernel
theorem dX4_put_92 : decode cX4_put 92 = .ok (.iload 4, 2) := by decide +kernel
theorem dX4_put_94 : decode cX4_put 94 = .ok (.iastore, 1) := by decide +kernel
theorem dX4_put_95 : decode cX4_put 95 = .ok (.aload_n 0, 1) := by decide +kernel
theorem dX4_put_96 : decode cX4_put 96 = .ok (.getfield 25, 3) := by decide +kernel
theorem dX4_put_99 : decode cX4_put 99 = .ok (.iload 6, 2) := by decide +kernel
theorem dX4_put_101 : decode cX4_put 101 = .ok (.aload_n 0, 1) := by decide +kernel
theorem dX4_put_102 : decode cX4_put 102 = .ok (.iload_n 1, 1) := by decide +kernel
theorem dX4_put_103 : decode cX4_put 103 = .ok (.aload_n 0, 1) := by decide +kernel
theorem dX4_put_104 : decode cX4_put 104 = .ok (.getfield 79, 3) := by decide +kernel
theorem dX4_put_107 : decode cX4_put 107 = .ok (.invokevirtual 96, 3) := by decide +kernel
theorem dX4_put_110 : decode cX4_put 110 = .ok (.iastore, 1) := by decide +kernel
theorem dX4_put_111 : decode cX4_put 111 = .ok (.aload_n 0, 1) := by decide +kernel
theorem dX4_put_112 : decode cX4_put 112 = .ok (.getfield 25, 3) := by decide +kernel
theorem dX4_put_115 : decode cX4_put 115 = .ok (.iload 6, 2) := by decide +kernel
theorem dX4_put_117 : decode cX4_put 117 = .ok (.iaload, 1) := by decide +kernel
theorem dX4_put_118 : decode cX4_put 118 = .ok (.ireturn, 1) := by decide +kernel
set_option maxRecDepth 20000 in
theorem ggX4_remove_X4_isCatalogue : GoodIn wsX4_remove wsX4_isCatalogue := goodIn_r _ [9, 10, 11, 8, 12] (by decide +kernel) (by decide +kernel)
set_option maxRecDepth 20000 in
theorem gX4_remove_X4_isCatalogue : GoodIn wsX4_remove (va_wsS RX4 82 yX4_isCatalogue wsX4_isCatalogue) := goodIn_app (goodIn_of _ (by decide +kernel)) ggX4_remove_X4_isCatalogue
set_option maxRecDepth 20000 in
theorem ggX4_remove_X4_isRecord : GoodIn wsX4_remove wsX4_isRecord := goodIn_r _ [15, 10, 11, 8, 12] (by decide +kernel) (by decide +kernel)
set_option maxRecDepth 20000 in
theorem gX4_remove_X4_isRecord : GoodIn wsX4_remove (va_wsS RX4 93 yX4_isRecord wsX4_isRecord) := goodIn_app (goodIn_of _ (by decide +kernel)) ggX4_remove_X4_isRecord
set_option maxRecDepth 20000 in
theorem ggX4_remove_X4_goes : GoodIn wsX4_remove wsX4_goes := goodIn_r _ [19, 20, 26, 27, 28, 29, 30, 31, 32, 33, 34, 35, 36, 37, 38, 39, 40, 41, 42, 43, 44, 45, 46, 47] (by decide +kernel) (by decide +kernel)
set_option maxRecDepth 20000 in
theorem gX4_remove_X4_goes : GoodIn wsX4_remove (wsV RX4 86 RX4 yX4_goes wsX4_goes) := goodIn_app (goodIn_of _ (by decide +kernel)) ggX4_remove_X4_goes
set_option maxRecDepth 20000 in
theorem ggX4_remove_X4_stamp : GoodIn wsX4_remove wsX4_stamp := goodIn_r _ [24, 25, 26, 27, 28, 29, 30, 31, 32, 33, 34, 35, 36, 37, 38, 39, 40, 41, 42, 43, 44, 45, 46, 47] (by decide +kernel) (by decide +kernel)
set_option maxRecDepth 20000 in
theorem gX4_remove_X4_stamp : GoodIn wsX4_remove (wsV RX4 96 RX4 yX4_stamp wsX4_stamp) := goodIn_app (goodIn_of _ (by decide +kernel)) ggX4_remove_X4_stamp
theorem dX4_remove_0 : decode cX4_remove 0 = .ok (.iload_n 1, 1) := by decide +kernel
theorem dX4_remove_1 : decode cX4_remove 1 = .ok (.invokestatic 82, 3) := by decide +kernel
theorem dX4_remove_4 : decode cX4_remove 4 = .ok (.ifCond .eq 14, 3) := by decide +kernel
theorem dX4_remove_7 : decode cX4_remove 7 = .ok (.iload_n 2, 1) := by decide +kernel
theorem dX4_remove_8 : decode cX4_remove 8 = .ok (.invokestatic 93, 3) := by decide +kernel
theorem dX4_remove_11 : decode cX4_remove 11 = .ok (.ifCond .eq 7, 3) := by decide +kernel
theorem dX4_remove_14 : decode cX4_remove 14 = .ok (.iconst 1, 1) := by decide +kernel
theorem dX4_remove_15 : decode cX4_remove 15 = .ok (.goto 4, 3) := by decide +kernel
theorem dX4_remove_18 : decode cX4_remove 18 = .ok (.iconst 0, 1) := by decide +kernel
theorem dX4_remove_19 : decode cX4_remove 19 = .ok (.istore_n 3, 1) := by decide +kernel
theorem dX4_remove_20 : decode cX4_remove 20 = .ok (.aload_n 0, 1) := by decide +kernel
theorem dX4_remove_21 : decode cX4_remove 21 = .ok (.iload_n 3, 1) := by decide +kernel
theorem dX4_remove_22 : decode cX4_remove 22 = .ok (.ifCond .ne 7, 3) := by decide +kernel
theorem dX4_remove_25 : decode cX4_remove 25 = .ok (.iconst 1, 1) := by decide +kernel
theorem dX4_remove_26 : decode cX4_remove 26 = .ok (.goto 23, 3) := by decide +kernel
theorem dX4_remove_29 : decode cX4_remove 29 = .ok (.aload_n 0, 1) := by decide +kernel
theorem dX4_remove_30 : decode cX4_remove 30 = .ok (.getfield 16, 3) := by decide +kernel
theorem dX4_remove_33 : decode cX4_remove 33 = .ok (.bipush 20, 2) := by decide +kernel
theorem dX4_remove_35 : decode cX4_remove 35 = .ok (.iload_n 1, 1) := by decide +kernel
theorem dX4_remove_36 : decode cX4_remove 36 = .ok (.imul, 1) := by decide +kernel
theorem dX4_remove_37 : decode cX4_remove 37 = .ok (.iload_n 2, 1) := by decide +kernel
theorem dX4_remove_38 : decode cX4_remove 38 = .ok (.iadd, 1) := by decide +kernel
theorem dX4_remove_39 : decode cX4_remove 39 = .ok (.iaload, 1) := by decide +kernel
theorem dX4_remove_40 : decode cX4_remove 40 = .ok (.iconst 1, 1) := by decide +kernel
theorem dX4_remove_41 : decode cX4_remove 41 = .ok (.if_icmp .ne 7, 3) := by decide +kernel
theorem dX4_remove_44 : decode cX4_remove 44 = .ok (.iconst 0, 1) := by decide +kernel
theorem dX4_remove_45 : decode cX4_remove 45 = .ok (.goto 4, 3) := by decide +kernel
theorem dX4_remove_48 : decode cX4_remove 48 = .ok (.iconst 2, 1) := by decide +kernel
theorem dX4_remove_49 : decode cX4_remove 49 = .ok (.invokevirtual 86, 3) := by decide +kernel
theorem dX4_remove_52 : decode cX4_remove 52 = .ok (.ifCond .ne 5, 3) := by decide +kernel
theorem dX4_remove_55 : decode cX4_remove 55 = .ok (.iconst 0, 1) := by decide +kernel
theorem dX4_remove_56 : decode cX4_remove 56 = .ok (.ireturn, 1) := by decide +kernel
theorem dX4_remove_57 : decode cX4_remove 57 = .ok (.bipush 20, 2) := by decide +kernel
theorem dX4_remove_59 : decode cX4_remove 59 = .ok (.iload_n 1, 1) := by decide +kernel
theorem dX4_remove_60 : decode cX4_remove 60 = .ok (.imul, 1) := by decide +kernel
theorem dX4_remove_61 : decode cX4_remove 61 = .ok (.iload_n 2, 1) := by decide +kernel
theorem dX4_remove_62 : decode cX4_remove 62 = .ok (.iadd, 1) := by decide +kernel
theorem dX4_remove_63 : decode cX4_remove 63 = .ok (.istore 4, 2) := by decide +kernel
theorem dX4_remove_65 : decode cX4_remove 65 = .ok (.aload_n 0, 1) := by decide +kernel
theorem dX4_remove_66 : decode cX4_remove 66 = .ok (.getfield 16, 3) := by decide +kernel
theorem dX4_remove_69 : decode cX4_remove 69 = .ok (.iload 4, 2) := by decide +kernel
theorem dX4_remove_71 : decode cX4_remove 71 = .ok (.aload_n 0, 1) := by decide +kernel
theorem dX4_remove_72 : decode cX4_remove 72 = .ok (.getfield 13, 3) := by decide +kernel
theorem dX4_remove_75 : decode cX4_remove 75 = .ok (.iload_n 1, 1) := by decide +kernel
theorem dX4_remove_76 : decode cX4_remove 76 = .ok (.iaload, 1) := by decide +kernel
theorem dX4_remove_77 : decode cX4_remove 77 = .ok (.iconst 2, 1) := by decide +kernel
theorem dX4_remove_78 : decode cX4_remove 78 = .ok (.if_icmp .ne 7, 3) := by decide +kernel
theorem dX4_remove_81 : decode cX4_remove 81 = .ok (.iconst 0, 1) := by decide +kernel
theorem dX4_remove_82 : decode cX4_remove 82 = .ok (.goto 4, 3) := by decide +kernel
theorem dX4_remove_85 : decode cX4_remove 85 = .ok (.iconst 2, 1) := by decide +kernel
theorem dX4_remove_86 : decode cX4_remove 86 = .ok (.iastore, 1) := by decide +kernel
theorem dX4_remove_87 : decode cX4_remove 87 = .ok (.aload_n 0, 1) := by decide +kernel
theorem dX4_remove_88 : decode cX4_remove 88 = .ok (.getfield 25, 3) := by decide +kernel
theorem dX4_remove_91 : decode cX4_remove 91 = .ok (.iload 4, 2) := by decide +kernel
theorem dX4_remove_93 : decode cX4_remove 93 = .ok (.aload_n 0, 1) := by decide +kernel
theorem dX4_remove_94 : decode cX4_remove 94 = .ok (.iload_n 1, 1) := by decide +kernel
theorem dX4_remove_95 : decode cX4_remove 95 = .ok (.aload_n 0, 1) := by decide +kernel
theorem dX4_remove_96 : decode cX4_remove 96 = .ok (.getfield 79, 3) := by decide +kernel
theorem dX4_remove_99 : decode cX4_remove 99 = .ok (.invokevirtual 96, 3) := by decide +kernel
theorem dX4_remove_102 : decode cX4_remove 102 = .ok (.iastore, 1) := by decide +kernel
theorem dX4_remove_103 : decode cX4_remove 103 = .ok (.aload_n 0, 1) := by decide +kernel
theorem dX4_remove_104 : decode cX4_remove 104 = .ok (.getfield 28, 3) := by decide +kernel
theorem dX4_remove_107 : decode cX4_remove 107 = .ok (.iload 4, 2) := by decide +kernel
theorem dX4_remove_109 : decode cX4_remove 109 = .ok (.aload_n 0, 1) := by decide +kernel
theorem dX4_remove_110 : decode cX4_remove 110 = .ok (.getfield 79, 3) := by decide +kernel
theorem dX4_remove_113 : decode cX4_remove 113 = .ok (.iastore, 1) := by decide +kernel
theorem dX4_remove_114 : decode cX4_remove 114 = .ok (.aload_n 0, 1) := by decide +kernel
theorem dX4_remove_115 : decode cX4_remove 115 = .ok (.getfield 16, 3) := by decide +kernel
theorem dX4_remove_118 : decode cX4_remove 118 = .ok (.iload 4, 2) := by decide +kernel
theorem dX4_remove_120 : decode cX4_remove 120 = .ok (.iaload, 1) := by decide +kernel
theorem dX4_remove_121 : decode cX4_remove 121 = .ok (.iconst 2, 1) := by decide +kernel
theorem dX4_remove_122 : decode cX4_remove 122 = .ok (.if_icmp .ne 7, 3) := by decide +kernel
theorem dX4_remove_125 : decode cX4_remove 125 = .ok (.iconst 1, 1) := by decide +kernel
theorem dX4_remove_126 : decode cX4_remove 126 = .ok (.goto 4, 3) := by decide +kernel
theorem dX4_remove_129 : decode cX4_remove 129 = .ok (.iconst 0, 1) := by decide +kernel
theorem dX4_remove_130 : decode cX4_remove 130 = .ok (.ireturn, 1) := by decide +kernel
set_option maxRecDepth 20000 in
theorem ggX4_pass_X4_isIn : GoodIn wsX4_pass wsX4_isIn := goodIn_r _ [5] (by decide +kernel) (by decide +kernel)
set_option maxRecDepth 20000 in
theorem gX4_pass_X4_isIn : GoodIn wsX4_pass (va_wsS RX4 75 yX4_isIn wsX4_isIn) := goodIn_app (goodIn_of _ (by decide +kernel)) ggX4_pass_X4_isIn
set_option maxRecDepth 20000 in
theorem ggX4_pass_X4_goes : GoodIn wsX4_pass wsX4_goes := goodIn_r _ [9, 10, 18, 19, 20, 21, 22, 23, 24, 25, 26, 27, 28, 29, 30, 31, 32, 33, 34, 35, 36, 37, 38, 39] (by decide +kernel) (by decide +kernel)
set_option maxRecDepth 20000 in
theorem gX4_pass_X4_goes : GoodIn wsX4_pass (wsV RX4 86 RX4 yX4_goes wsX4_goes) := goodIn_app (goodIn_of _ (by decide +kernel)) ggX4_pass_X4_goes
set_option maxRecDepth 20000 in
theorem ggX4_pass_X4_clears : GoodIn wsX4_pass wsX4_clears := goodIn_r _ [14, 15, 1, 16, 17, 18, 19, 20, 21, 22, 23, 24, 25, 26, 27, 28, 29, 30, 31, 32, 33, 34, 35, 36, 37, 38, 39] (by decide +kernel) (by decide +kernel)
set_option maxRecDepth 20000 in
theorem gX4_pass_X4_clears : GoodIn wsX4_pass (wsV RX4 89 RX4 yX4_clears wsX4_clears) := goodIn_app (goodIn_of _ (by decide +kernel)) ggX4_pass_X4_clears
theorem dX4_pass_0 : decode cX4_pass 0 = .ok (.aload_n 0, 1) := by decide +kernel
theorem dX4_pass_1 : decode cX4_pass 1 = .ok (.iload_n 1, 1) := by decide +kernel
theorem dX4_pass_2 : decode cX4_pass 2 = .ok (.iconst 1, 1) := by decide +kernel
theorem dX4_pass_3 : decode cX4_pass 3 = .ok (.bipush 100, 2) := by decide +kernel
theorem dX4_pass_5 : decode cX4_pass 5 = .ok (.invokestatic 75, 3) := by decide +kernel
theorem dX4_pass_8 : decode cX4_pass 8 = .ok (.ifCond .ne 7, 3) := by decide +kernel
theorem dX4_pass_11 : decode cX4_pass 11 = .ok (.iconst 1, 1) := by decide +kernel
theorem dX4_pass_12 : decode cX4_pass 12 = .ok (.goto 20, 3) := by decide +kernel
theorem dX4_pass_15 : decode cX4_pass 15 = .ok (.aload_n 0, 1) := by decide +kernel
theorem dX4_pass_16 : decode cX4_pass 16 = .ok (.getfield 79, 3) := by decide +kernel
theorem dX4_pass_19 : decode cX4_pass 19 = .ok (.iload_n 1, 1) := by decide +kernel
theorem dX4_pass_20 : decode cX4_pass 20 = .ok (.iadd, 1) := by decide +kernel
theorem dX4_pass_21 : decode cX4_pass 21 = .ok (.sipush 5000, 3) := by decide +kernel
theorem dX4_pass_24 : decode cX4_pass 24 = .ok (.if_icmp .le 7, 3) := by decide +kernel
theorem dX4_pass_27 : decode cX4_pass 27 = .ok (.iconst 2, 1) := by decide +kernel
theorem dX4_pass_28 : decode cX4_pass 28 = .ok (.goto 4, 3) := by decide +kernel
theorem dX4_pass_31 : decode cX4_pass 31 = .ok (.iconst 0, 1) := by decide +kernel
theorem dX4_pass_32 : decode cX4_pass 32 = .ok (.invokevirtual 86, 3) := by decide +kernel
theorem dX4_pass_35 : decode cX4_pass 35 = .ok (.ifCond .ne 5, 3) := by decide +kernel
theorem dX4_pass_38 : decode cX4_pass 38 = .ok (.iconst 0, 1) := by decide +kernel
theorem dX4_pass_39 : decode cX4_pass 39 = .ok (.ireturn, 1) := by decide +kernel
theorem dX4_pass_40 : decode cX4_pass 40 = .ok (.aload_n 0, 1) := by decide +kernel
theorem dX4_pass_41 : decode cX4_pass 41 = .ok (.dup, 1) := by decide +kernel
theorem dX4_pass_42 : decode cX4_pass 42 = .ok (.getfield 79, 3) := by decide +kernel
theorem dX4_pass_45 : decode cX4_pass 45 = .ok (.iload_n 1, 1) := by decide +kernel
theorem dX4_pass_46 : decode cX4_pass 46 = .ok (.iadd, 1) := by decide +kernel
theorem dX4_pass_47 : decode cX4_pass 47 = .ok (.putfield 79, 3) := by decide +kernel
theorem dX4_pass_50 : decode cX4_pass 50 = .ok (.iconst 0, 1) := by decide +kernel
theorem dX4_pass_51 : decode cX4_pass 51 = .ok (.istore_n 2, 1) := by decide +kernel
theorem dX4_pass_52 : decode cX4_pass 52 = .ok (.iload_n 2, 1) := by decide +kernel
theorem dX4_pass_53 : decode cX4_pass 53 = .ok (.iconst 4, 1) := by decide +kernel
theorem dX4_pass_54 : decode cX4_pass 54 = .ok (.if_icmp .ge 14, 3) := by decide +kernel
theorem dX4_pass_57 : decode cX4_pass 57 = .ok (.aload_n 0, 1) := by decide +kernel
theorem dX4_pass_58 : decode cX4_pass 58 = .ok (.iload_n 2, 1) := by decide +kernel
theorem dX4_pass_59 : decode cX4_pass 59 = .ok (.invokevirtual 89, 3) := by decide +kernel
theorem dX4_pass_62 : decode cX4_pass 62 = .ok (.iinc 2 1, 3) := by decide +kernel
theorem dX4_pass_65 : decode cX4_pass 65 = .ok (.goto (-13), 3) := by decide +kernel
theorem dX4_pass_68 : decode cX4_pass 68 = .ok (.aload_n 0, 1) := by decide +kernel
theorem dX4_pass_69 : decode cX4_pass 69 = .ok (.getfield 79, 3) := by decide +kernel
theorem dX4_pass_72 : decode cX4_pass 72 = .ok (.ireturn, 1) := by decide +kernel
theorem dX4_today_0 : decode cX4_today 0 = .ok (.aload_n 0, 1) := by decide +kernel
theorem dX4_today_1 : decode cX4_today 1 = .ok (.iconst 0, 1) := by decide +kernel
theorem dX4_today_2 : decode cX4_today 2 = .ok (.putfield 71, 3) := by decide +kernel
theorem dX4_today_5 : decode cX4_today 5 = .ok (.aload_n 0, 1) := by decide +kernel
theorem dX4_today_6 : decode cX4_today 6 = .ok (.getfield 79, 3) := by decide +kernel
theorem dX4_today_9 : decode cX4_today 9 = .ok (.ireturn, 1) := by decide +kernel
theorem dX4_count_0 : decode cX4_count 0 = .ok (.iconst 0, 1) := by decide +kernel
theorem dX4_count_1 : decode cX4_count 1 = .ok (.istore_n 3, 1) := by decide +kernel
theorem dX4_count_2 : decode cX4_count 2 = .ok (.bipush 20, 2) := by decide +kernel
theorem dX4_count_4 : decode cX4_count 4 = .ok (.iload_n 1, 1) := by decide +kernel
theorem dX4_count_5 : decode cX4_count 5 = .ok (.imul, 1) := by decide +kernel
theorem dX4_count_6 : decode cX4_count 6 = .ok (.istore 4, 2) := by decide +kernel
theorem dX4_count_8 : decode cX4_count 8 = .ok (.iload 4, 2) := by decide +kernel
theorem dX4_count_10 : decode cX4_count 10 = .ok (.bipush 20, 2) := by decide +kernel
theorem dX4_count_12 : decode cX4_count 12 = .ok (.iload_n 1, 1) := by decide +kernel
theorem dX4_count_13 : decode cX4_count 13 = .ok (.iconst 1, 1) := by decide +kernel
theorem dX4_count_14 : decode cX4_count 14 = .ok (.iadd, 1) := by decide +kernel
theorem dX4_count_15 : decode cX4_count 15 = .ok (.imul, 1) := by decide +kernel
theorem dX4_count_16 : decode cX4_count 16 = .ok (.if_icmp .ge 28, 3) := by decide +kernel
theorem dX4_count_19 : decode cX4_count 19 = .ok (.iload_n 3, 1) := by decide +kernel
theorem dX4_count_20 : decode cX4_count 20 = .ok (.aload_n 0, 1) := by decide +kernel
theorem dX4_count_21 : decode cX4_count 21 = .ok (.getfield 16, 3) := by decide +kernel
theorem dX4_count_24 : decode cX4_count 24 = .ok (.iload 4, 2) := by decide +kernel
theorem dX4_count_26 : decode cX4_count 26 = .ok (.iaload, 1) := by decide +kernel
theorem dX4_count_27 : decode cX4_count 27 = .ok (.iload_n 2, 1) := by decide +kernel
theorem dX4_count_28 : decode cX4_count 28 = .ok (.if_icmp .ne 7, 3) := by decide +kernel
theorem dX4_count_31 : decode cX4_count 31 = .ok (.iconst 1, 1) := by decide +kernel
theorem dX4_count_32 : decode cX4_count 32 = .ok (.goto 4, 3) := by decide +kernel
theorem dX4_count_35 : decode cX4_count 35 = .ok (.iconst 0, 1) := by decide +kernel
theorem dX4_count_36 : decode cX4_count 36 = .ok (.iadd, 1) := by decide +kernel
theorem dX4_count_37 : decode cX4_count 37 = .ok (.istore_n 3, 1) := by decide +kernel
theorem dX4_count_38 : decode cX4_count 38 = .ok (.iinc 4 1, 3) := by decide +kernel
theorem dX4_count_41 : decode cX4_count 41 = .ok (.goto (-33), 3) := by decide +kernel
theorem dX4_count_44 : decode cX4_count 44 = .ok (.iload_n 3, 1) := by decide +kernel
theorem dX4_count_45 : decode cX4_count 45 = .ok (.ireturn, 1) := by decide +kernel
set_option maxRecDepth 20000 in
theorem ggX4_asks_X4_isCatalogue : GoodIn wsX4_asks wsX4_isCatalogue := goodIn_r _ [4, 5, 6, 3, 7] (by decide +kernel) (by decide +kernel)
set_option maxRecDepth 20000 in
theorem gX4_asks_X4_isCatalogue : GoodIn wsX4_asks (va_wsS RX4 82 yX4_isCatalogue wsX4_isCatalogue) := goodIn_app (goodIn_of _ (by decide +kernel)) ggX4_asks_X4_isCatalogue
set_option maxRecDepth 20000 in
theorem ggX4_asks_X4_goes : GoodIn wsX4_asks wsX4_goes := goodIn_r _ [11, 12, 13, 14, 15, 16, 17, 18, 19, 20, 21, 22, 23, 24, 25, 26, 27, 28, 29, 30, 31, 32, 33, 34] (by decide +kernel) (by decide +kernel)
set_option maxRecDepth 20000 in
theorem gX4_asks_X4_goes : GoodIn wsX4_asks (wsV RX4 86 RX4 yX4_goes wsX4_goes) := goodIn_app (goodIn_of _ (by decide +kernel)) ggX4_asks_X4_goes
theorem dX4_asks_0 : decode cX4_asks 0 = .ok (.aload_n 0, 1) := by decide +kernel
theorem dX4_asks_1 : decode cX4_asks 1 = .ok (.iload_n 1, 1) := by decide +kernel
theorem dX4_asks_2 : decode cX4_asks 2 = .ok (.invokestatic 82, 3) := by decide +kernel
theorem dX4_asks_5 : decode cX4_asks 5 = .ok (.ifCond .eq 7, 3) := by decide +kernel
theorem dX4_asks_8 : decode cX4_asks 8 = .ok (.iconst 0, 1) := by decide +kernel
theorem dX4_asks_9 : decode cX4_asks 9 = .ok (.goto 4, 3) := by decide +kernel
theorem dX4_asks_12 : decode cX4_asks 12 = .ok (.iconst 1, 1) := by decide +kernel
theorem dX4_asks_13 : decode cX4_asks 13 = .ok (.invokevirtual 86, 3) := by decide +kernel
theorem dX4_asks_16 : decode cX4_asks 16 = .ok (.ireturn, 1) := by decide +kernel
set_option maxRecDepth 20000 in
theorem ggX4_far_X4_asks : GoodIn wsX4_far wsX4_asks := goodIn_r _ [5, 6, 7, 4, 8, 9, 10, 11, 12, 13, 14, 15, 16, 22, 23, 24, 25, 26, 27, 28, 29, 30, 31, 32, 33, 34, 35, 36, 37, 38, 39, 40, 41, 42, 43] (by decide +kernel) (by decide +kernel)
set_option maxRecDepth 20000 in
theorem gX4_far_X4_asks : GoodIn wsX4_far (wsV RX4 100 RX4 yX4_asks wsX4_asks) := goodIn_app (goodIn_of _ (by decide +kernel)) ggX4_far_X4_asks
set_option maxRecDepth 20000 in
theorem ggX4_far_X4_count : GoodIn wsX4_far wsX4_count := goodIn_r _ [20, 21, 22, 23, 24, 25, 26, 27, 28, 29, 30, 31, 32, 33, 34, 35, 36, 37, 38, 39, 40, 41, 42, 43] (by decide +kernel) (by decide +kernel)
set_option maxRecDepth 20000 in
theorem gX4_far_X4_count : GoodIn wsX4_far (wsV RX4 103 RX4 yX4_count wsX4_count) := goodIn_app (goodIn_of _ (by decide +kernel)) ggX4_far_X4_count
theorem dX4_far_0 : decode cX4_far 0 = .ok (.aload_n 0, 1) := by decide +kernel
theorem dX4_far_1 : decode cX4_far 1 = .ok (.iload_n 1, 1) := by decide +kernel
theorem dX4_far_2 : decode cX4_far 2 = .ok (.invokevirtual 100, 3) := by decide +kernel
theorem dX4_far_5 : decode cX4_far 5 = .ok (.ifCond .eq 12, 3) := by decide +kernel
theorem dX4_far_8 : decode cX4_far 8 = .ok (.aload_n 0, 1) := by decide +kernel
theorem dX4_far_9 : decode cX4_far 9 = .ok (.iload_n 1, 1) := by decide +kernel
theorem dX4_far_10 : decode cX4_far 10 = .ok (.iconst 1, 1) := by decide +kernel
theorem dX4_far_11 : decode cX4_far 11 = .ok (.invokevirtual 103, 3) := by decide +kernel
theorem dX4_far_14 : decode cX4_far 14 = .ok (.goto 4, 3) := by decide +kernel
theorem dX4_far_17 : decode cX4_far 17 = .ok (.iconst 0, 1) := by decide +kernel
theorem dX4_far_18 : decode cX4_far 18 = .ok (.ireturn, 1) := by decide +kernel
set_option maxRecDepth 20000 in
theorem ggX4_told_X4_asks : GoodIn wsX4_told wsX4_asks := goodIn_r _ [5, 6, 7, 4, 8, 9, 10, 11, 12, 13, 14, 15, 16, 22, 23, 24, 25, 26, 27, 28, 29, 30, 31, 32, 33, 34, 35, 36, 37, 38, 39, 40, 41, 42, 43] (by decide +kernel) (by decide +kernel)
set_option maxRecDepth 20000 in
theorem gX4_told_X4_asks : GoodIn wsX4_told (wsV RX4 100 RX4 yX4_asks wsX4_asks) := goodIn_app (goodIn_of _ (by decide +kernel)) ggX4_told_X4_asks
set_option maxRecDepth 20000 in
theorem ggX4_told_X4_count : GoodIn wsX4_told wsX4_count := goodIn_r _ [20, 21, 22, 23, 24, 25, 26, 27, 28, 29, 30, 31, 32, 33, 34, 35, 36, 37, 38, 39, 40, 41, 42, 43] (by decide +kernel) (by decide +kernel)
set_option maxRecDepth 20000 in
theorem gX4_told_X4_count : GoodIn wsX4_told (wsV RX4 103 RX4 yX4_count wsX4_count) := goodIn_app (goodIn_of _ (by decide +kernel)) ggX4_told_X4_count
theorem dX4_told_0 : decode cX4_told 0 = .ok (.aload_n 0, 1) := by decide +kernel
theorem dX4_told_1 : decode cX4_told 1 = .ok (.iload_n 1, 1) := by decide +kernel
theorem dX4_told_2 : decode cX4_told 2 = .ok (.invokevirtual 100, 3) := by decide +kernel
theorem dX4_told_5 : decode cX4_told 5 = .ok (.ifCond .eq 12, 3) := by decide +kernel
theorem dX4_told_8 : decode cX4_told 8 = .ok (.aload_n 0, 1) := by decide +kernel
theorem dX4_told_9 : decode cX4_told 9 = .ok (.iload_n 1, 1) := by decide +kernel
theorem dX4_told_10 : decode cX4_told 10 = .ok (.iconst 2, 1) := by decide +kernel
theorem dX4_told_11 : decode cX4_told 11 = .ok (.invokevirtual 103, 3) := by decide +kernel
theorem dX4_told_14 : decode cX4_told 14 = .ok (.goto 4, 3) := by decide +kernel
theorem dX4_told_17 : decode cX4_told 17 = .ok (.iconst 0, 1) := by decide +kernel
theorem dX4_told_18 : decode cX4_told 18 = .ok (.ireturn, 1) := by decide +kernel
theorem dX4_begins_0 : decode cX4_begins 0 = .ok (.aload_n 0, 1) := by decide +kernel
theorem dX4_begins_1 : decode cX4_begins 1 = .ok (.getfield 44, 3) := by decide +kernel
theorem dX4_begins_4 : decode cX4_begins 4 = .ok (.iload_n 1, 1) := by decide +kernel
theorem dX4_begins_5 : decode cX4_begins 5 = .ok (.aload_n 0, 1) := by decide +kernel
theorem dX4_begins_6 : decode cX4_begins 6 = .ok (.getfield 79, 3) := by decide +kernel
theorem dX4_begins_9 : decode cX4_begins 9 = .ok (.iastore, 1) := by decide +kernel
theorem dX4_begins_10 : decode cX4_begins 10 = .ok (.aload_n 0, 1) := by decide +kernel
theorem dX4_begins_11 : decode cX4_begins 11 = .ok (.getfield 47, 3) := by decide +kernel
theorem dX4_begins_14 : decode cX4_begins 14 = .ok (.iload_n 1, 1) := by decide +kernel
theorem dX4_begins_15 : decode cX4_begins 15 = .ok (.aload_n 0, 1) := by decide +kernel
theorem dX4_begins_16 : decode cX4_begins 16 = .ok (.getfield 79, 3) := by decide +kernel
theorem dX4_begins_19 : decode cX4_begins 19 = .ok (.iastore, 1) := by decide +kernel
theorem dX4_begins_20 : decode cX4_begins 20 = .ok (.aload_n 0, 1) := by decide +kernel
theorem dX4_begins_21 : decode cX4_begins 21 = .ok (.getfield 50, 3) := by decide +kernel
theorem dX4_begins_24 : decode cX4_begins 24 = .ok (.iload_n 1, 1) := by decide +kernel
theorem dX4_begins_25 : decode cX4_begins 25 = .ok (.iconst (-1), 1) := by decide +kernel
theorem dX4_begins_26 : decode cX4_begins 26 = .ok (.iastore, 1) := by decide +kernel
theorem dX4_begins_27 : decode cX4_begins 27 = .ok (.aload_n 0, 1) := by decide +kernel
theorem dX4_begins_28 : decode cX4_begins 28 = .ok (.getfield 53, 3) := by decide +kernel
theorem dX4_begins_31 : decode cX4_begins 31 = .ok (.iload_n 1, 1) := by decide +kernel
theorem dX4_begins_32 : decode cX4_begins 32 = .ok (.iconst (-1), 1) := by decide +kernel
theorem dX4_begins_33 : decode cX4_begins 33 = .ok (.iastore, 1) := by decide +kernel
theorem dX4_begins_34 : decode cX4_begins 34 = .ok (.bipush 20, 2) := by decide +kernel
theorem dX4_begins_36 : decode cX4_begins 36 = .ok (.iload_n 1, 1) := by decide +kernel
theorem dX4_begins_37 : decode cX4_begins 37 = .ok (.imul, 1) := by decide +kernel
theorem dX4_begins_38 : decode cX4_begins 38 = .ok (.istore_n 2, 1) := by decide +kernel
theorem dX4_begins_39 : decode cX4_begins 39 = .ok (.iload_n 2, 1) := by decide +kernel
theorem dX4_begins_40 : decode cX4_begins 40 = .ok (.bipush 20, 2) := by decide +kernel
theorem dX4_begins_42 : decode cX4_begins 42 = .ok (.iload_n 1, 1) := by decide +kernel
theorem dX4_begins_43 : decode cX4_begins 43 = .ok (.iconst 1, 1) := by decide +kernel
theorem dX4_begins_44 : decode cX4_begins 44 = .ok (.iadd, 1) := by decide +kernel
theorem dX4_begins_45 : decode cX4_begins 45 = .ok (.imul, 1) := by decide +kernel
theorem dX4_begins_46 : decode cX4_begins 46 = .ok (.if_icmp .ge 16, 3) := by decide +kernel
theorem dX4_begins_49 : decode cX4_begins 49 = .ok (.aload_n 0, 1) := by decide +kernel
theorem dX4_begins_50 : decode cX4_begins 50 = .ok (.getfield 68, 3) := by decide +kernel
theorem dX4_begins_53 : decode cX4_begins 53 = .ok (.iload_n 2, 1) := by decide +kernel
theorem dX4_begins_54 : decode cX4_begins 54 = .ok (.iconst 0, 1) := by decide +kernel
theorem dX4_begins_55 : decode cX4_begins 55 = .ok (.bastore, 1) := by decide +kernel
theorem dX4_begins_56 : decode cX4_begins 56 = .ok (.iinc 2 1, 3) := by decide +kernel
theorem dX4_begins_59 : decode cX4_begins 59 = .ok (.goto (-20), 3) := by decide +kernel
theorem dX4_begins_62 : decode cX4_begins 62 = .ok (.return_, 1) := by decide +kernel
set_option maxRecDepth 20000 in
theorem ggX4_open_X4_asks : GoodIn wsX4_open wsX4_asks := goodIn_r _ [9, 10, 11, 8, 12, 13, 14, 15, 16, 17, 18, 19, 20, 31, 32, 33, 34, 35, 36, 37, 38, 39, 40, 41, 42, 43, 44, 45, 46, 47, 48, 49, 50, 51, 52] (by decide +kernel) (by decide +kernel)
set_option maxRecDepth 20000 in
theorem gX4_open_X4_asks : GoodIn wsX4_open (wsV RX4 100 RX4 yX4_asks wsX4_asks) := goodIn_app (goodIn_of _ (by decide +kernel)) ggX4_open_X4_asks
set_option maxRecDepth 20000 in
theorem ggX4_open_X4_begins : GoodIn wsX4_open wsX4_begins := goodIn_r _ [24, 25, 26, 27, 28, 29, 30, 31, 32, 33, 34, 35, 36, 37, 38, 39, 40, 41, 42, 43, 44, 45, 46, 47, 48, 49, 50, 51, 52] (by decide +kernel) (by decide +kernel)
set_option maxRecDepth 20000 in
theorem gX4_open_X4_begins : GoodIn wsX4_open (wsV RX4 106 RX4 yX4_begins wsX4_begins) := goodIn_app (goodIn_of _ (by decide +kernel)) ggX4_open_X4_begins
theorem dX4_open_0 : decode cX4_open 0 = .ok (.aload_n 0, 1) := by decide +kernel
theorem dX4_open_1 : decode cX4_open 1 = .ok (.iload_n 1, 1) := by decide +kernel
theorem dX4_open_2 : decode cX4_open 2 = .ok (.invokevirtual 100, 3) := by decide +kernel
theorem dX4_open_5 : decode cX4_open 5 = .ok (.ifCond .ne 5, 3) := by decide +kernel
theorem dX4_open_8 : decode cX4_open 8 = .ok (.iconst 0, 1) := by decide +kernel
theorem dX4_open_9 : decode cX4_open 9 = .ok (.ireturn, 1) := by decide +kernel
theorem dX4_open_10 : decode cX4_open 10 = .ok (.aload_n 0, 1) := by decide +kernel
theorem dX4_open_11 : decode cX4_open 11 = .ok (.getfield 34, 3) := by decide +kernel
theorem dX4_open_14 : decode cX4_open 14 = .ok (.iload_n 1, 1) := by decide +kernel
theorem dX4_open_15 : decode cX4_open 15 = .ok (.iconst 1, 1) := by decide +kernel
theorem dX4_open_16 : decode cX4_open 16 = .ok (.bastore, 1) := by decide +kernel
theorem dX4_open_17 : decode cX4_open 17 = .ok (.aload_n 0, 1) := by decide +kernel
theorem dX4_open_18 : decode cX4_open 18 = .ok (.getfield 38, 3) := by decide +kernel
theorem dX4_open_21 : decode cX4_open 21 = .ok (.iload_n 1, 1) := by decide +kernel
theorem dX4_open_22 : decode cX4_open 22 = .ok (.iload_n 2, 1) := by decide +kernel
theorem dX4_open_23 : decode cX4_open 23 = .ok (.bastore, 1) := by decide +kernel
theorem dX4_open_24 : decode cX4_open 24 = .ok (.aload_n 0, 1) := by decide +kernel
theorem dX4_open_25 : decode cX4_open 25 = .ok (.getfield 41, 3) := by decide +kernel
theorem dX4_open_28 : decode cX4_open 28 = .ok (.iload_n 1, 1) := by decide +kernel
theorem dX4_open_29 : decode cX4_open 29 = .ok (.iload_n 2, 1) := by decide +kernel
theorem dX4_open_30 : decode cX4_open 30 = .ok (.ifCond .eq 7, 3) := by decide +kernel
theorem dX4_open_33 : decode cX4_open 33 = .ok (.iconst 0, 1) := by decide +kernel
theorem dX4_open_34 : decode cX4_open 34 = .ok (.goto 9, 3) := by decide +kernel
theorem dX4_open_37 : decode cX4_open 37 = .ok (.aload_n 0, 1) := by decide +kernel
theorem dX4_open_38 : decode cX4_open 38 = .ok (.getfield 31, 3) := by decide +kernel
theorem dX4_open_41 : decode cX4_open 41 = .ok (.iload_n 1, 1) := by decide +kernel
theorem dX4_open_42 : decode cX4_open 42 = .ok (.iaload, 1) := by decide +kernel
theorem dX4_open_43 : decode cX4_open 43 = .ok (.iastore, 1) := by decide +kernel
theorem dX4_open_44 : decode cX4_open 44 = .ok (.aload_n 0, 1) := by decide +kernel
theorem dX4_open_45 : decode cX4_open 45 = .ok (.iload_n 1, 1) := by decide +kernel
theorem dX4_open_46 : decode cX4_open 46 = .ok (.invokevirtual 106, 3) := by decide +kernel
theorem dX4_open_49 : decode cX4_open 49 = .ok (.aload_n 0, 1) := by decide +kernel
theorem dX4_open_50 : decode cX4_open 50 = .ok (.getfield 41, 3) := by decide +kernel
theorem dX4_open_53 : decode cX4_open 53 = .ok (.iload_n 1, 1) := by decide +kernel
theorem dX4_open_54 : decode cX4_open 54 = .ok (.iaload, 1) := by decide +kernel
theorem dX4_open_55 : decode cX4_open 55 = .ok (.ireturn, 1) := by decide +kernel
theorem dX4_next_0 : decode cX4_next 0 = .ok (.iconst (-1), 1) := by decide +kernel
theorem dX4_next_1 : decode cX4_next 1 = .ok (.istore_n 2, 1) := by decide +kernel
theorem dX4_next_2 : decode cX4_next 2 = .ok (.bipush 20, 2) := by decide +kernel
theorem dX4_next_4 : decode cX4_next 4 = .ok (.iload_n 1, 1) := by decide +kernel
theorem dX4_next_5 : decode cX4_next 5 = .ok (.imul, 1) := by decide +kernel
theorem dX4_next_6 : decode cX4_next 6 = .ok (.istore_n 3, 1) := by decide +kernel
theorem dX4_next_7 : decode cX4_next 7 = .ok (.iload_n 3, 1) := by decide +kernel
theorem dX4_next_8 : decode cX4_next 8 = .ok (.istore 4, 2) := by decide +kernel
theorem dX4_next_10 : decode cX4_next 10 = .ok (.iload 4, 2) := by decide +kernel
theorem dX4_next_12 : decode cX4_next 12 = .ok (.iload_n 3, 1) := by decide +kernel
theorem dX4_next_13 : decode cX4_next 13 = .ok (.bipush 20, 2) := by decide +kernel
theorem dX4_next_15 : decode cX4_next 15 = .ok (.iadd, 1) := by decide +kernel
theorem dX4_next_16 : decode cX4_next 16 = .ok (.if_icmp .ge 132, 3) := by decide +kernel
theorem dX4_next_19 : decode cX4_next 19 = .ok (.aload_n 0, 1) := by decide +kernel
theorem dX4_next_20 : decode cX4_next 20 = .ok (.getfield 25, 3) := by decide +kernel
theorem dX4_next_23 : decode cX4_next 23 = .ok (.iload 4, 2) := by decide +kernel
theorem dX4_next_25 : decode cX4_next 25 = .ok (.iaload, 1) := by decide +kernel
theorem dX4_next_26 : decode cX4_next 26 = .ok (.aload_n 0, 1) := by decide +kernel
theorem dX4_next_27 : decode cX4_next 27 = .ok (.getfield 50, 3) := by decide +kernel
theorem dX4_next_30 : decode cX4_next 30 = .ok (.iload_n 1, 1) := by decide +kernel
theorem dX4_next_31 : decode cX4_next 31 = .ok (.iaload, 1) := by decide +kernel
theorem dX4_next_32 : decode cX4_next 32 = .ok (.if_icmp .gt 32, 3) := by decide +kernel
theorem dX4_next_35 : decode cX4_next 35 = .ok (.aload_n 0, 1) := by decide +kernel
theorem dX4_next_36 : decode cX4_next 36 = .ok (.getfield 25, 3) := by decide +kernel
theorem dX4_next_39 : decode cX4_next 39 = .ok (.iload 4, 2) := by decide +kernel
theorem dX4_next_41 : decode cX4_next 41 = .ok (.iaload, 1) := by decide +kernel
theorem dX4_next_42 : decode cX4_next 42 = .ok (.aload_n 0, 1) := by decide +kernel
theorem dX4_next_43 : decode cX4_next 43 = .ok (.getfield 50, 3) := by decide +kernel
theorem dX4_next_46 : decode cX4_next 46 = .ok (.iload_n 1, 1) := by decide +kernel
theorem dX4_next_47 : decode cX4_next 47 = .ok (.iaload, 1) := by decide +kernel
theorem dX4_next_48 : decode cX4_next 48 = .ok (.if_icmp .ne 20, 3) := by decide +kernel
theorem dX4_next_51 : decode cX4_next 51 = .ok (.iload 4, 2) := by decide +kernel
theorem dX4_next_53 : decode cX4_next 53 = .ok (.iload_n 3, 1) := by decide +kernel
theorem dX4_next_54 : decode cX4_next 54 = .ok (.isub, 1) := by decide +kernel
theorem dX4_next_55 : decode cX4_next 55 = .ok (.aload_n 0, 1) := by decide +kernel
theorem dX4_next_56 : decode cX4_next 56 = .ok (.getfield 53, 3) := by decide +kernel
theorem dX4_next_59 : decode cX4_next 59 = .ok (.iload_n 1, 1) := by decide +kernel
theorem dX4_next_60 : decode cX4_next 60 = .ok (.iaload, 1) := by decide +kernel
theorem dX4_next_61 : decode cX4_next 61 = .ok (.if_icmp .le 7, 3) := by decide +kernel
theorem dX4_next_64 : decode cX4_next 64 = .ok (.iconst 1, 1) := by decide +kernel
theorem dX4_next_65 : decode cX4_next 65 = .ok (.goto 4, 3) := by decide +kernel
theorem dX4_next_68 : decode cX4_next 68 = .ok (.iconst 0, 1) := by decide +kernel
theorem dX4_next_69 : decode cX4_next 69 = .ok (.istore 5, 2) := by decide +kernel
theorem dX4_next_71 : decode cX4_next 71 = .ok (.aload_n 0, 1) := by decide +kernel
theorem dX4_next_72 : decode cX4_next 72 = .ok (.getfield 16, 3) := by decide +kernel
theorem dX4_next_75 : decode cX4_next 75 = .ok (.iload 4, 2) := by decide +kernel
theorem dX4_next_77 : decode cX4_next 77 = .ok (.iaload, 1) := by decide +kernel
theorem dX4_next_78 : decode cX4_next 78 = .ok (.ifCond .eq 28, 3) := by decide +kernel
theorem dX4_next_81 : decode cX4_next 81 = .ok (.aload_n 0, 1) := by decide +kernel
theorem dX4_next_82 : decode cX4_next 82 = .ok (.getfield 25, 3) := by decide +kernel
theorem dX4_next_85 : decode cX4_next 85 = .ok (.iload 4, 2) := by decide +kernel
theorem dX4_next_87 : decode cX4_next 87 = .ok (.iaload, 1) := by decide +kernel
theorem dX4_next_88 : decode cX4_next 88 = .ok (.aload_n 0, 1) := by decide +kernel
theorem dX4_next_89 : decode cX4_next 89 = .ok (.getfield 41, 3) := by decide +kernel
theorem dX4_next_92 : decode cX4_next 92 = .ok (.iload_n 1, 1) := by decide +kernel
theorem dX4_next_93 : decode cX4_next 93 = .ok (.iaload, 1) := by decide +kernel
theorem dX4_next_94 : decode cX4_next 94 = .ok (.if_icmp .lt 12, 3) := by decide +kernel
theorem dX4_next_97 : decode cX4_next 97 = .ok (.iload 5, 2) := by decide +kernel
theorem dX4_next_99 : decode cX4_next 99 = .ok (.ifCond .eq 7, 3) := by decide +kernel
theorem dX4_next_102 : decode cX4_next 102 = .ok (.iconst 1, 1) := by decide +kernel
theorem dX4_next_103 : decode cX4_next 103 = .ok (.goto 4, 3) := by decide +kernel
theorem dX4_next_106 : decode cX4_next 106 = .ok (.iconst 0, 1) := by decide +kernel
theorem dX4_next_107 : decode cX4_next 107 = .ok (.istore 6, 2) := by decide +kernel
theorem dX4_next_109 : decode cX4_next 109 = .ok (.iload 6, 2) := by decide +kernel
theorem dX4_next_111 : decode cX4_next 111 = .ok (.ifCond .eq 29, 3) := by decide +kernel
theorem dX4_next_114 : decode cX4_next 114 = .ok (.iload_n 2, 1) := by decide +kernel
theorem dX4_next_115 : decode cX4_next 115 = .ok (.iconst (-1), 1) := by decide +kernel
theorem dX4_next_116 : decode cX4_next 116 = .ok (.if_icmp .eq 19, 3) := by decide +kernel
theorem dX4_next_119 : decode cX4_next 119 = .ok (.aload_n 0, 1) := by decide +kernel
theorem dX4_next_120 : decode cX4_next 120 = .ok (.getfield 25, 3) := by decide +kernel
theorem dX4_next_123 : decode cX4_next 123 = .ok (.iload 4, 2) := by decide +kernel
theorem dX4_next_125 : decode cX4_next 125 = .ok (.iaload, 1) := by decide +kernel
theorem dX4_next_126 : decode cX4_next 126 = .ok (.aload_n 0, 1) := by decide +kernel
theorem dX4_next_127 : decode cX4_next 127 = .ok (.getfield 25, 3) := by decide +kernel
theorem dX4_next_130 : decode cX4_next 130 = .ok (.iload_n 2, 1) := by decide +kernel
theorem dX4_next_131 : decode cX4_next 131 = .ok (.iaload, 1) := by decide +kernel
theorem dX4_next_132 : decode cX4_next 132 = .ok (.if_icmp .ge 8, 3) := by decide +kernel
theorem dX4_next_135 : decode cX4_next 135 = .ok (.iload 4, 2) := by decide +kernel
theorem dX4_next_137 : decode cX4_next 137 = .ok (.goto 4, 3) := by decide +kernel
theorem dX4_next_140 : decode cX4_next 140 = .ok (.iload_n 2, 1) := by decide +kernel
theorem dX4_next_141 : decode cX4_next 141 = .ok (.istore_n 2, 1) := by decide +kernel
theorem dX4_next_142 : decode cX4_next 142 = .ok (.iinc 4 1, 3) := by decide +kernel
theorem dX4_next_145 : decode cX4_next 145 = .ok (.goto (-135), 3) := by decide +kernel
theorem dX4_next_148 : decode cX4_next 148 = .ok (.iload_n 2, 1) := by decide +kernel
theorem dX4_next_149 : decode cX4_next 149 = .ok (.ireturn, 1) := by decide +kernel
theorem dX4_takes_0 : decode cX4_takes 0 = .ok (.aload_n 0, 1) := by decide +kernel
theorem dX4_takes_1 : decode cX4_takes 1 = .ok (.getfield 56, 3) := by decide +kernel
theorem dX4_takes_4 : decode cX4_takes 4 = .ok (.iload_n 2, 1) := by decide +kernel
theorem dX4_takes_5 : decode cX4_takes 5 = .ok (.aload_n 0, 1) := by decide +kernel
theorem dX4_takes_6 : decode cX4_takes 6 = .ok (.getfield 16, 3) := by decide +kernel
theorem dX4_takes_9 : decode cX4_takes 9 = .ok (.iload_n 2, 1) := by decide +kernel
theorem dX4_takes_10 : decode cX4_takes 10 = .ok (.iaload, 1) := by decide +kernel
theorem dX4_takes_11 : decode cX4_takes 11 = .ok (.iconst 1, 1) := by decide +kernel
theorem dX4_takes_12 : decode cX4_takes 12 = .ok (.if_icmp .ne 7, 3) := by decide +kernel
theorem dX4_takes_15 : decode cX4_takes 15 = .ok (.iconst 1, 1) := by decide +kernel
theorem dX4_takes_16 : decode cX4_takes 16 = .ok (.goto 4, 3) := by decide +kernel
theorem dX4_takes_19 : decode cX4_takes 19 = .ok (.iconst 0, 1) := by decide +kernel
theorem dX4_takes_20 : decode cX4_takes 20 = .ok (.bastore, 1) := by decide +kernel
theorem dX4_takes_21 : decode cX4_takes 21 = .ok (.aload_n 0, 1) := by decide +kernel
theorem dX4_takes_22 : decode cX4_takes 22 = .ok (.getfield 59, 3) := by decide +kernel
theorem dX4_takes_25 : decode cX4_takes 25 = .ok (.iload_n 2, 1) := by decide +kernel
theorem dX4_takes_26 : decode cX4_takes 26 = .ok (.aload_n 0, 1) := by decide +kernel
theorem dX4_takes_27 : decode cX4_takes 27 = .ok (.getfield 19, 3) := by decide +kernel
theorem dX4_takes_30 : decode cX4_takes 30 = .ok (.iload_n 2, 1) := by decide +kernel
theorem dX4_takes_31 : decode cX4_takes 31 = .ok (.iaload, 1) := by decide +kernel
theorem dX4_takes_32 : decode cX4_takes 32 = .ok (.iastore, 1) := by decide +kernel
theorem dX4_takes_33 : decode cX4_takes 33 = .ok (.aload_n 0, 1) := by decide +kernel
theorem dX4_takes_34 : decode cX4_takes 34 = .ok (.getfield 62, 3) := by decide +kernel
theorem dX4_takes_37 : decode cX4_takes 37 = .ok (.iload_n 2, 1) := by decide +kernel
theorem dX4_takes_38 : decode cX4_takes 38 = .ok (.aload_n 0, 1) := by decide +kernel
theorem dX4_takes_39 : decode cX4_takes 39 = .ok (.getfield 22, 3) := by decide +kernel
theorem dX4_takes_42 : decode cX4_takes 42 = .ok (.iload_n 2, 1) := by decide +kernel
theorem dX4_takes_43 : decode cX4_takes 43 = .ok (.iaload, 1) := by decide +kernel
theorem dX4_takes_44 : decode cX4_takes 44 = .ok (.iastore, 1) := by decide +kernel
theorem dX4_takes_45 : decode cX4_takes 45 = .ok (.aload_n 0, 1) := by decide +kernel
theorem dX4_takes_46 : decode cX4_takes 46 = .ok (.getfield 65, 3) := by decide +kernel
theorem dX4_takes_49 : decode cX4_takes 49 = .ok (.iload_n 2, 1) := by decide +kernel
theorem dX4_takes_50 : decode cX4_takes 50 = .ok (.aload_n 0, 1) := by decide +kernel
theorem dX4_takes_51 : decode cX4_takes 51 = .ok (.getfield 25, 3) := by decide +kernel
theorem dX4_takes_54 : decode cX4_takes 54 = .ok (.iload_n 2, 1) := by decide +kernel
theorem dX4_takes_55 : decode cX4_takes 55 = .ok (.iaload, 1) := by decide +kernel
theorem dX4_takes_56 : decode cX4_takes 56 = .ok (.iastore, 1) := by decide +kernel
theorem dX4_takes_57 : decode cX4_takes 57 = .ok (.aload_n 0, 1) := by decide +kernel
theorem dX4_takes_58 : decode cX4_takes 58 = .ok (.getfield 68, 3) := by decide +kernel
theorem dX4_takes_61 : decode cX4_takes 61 = .ok (.iload_n 2, 1) := by decide +kernel
theorem dX4_takes_62 : decode cX4_takes 62 = .ok (.iconst 1, 1) := by decide +kernel
theorem dX4_takes_63 : decode cX4_takes 63 = .ok (.bastore, 1) := by decide +kernel
theorem dX4_takes_64 : decode cX4_takes 64 = .ok (.aload_n 0, 1) := by decide +kernel
theorem dX4_takes_65 : decode cX4_takes 65 = .ok (.getfield 50, 3) := by decide +kernel
theorem dX4_takes_68 : decode cX4_takes 68 = .ok (.iload_n 1, 1) := by decide +kernel
theorem dX4_takes_69 : decode cX4_takes 69 = .ok (.aload_n 0, 1) := by decide +kernel
theorem dX4_takes_70 : decode cX4_takes 70 = .ok (.getfield 25, 3) := by decide +kernel
theorem dX4_takes_73 : decode cX4_takes 73 = .ok (.iload_n 2, 1) := by decide +kernel
theorem dX4_takes_74 : decode cX4_takes 74 = .ok (.iaload, 1) := by decide +kernel
theorem dX4_takes_75 : decode cX4_takes 75 = .ok (.iastore, 1) := by decide +kernel
theorem dX4_takes_76 : decode cX4_takes 76 = .ok (.aload_n 0, 1) := by decide +kernel
theorem dX4_takes_77 : decode cX4_takes 77 = .ok (.getfield 53, 3) := by decide +kernel
theorem dX4_takes_80 : decode cX4_takes 80 = .ok (.iload_n 1, 1) := by decide +kernel
theorem dX4_takes_81 : decode cX4_takes 81 = .ok (.iload_n 2, 1) := by decide +kernel
theorem dX4_takes_82 : decode cX4_takes 82 = .ok (.bipush 20, 2) := by decide +kernel
theorem dX4_takes_84 : decode cX4_takes 84 = .ok (.iload_n 1, 1) := by decide +kernel
theorem dX4_takes_85 : decode cX4_takes 85 = .ok (.imul, 1) := by decide +kernel
theorem dX4_takes_86 : decode cX4_takes 86 = .ok (.isub, 1) := by decide +kernel
theorem dX4_takes_87 : decode cX4_takes 87 = .ok (.iastore, 1) := by decide +kernel
theorem dX4_takes_88 : decode cX4_takes 88 = .ok (.return_, 1) := by decide +kernel
set_option maxRecDepth 20000 in
theorem ggX4_read_X4_isCatalogue : GoodIn wsX4_read wsX4_isCatalogue := goodIn_r _ [12, 13, 14, 11, 15] (by decide +kernel) (by decide +kernel)
set_option maxRecDepth 20000 in
theorem gX4_read_X4_isCatalogue : GoodIn wsX4_read (va_wsS RX4 82 yX4_isCatalogue wsX4_isCatalogue) := goodIn_app (goodIn_of _ (by decide +kernel)) ggX4_read_X4_isCatalogue
set_option maxRecDepth 20000 in
theorem ggX4_read_X4_goes : GoodIn wsX4_read wsX4_goes := goodIn_r _ [19, 20, 48, 49, 50, 51, 52, 53, 54, 55, 56, 57, 58, 59, 60, 61, 62, 63, 64, 65, 66, 67, 68, 69] (by decide +kernel) (by decide +kernel)
set_option maxRecDepth 20000 in
theorem gX4_read_X4_goes : GoodIn wsX4_read (wsV RX4 86 RX4 yX4_goes wsX4_goes) := goodIn_app (goodIn_of _ (by decide +kernel)) ggX4_read_X4_goes
set_option maxRecDepth 20000 in
theorem ggX4_read_X4_begins : GoodIn wsX4_read wsX4_begins := goodIn_r _ [24, 5, 2, 3, 25, 26, 7, 48, 49, 50, 51, 52, 53, 54, 55, 56, 57, 58, 59, 60, 61, 62, 63, 64, 65, 66, 67, 68, 69] (by decide +kernel) (by decide +kernel)
set_option maxRecDepth 20000 in
theorem gX4_read_X4_begins : GoodIn wsX4_read (wsV RX4 106 RX4 yX4_begins wsX4_begins) := goodIn_app (goodIn_of _ (by decide +kernel)) ggX4_read_X4_begins
set_option maxRecDepth 20000 in
theorem ggX4_read_X4_next : GoodIn wsX4_read wsX4_next := goodIn_r _ [30, 31, 25, 26, 32, 33, 48, 49, 50, 51, 52, 53, 54, 55, 56, 57, 58, 59, 60, 61, 62, 63, 64, 65, 66, 67, 68, 69] (by decide +kernel) (by decide +kernel)
set_option maxRecDepth 20000 in
theorem gX4_read_X4_next : GoodIn wsX4_read (wsV RX4 109 RX4 yX4_next wsX4_next) := goodIn_app (goodIn_of _ (by decide +kernel)) ggX4_read_X4_next
set_option maxRecDepth 20000 in
theorem ggX4_read_X4_takes : GoodIn wsX4_read wsX4_takes := goodIn_r _ [37, 6, 32, 38, 39, 40, 41, 42, 31, 7, 25, 26, 48, 49, 50, 51, 52, 53, 54, 55, 56, 57, 58, 59, 60, 61, 62, 63, 64, 65, 66, 67, 68, 69] (by decide +kernel) (by decide +kernel)
set_option maxRecDepth 20000 in
theorem gX4_read_X4_takes : GoodIn wsX4_read (wsV RX4 113 RX4 yX4_takes wsX4_takes) := goodIn_app (goodIn_of _ (by decide +kernel)) ggX4_read_X4_takes
set_option maxRecDepth 20000 in
theorem ggX4_read_X4_stamp : GoodIn wsX4_read wsX4_stamp := goodIn_r _ [46, 47, 48, 49, 50, 51, 52, 53, 54, 55, 56, 57, 58, 59, 60, 61, 62, 63, 64, 65, 66, 67, 68, 69] (by decide +kernel) (by decide +kernel)
set_option maxRecDepth 20000 in
theorem gX4_read_X4_stamp : GoodIn wsX4_read (wsV RX4 96 RX4 yX4_stamp wsX4_stamp) := goodIn_app (goodIn_of _ (by decide +kernel)) ggX4_read_X4_stamp
theorem dX4_read_0 : decode cX4_read 0 = .ok (.aload_n 0, 1) := by decide +kernel
theorem dX4_read_1 : decode cX4_read 1 = .ok (.iload_n 1, 1) := by decide +kernel
theorem dX4_read_2 : decode cX4_read 2 = .ok (.invokestatic 82, 3) := by decide +kernel
theorem dX4_read_5 : decode cX4_read 5 = .ok (.ifCond .ne 7, 3) := by decide +kernel
theorem dX4_read_8 : decode cX4_read 8 = .ok (.iconst 1, 1) := by decide +kernel
theorem dX4_read_9 : decode cX4_read 9 = .ok (.goto 17, 3) := by decide +kernel
theorem dX4_read_12 : decode cX4_read 12 = .ok (.aload_n 0, 1) := by decide +kernel
theorem dX4_read_13 : decode cX4_read 13 = .ok (.getfield 34, 3) := by decide +kernel
theorem dX4_read_16 : decode cX4_read 16 = .ok (.iload_n 1, 1) := by decide +kernel
theorem dX4_read_17 : decode cX4_read 17 = .ok (.baload, 1) := by decide +kernel
theorem dX4_read_18 : decode cX4_read 18 = .ok (.ifCond .eq 7, 3) := by decide +kernel
theorem dX4_read_21 : decode cX4_read 21 = .ok (.iconst 0, 1) := by decide +kernel
theorem dX4_read_22 : decode cX4_read 22 = .ok (.goto 4, 3) := by decide +kernel
theorem dX4_read_25 : decode cX4_read 25 = .ok (.iconst 2, 1) := by decide +kernel
theorem dX4_read_26 : decode cX4_read 26 = .ok (.invokevirtual 86, 3) := by decide +kernel
theorem dX4_read_29 : decode cX4_read 29 = .ok (.ifCond .ne 5, 3) := by decide +kernel
theorem dX4_read_32 : decode cX4_read 32 = .ok (.iconst 0, 1) := by decide +kernel
theorem dX4_read_33 : decode cX4_read 33 = .ok (.ireturn, 1) := by decide +kernel
theorem dX4_read_34 : decode cX4_read 34 = .ok (.aload_n 0, 1) := by decide +kernel
theorem dX4_read_35 : decode cX4_read 35 = .ok (.getfield 79, 3) := by decide +kernel
theorem dX4_read_38 : decode cX4_read 38 = .ok (.aload_n 0, 1) := by decide +kernel
theorem dX4_read_39 : decode cX4_read 39 = .ok (.getfield 47, 3) := by decide +kernel
theorem dX4_read_42 : decode cX4_read 42 = .ok (.iload_n 1, 1) := by decide +kernel
theorem dX4_read_43 : decode cX4_read 43 = .ok (.iaload, 1) := by decide +kernel
theorem dX4_read_44 : decode cX4_read 44 = .ok (.isub, 1) := by decide +kernel
theorem dX4_read_45 : decode cX4_read 45 = .ok (.iconst 5, 1) := by decide +kernel
theorem dX4_read_46 : decode cX4_read 46 = .ok (.if_icmp .le 8, 3) := by decide +kernel
theorem dX4_read_49 : decode cX4_read 49 = .ok (.aload_n 0, 1) := by decide +kernel
theorem dX4_read_50 : decode cX4_read 50 = .ok (.iload_n 1, 1) := by decide +kernel
theorem dX4_read_51 : decode cX4_read 51 = .ok (.invokevirtual 106, 3) := by decide +kernel
theorem dX4_read_54 : decode cX4_read 54 = .ok (.aload_n 0, 1) := by decide +kernel
theorem dX4_read_55 : decode cX4_read 55 = .ok (.getfield 47, 3) := by decide +kernel
theorem dX4_read_58 : decode cX4_read 58 = .ok (.iload_n 1, 1) := by decide +kernel
theorem dX4_read_59 : decode cX4_read 59 = .ok (.aload_n 0, 1) := by decide +kernel
theorem dX4_read_60 : decode cX4_read 60 = .ok (.getfield 79, 3) := by decide +kernel
theorem dX4_read_63 : decode cX4_read 63 = .ok (.iastore, 1) := by decide +kernel
theorem dX4_read_64 : decode cX4_read 64 = .ok (.iconst 0, 1) := by decide +kernel
theorem dX4_read_65 : decode cX4_read 65 = .ok (.istore_n 2, 1) := by decide +kernel
theorem dX4_read_66 : decode cX4_read 66 = .ok (.aload_n 0, 1) := by decide +kernel
theorem dX4_read_67 : decode cX4_read 67 = .ok (.iload_n 1, 1) := by decide +kernel
theorem dX4_read_68 : decode cX4_read 68 = .ok (.invokevirtual 109, 3) := by decide +kernel
theorem dX4_read_71 : decode cX4_read 71 = .ok (.istore_n 3, 1) := by decide +kernel
theorem dX4_read_72 : decode cX4_read 72 = .ok (.iload_n 3, 1) := by decide +kernel
theorem dX4_read_73 : decode cX4_read 73 = .ok (.iconst (-1), 1) := by decide +kernel
theorem dX4_read_74 : decode cX4_read 74 = .ok (.if_icmp .eq 26, 3) := by decide +kernel
theorem dX4_read_77 : decode cX4_read 77 = .ok (.iload_n 2, 1) := by decide +kernel
theorem dX4_read_78 : decode cX4_read 78 = .ok (.iconst 3, 1) := by decide +kernel
theorem dX4_read_79 : decode cX4_read 79 = .ok (.if_icmp .ge 21, 3) := by decide +kernel
theorem dX4_read_82 : decode cX4_read 82 = .ok (.aload_n 0, 1) := by decide +kernel
theorem dX4_read_83 : decode cX4_read 83 = .ok (.iload_n 1, 1) := by decide +kernel
theorem dX4_read_84 : decode cX4_read 84 = .ok (.iload_n 3, 1) := by decide +kernel
theorem dX4_read_85 : decode cX4_read 85 = .ok (.invokevirtual 113, 3) := by decide +kernel
theorem dX4_read_88 : decode cX4_read 88 = .ok (.iinc 2 1, 3) := by decide +kernel
theorem dX4_read_91 : decode cX4_read 91 = .ok (.aload_n 0, 1) := by decide +kernel
theorem dX4_read_92 : decode cX4_read 92 = .ok (.iload_n 1, 1) := by decide +kernel
theorem dX4_read_93 : decode cX4_read 93 = .ok (.invokevirtual 109, 3) := by decide +kernel
theorem dX4_read_96 : decode cX4_read 96 = .ok (.istore_n 3, 1) := by decide +kernel
theorem dX4_read_97 : decode cX4_read 97 = .ok (.goto (-25), 3) := by decide +kernel
theorem dX4_read_100 : decode cX4_read 100 = .ok (.aload_n 0, 1) := by decide +kernel
theorem dX4_read_101 : decode cX4_read 101 = .ok (.iload_n 1, 1) := by decide +kernel
theorem dX4_read_102 : decode cX4_read 102 = .ok (.invokevirtual 109, 3) := by decide +kernel
theorem dX4_read_105 : decode cX4_read 105 = .ok (.iconst (-1), 1) := by decide +kernel
theorem dX4_read_106 : decode cX4_read 106 = .ok (.if_icmp .ne 86, 3) := by decide +kernel
theorem dX4_read_109 : decode cX4_read 109 = .ok (.aload_n 0, 1) := by decide +kernel
theorem dX4_read_110 : decode cX4_read 110 = .ok (.getfield 34, 3) := by decide +kernel
theorem dX4_read_113 : decode cX4_read 113 = .ok (.iload_n 1, 1) := by decide +kernel
theorem dX4_read_114 : decode cX4_read 114 = .ok (.iconst 0, 1) := by decide +kernel
theorem dX4_read_115 : decode cX4_read 115 = .ok (.bastore, 1) := by decide +kernel
theorem dX4_read_116 : decode cX4_read 116 = .ok (.aload_n 0, 1) := by decide +kernel
theorem dX4_read_117 : decode cX4_read 117 = .ok (.getfield 31, 3) := by decide +kernel
theorem dX4_read_120 : decode cX4_read 120 = .ok (.iload_n 1, 1) := by decide +kernel
theorem dX4_read_121 : decode cX4_read 121 = .ok (.aload_n 0, 1) := by decide +kernel
theorem dX4_read_122 : decode cX4_read 122 = .ok (.iload_n 1, 1) := by decide +kernel
theorem dX4_read_123 : decode cX4_read 123 = .ok (.aload_n 0, 1) := by decide +kernel
theorem dX4_read_124 : decode cX4_read 124 = .ok (.getfield 44, 3) := by decide +kernel
theorem dX4_read_127 : decode cX4_read 127 = .ok (.iload_n 1, 1) := by decide +kernel
theorem dX4_read_128 : decode cX4_read 128 = .ok (.iaload, 1) := by decide +kernel
theorem dX4_read_129 : decode cX4_read 129 = .ok (.invokevirtual 96, 3) := by decide +kernel
theorem dX4_read_132 : decode cX4_read 132 = .ok (.iastore, 1) := by decide +kernel
theorem dX4_read_133 : decode cX4_read 133 = .ok (.bipush 20, 2) := by decide +kernel
theorem dX4_read_135 : decode cX4_read 135 = .ok (.iload_n 1, 1) := by decide +kernel
theorem dX4_read_136 : decode cX4_read 136 = .ok (.imul, 1) := by decide +kernel
theorem dX4_read_137 : decode cX4_read 137 = .ok (.istore_n 3, 1) := by decide +kernel
theorem dX4_read_138 : decode cX4_read 138 = .ok (.iload_n 3, 1) := by decide +kernel
theorem dX4_read_139 : decode cX4_read 139 = .ok (.bipush 20, 2) := by decide +kernel
theorem dX4_read_141 : decode cX4_read 141 = .ok (.iload_n 1, 1) := by decide +kernel
theorem dX4_read_142 : decode cX4_read 142 = .ok (.iconst 1, 1) := by decide +kernel
theorem dX4_read_143 : decode cX4_read 143 = .ok (.iadd, 1) := by decide +kernel
theorem dX4_read_144 : decode cX4_read 144 = .ok (.imul, 1) := by decide +kernel
theorem dX4_read_145 : decode cX4_read 145 = .ok (.if_icmp .ge 47, 3) := by decide +kernel
theorem dX4_read_148 : decode cX4_read 148 = .ok (.aload_n 0, 1) := by decide +kernel
theorem dX4_read_149 : decode cX4_read 149 = .ok (.getfield 56, 3) := by decide +kernel
theorem dX4_read_152 : decode cX4_read 152 = .ok (.iload_n 3, 1) := by decide +kernel
theorem dX4_read_153 : decode cX4_read 153 = .ok (.aload_n 0, 1) := by decide +kernel
theorem dX4_read_154 : decode cX4_read 154 = .ok (.getfield 56, 3) := by decide +kernel
theorem dX4_read_157 : decode cX4_read 157 = .ok (.iload_n 3, 1) := by decide +kernel
theorem dX4_read_158 : decode cX4_read 158 = .ok (.baload, 1) := by decide +kernel
theorem dX4_read_159 : decode cX4_read 159 = .ok (.ifCond .eq 25, 3) := by decide +kernel
theorem dX4_read_162 : decode cX4_read 162 = .ok (.aload_n 0, 1) := by decide +kernel
theorem dX4_read_163 : decode cX4_read 163 = .ok (.getfield 68, 3) := by decide +kernel
theorem dX4_read_166 : decode cX4_read 166 = .ok (.iload_n 3, 1) := by decide +kernel
theorem dX4_read_167 : decode cX4_read 167 = .ok (.baload, 1) := by decide +kernel
theorem dX4_read_168 : decode cX4_read 168 = .ok (.ifCond .ne 12, 3) := by decide +kernel
theorem dX4_read_171 : decode cX4_read 171 = .ok (.aload_n 0, 1) := by decide +kernel
theorem dX4_read_172 : decode cX4_read 172 = .ok (.getfield 38, 3) := by decide +kernel
theorem dX4_read_175 : decode cX4_read 175 = .ok (.iload_n 1, 1) := by decide +kernel
theorem dX4_read_176 : decode cX4_read 176 = .ok (.baload, 1) := by decide +kernel
theorem dX4_read_177 : decode cX4_read 177 = .ok (.ifCond .ne 7, 3) := by decide +kernel
theorem dX4_read_180 : decode cX4_read 180 = .ok (.iconst 1, 1) := by decide +kernel
theorem dX4_read_181 : decode cX4_read 181 = .ok (.goto 4, 3) := by decide +kernel
theorem dX4_read_184 : decode cX4_read 184 = .ok (.iconst 0, 1) := by decide +kernel
theorem dX4_read_185 : decode cX4_read 185 = .ok (.bastore, 1) := by decide +kernel
theorem dX4_read_186 : decode cX4_read 186 = .ok (.iinc 3 1, 3) := by decide +kernel
theorem dX4_read_189 : decode cX4_read 189 = .ok (.goto (-51), 3) := by decide +kernel
theorem dX4_read_192 : decode cX4_read 192 = .ok (.iload_n 2, 1) := by decide +kernel
theorem dX4_read_193 : decode cX4_read 193 = .ok (.ireturn, 1) := by decide +kernel
set_option maxRecDepth 20000 in
theorem ggX4_isOpen_X4_asks : GoodIn wsX4_isOpen wsX4_asks := goodIn_r _ [6, 7, 8, 5, 9, 10, 11, 12, 13, 14, 15, 16, 17, 18, 19, 20, 21, 22, 23, 24, 25, 26, 27, 28, 29, 30, 31, 32, 33, 34, 35, 36, 37, 38, 39] (by decide +kernel) (by decide +kernel)
set_option maxRecDepth 20000 in
theorem gX4_isOpen_X4_asks : GoodIn wsX4_isOpen (wsV RX4 100 RX4 yX4_asks wsX4_asks) := goodIn_app (goodIn_of _ (by decide +kernel)) ggX4_isOpen_X4_asks
theorem dX4_isOpen_0 : decode cX4_isOpen 0 = .ok (.aload_n 0, 1) := by decide +kernel
theorem dX4_isOpen_1 : decode cX4_isOpen 1 = .ok (.iload_n 1, 1) := by decide +kernel
theorem dX4_isOpen_2 : decode cX4_isOpen 2 = .ok (.invokevirtual 100, 3) := by decide +kernel
theorem dX4_isOpen_5 : decode cX4_isOpen 5 = .ok (.ifCond .eq 16, 3) := by decide +kernel
theorem dX4_isOpen_8 : decode cX4_isOpen 8 = .ok (.aload_n 0, 1) := by decide +kernel
theorem dX4_isOpen_9 : decode cX4_isOpen 9 = .ok (.getfield 34, 3) := by decide +kernel
theorem dX4_isOpen_12 : decode cX4_isOpen 12 = .ok (.iload_n 1, 1) := by decide +kernel
theorem dX4_isOpen_13 : decode cX4_isOpen 13 = .ok (.baload, 1) := by decide +kernel
theorem dX4_isOpen_14 : decode cX4_isOpen 14 = .ok (.ifCond .eq 7, 3) := by decide +kernel
theorem dX4_isOpen_17 : decode cX4_isOpen 17 = .ok (.iconst 1, 1) := by decide +kernel
theorem dX4_isOpen_18 : decode cX4_isOpen 18 = .ok (.goto 4, 3) := by decide +kernel
theorem dX4_isOpen_21 : decode cX4_isOpen 21 = .ok (.iconst 0, 1) := by decide +kernel
theorem dX4_isOpen_22 : decode cX4_isOpen 22 = .ok (.ireturn, 1) := by decide +kernel
set_option maxRecDepth 20000 in
theorem ggX4_mark_X4_asks : GoodIn wsX4_mark wsX4_asks := goodIn_r _ [6, 7, 8, 5, 9, 10, 11, 12, 13, 14, 15, 16, 17, 18, 19, 20, 21, 22, 23, 24, 25, 26, 27, 28, 29, 30, 31, 32, 33, 34, 35, 36, 37, 38, 39] (by decide +kernel) (by decide +kernel)
set_option maxRecDepth 20000 in
theorem gX4_mark_X4_asks : GoodIn wsX4_mark (wsV RX4 100 RX4 yX4_asks wsX4_asks) := goodIn_app (goodIn_of _ (by decide +kernel)) ggX4_mark_X4_asks
theorem dX4_mark_0 : decode cX4_mark 0 = .ok (.aload_n 0, 1) := by decide +kernel
theorem dX4_mark_1 : decode cX4_mark 1 = .ok (.iload_n 1, 1) := by decide +kernel
theorem dX4_mark_2 : decode cX4_mark 2 = .ok (.invokevirtual 100, 3) := by decide +kernel
theorem dX4_mark_5 : decode cX4_mark 5 = .ok (.ifCond .eq 12, 3) := by decide +kernel
theorem dX4_mark_8 : decode cX4_mark 8 = .ok (.aload_n 0, 1) := by decide +kernel
theorem dX4_mark_9 : decode cX4_mark 9 = .ok (.getfield 31, 3) := by decide +kernel
theorem dX4_mark_12 : decode cX4_mark 12 = .ok (.iload_n 1, 1) := by decide +kernel
theorem dX4_mark_13 : decode cX4_mark 13 = .ok (.iaload, 1) := by decide +kernel
theorem dX4_mark_14 : decode cX4_mark 14 = .ok (.goto 4, 3) := by decide +kernel
theorem dX4_mark_17 : decode cX4_mark 17 = .ok (.iconst 0, 1) := by decide +kernel
theorem dX4_mark_18 : decode cX4_mark 18 = .ok (.ireturn, 1) := by decide +kernel
set_option maxRecDepth 20000 in
theorem ggX4_stored_X4_isCatalogue : GoodIn wsX4_stored wsX4_isCatalogue := goodIn_r _ [6, 7, 8, 5, 9] (by decide +kernel) (by decide +kernel)
set_option maxRecDepth 20000 in
theorem gX4_stored_X4_isCatalogue : GoodIn wsX4_stored (va_wsS RX4 82 yX4_isCatalogue wsX4_isCatalogue) := goodIn_app (goodIn_of _ (by decide +kernel)) ggX4_stored_X4_isCatalogue
set_option maxRecDepth 20000 in
theorem ggX4_stored_X4_isRecord : GoodIn wsX4_stored wsX4_isRecord := goodIn_r _ [12, 7, 8, 5, 9] (by decide +kernel) (by decide +kernel)
set_option maxRecDepth 20000 in
theorem gX4_stored_X4_isRecord : GoodIn wsX4_stored (va_wsS RX4 93 yX4_isRecord wsX4_isRecord) := goodIn_app (goodIn_of _ (by decide +kernel)) ggX4_stored_X4_isRecord
set_option maxRecDepth 20000 in
theorem ggX4_stored_X4_goes : GoodIn wsX4_stored wsX4_goes := goodIn_r _ [16, 17, 18, 19, 20, 21, 22, 23, 24, 25, 26, 27, 28, 29, 30, 31, 32, 33, 34, 35, 36, 37, 38, 39] (by decide +kernel) (by decide +kernel)
set_option maxRecDepth 20000 in
theorem gX4_stored_X4_goes : GoodIn wsX4_stored (wsV RX4 86 RX4 yX4_goes wsX4_goes) := goodIn_app (goodIn_of _ (by decide +kernel)) ggX4_stored_X4_goes
theorem dX4_stored_0 : decode cX4_stored 0 = .ok (.iload_n 1, 1) := by decide +kernel
theorem dX4_stored_1 : decode cX4_stored 1 = .ok (.invokestatic 82, 3) := by decide +kernel
theorem dX4_stored_4 : decode cX4_stored 4 = .ok (.ifCond .eq 14, 3) := by decide +kernel
theorem dX4_stored_7 : decode cX4_stored 7 = .ok (.iload_n 2, 1) := by decide +kernel
theorem dX4_stored_8 : decode cX4_stored 8 = .ok (.invokestatic 93, 3) := by decide +kernel
theorem dX4_stored_11 : decode cX4_stored 11 = .ok (.ifCond .eq 7, 3) := by decide +kernel
theorem dX4_stored_14 : decode cX4_stored 14 = .ok (.iconst 1, 1) := by decide +kernel
theorem dX4_stored_15 : decode cX4_stored 15 = .ok (.goto 4, 3) := by decide +kernel
theorem dX4_stored_18 : decode cX4_stored 18 = .ok (.iconst 0, 1) := by decide +kernel
theorem dX4_stored_19 : decode cX4_stored 19 = .ok (.istore_n 3, 1) := by decide +kernel
theorem dX4_stored_20 : decode cX4_stored 20 = .ok (.aload_n 0, 1) := by decide +kernel
theorem dX4_stored_21 : decode cX4_stored 21 = .ok (.iload_n 3, 1) := by decide +kernel
theorem dX4_stored_22 : decode cX4_stored 22 = .ok (.ifCond .eq 7, 3) := by decide +kernel
theorem dX4_stored_25 : decode cX4_stored 25 = .ok (.iconst 0, 1) := by decide +kernel
theorem dX4_stored_26 : decode cX4_stored 26 = .ok (.goto 4, 3) := by decide +kernel
theorem dX4_stored_29 : decode cX4_stored 29 = .ok (.iconst 1, 1) := by decide +kernel
theorem dX4_stored_30 : decode cX4_stored 30 = .ok (.invokevirtual 86, 3) := by decide +kernel
theorem dX4_stored_33 : decode cX4_stored 33 = .ok (.ifCond .eq 35, 3) := by decide +kernel
theorem dX4_stored_36 : decode cX4_stored 36 = .ok (.aload_n 0, 1) := by decide +kernel
theorem dX4_stored_37 : decode cX4_stored 37 = .ok (.getfield 56, 3) := by decide +kernel
theorem dX4_stored_40 : decode cX4_stored 40 = .ok (.bipush 20, 2) := by decide +kernel
theorem dX4_stored_42 : decode cX4_stored 42 = .ok (.iload_n 1, 1) := by decide +kernel
theorem dX4_stored_43 : decode cX4_stored 43 = .ok (.imul, 1) := by decide +kernel
theorem dX4_stored_44 : decode cX4_stored 44 = .ok (.iload_n 2, 1) := by decide +kernel
theorem dX4_stored_45 : decode cX4_stored 45 = .ok (.iadd, 1) := by decide +kernel
theorem dX4_stored_46 : decode cX4_stored 46 = .ok (.baload, 1) := by decide +kernel
theorem dX4_stored_47 : decode cX4_stored 47 = .ok (.ifCond .eq 17, 3) := by decide +kernel
theorem dX4_stored_50 : decode cX4_stored 50 = .ok (.aload_n 0, 1) := by decide +kernel
theorem dX4_stored_51 : decode cX4_stored 51 = .ok (.getfield 62, 3) := by decide +kernel
theorem dX4_stored_54 : decode cX4_stored 54 = .ok (.bipush 20, 2) := by decide +kernel
theorem dX4_stored_56 : decode cX4_stored 56 = .ok (.iload_n 1, 1) := by decide +kernel
theorem dX4_stored_57 : decode cX4_stored 57 = .ok (.imul, 1) := by decide +kernel
theorem dX4_stored_58 : decode cX4_stored 58 = .ok (.iload_n 2, 1) := by decide +kernel
theorem dX4_stored_59 : decode cX4_stored 59 = .ok (.iadd, 1) := by decide +kernel
theorem dX4_stored_60 : decode cX4_stored 60 = .ok (.iaload, 1) := by decide +kernel
theorem dX4_stored_61 : decode cX4_stored 61 = .ok (.goto 8, 3) := by decide +kernel
theorem dX4_stored_64 : decode cX4_stored 64 = .ok (.iconst (-1), 1) := by decide +kernel
theorem dX4_stored_65 : decode cX4_stored 65 = .ok (.goto 4, 3) := by decide +kernel
theorem dX4_stored_68 : decode cX4_stored 68 = .ok (.iconst 0, 1) := by decide +kernel
theorem dX4_stored_69 : decode cX4_stored 69 = .ok (.ireturn, 1) := by decide +kernel
set_option maxRecDepth 20000 in
theorem ggX4_held_X4_asks : GoodIn wsX4_held wsX4_asks := goodIn_r _ [6, 7, 8, 5, 9, 10, 11, 12, 13, 14, 15, 16, 17, 18, 19, 20, 21, 22, 23, 24, 25, 26, 27, 28, 29, 30, 31, 32, 33, 34, 35, 36, 37, 38, 39] (by decide +kernel) (by decide +kernel)
set_option maxRecDepth 20000 in
theorem gX4_held_X4_asks : GoodIn wsX4_held (wsV RX4 100 RX4 yX4_asks wsX4_asks) := goodIn_app (goodIn_of _ (by decide +kernel)) ggX4_held_X4_asks
theorem dX4_held_0 : decode cX4_held 0 = .ok (.aload_n 0, 1) := by decide +kernel
theorem dX4_held_1 : decode cX4_held 1 = .ok (.iload_n 1, 1) := by decide +kernel
theorem dX4_held_2 : decode cX4_held 2 = .ok (.invokevirtual 100, 3) := by decide +kernel
theorem dX4_held_5 : decode cX4_held 5 = .ok (.ifCond .ne 5, 3) := by decide +kernel
theorem dX4_held_8 : decode cX4_held 8 = .ok (.iconst 0, 1) := by decide +kernel
theorem dX4_held_9 : decode cX4_held 9 = .ok (.ireturn, 1) := by decide +kernel
theorem dX4_held_10 : decode cX4_held 10 = .ok (.iconst 0, 1) := by decide +kernel
theorem dX4_held_11 : decode cX4_held 11 = .ok (.istore_n 2, 1) := by decide +kernel
theorem dX4_held_12 : decode cX4_held 12 = .ok (.bipush 20, 2) := by decide +kernel
theorem dX4_held_14 : decode cX4_held 14 = .ok (.iload_n 1, 1) := by decide +kernel
theorem dX4_held_15 : decode cX4_held 15 = .ok (.imul, 1) := by decide +kernel
theorem dX4_held_16 : decode cX4_held 16 = .ok (.istore_n 3, 1) := by decide +kernel
theorem dX4_held_17 : decode cX4_held 17 = .ok (.iload_n 3, 1) := by decide +kernel
theorem dX4_held_18 : decode cX4_held 18 = .ok (.bipush 20, 2) := by decide +kernel
theorem dX4_held_20 : decode cX4_held 20 = .ok (.iload_n 1, 1) := by decide +kernel
theorem dX4_held_21 : decode cX4_held 21 = .ok (.iconst 1, 1) := by decide +kernel
theorem dX4_held_22 : decode cX4_held 22 = .ok (.iadd, 1) := by decide +kernel
theorem dX4_held_23 : decode cX4_held 23 = .ok (.imul, 1) := by decide +kernel
theorem dX4_held_24 : decode cX4_held 24 = .ok (.if_icmp .ge 26, 3) := by decide +kernel
theorem dX4_held_27 : decode cX4_held 27 = .ok (.iload_n 2, 1) := by decide +kernel
theorem dX4_held_28 : decode cX4_held 28 = .ok (.aload_n 0, 1) := by decide +kernel
theorem dX4_held_29 : decode cX4_held 29 = .ok (.getfield 56, 3) := by decide +kernel
theorem dX4_held_32 : decode cX4_held 32 = .ok (.iload_n 3, 1) := by decide +kernel
theorem dX4_held_33 : decode cX4_held 33 = .ok (.baload, 1) := by decide +kernel
theorem dX4_held_34 : decode cX4_held 34 = .ok (.ifCond .eq 7, 3) := by decide +kernel
theorem dX4_held_37 : decode cX4_held 37 = .ok (.iconst 1, 1) := by decide +kernel
theorem dX4_held_38 : decode cX4_held 38 = .ok (.goto 4, 3) := by decide +kernel
theorem dX4_held_41 : decode cX4_held 41 = .ok (.iconst 0, 1) := by decide +kernel
theorem dX4_held_42 : decode cX4_held 42 = .ok (.iadd, 1) := by decide +kernel
theorem dX4_held_43 : decode cX4_held 43 = .ok (.istore_n 2, 1) := by decide +kernel
theorem dX4_held_44 : decode cX4_held 44 = .ok (.iinc 3 1, 3) := by decide +kernel
theorem dX4_held_47 : decode cX4_held 47 = .ok (.goto (-30), 3) := by decide +kernel
theorem dX4_held_50 : decode cX4_held 50 = .ok (.iload_n 2, 1) := by decide +kernel
theorem dX4_held_51 : decode cX4_held 51 = .ok (.ireturn, 1) := by decide +kernel
theorem dX4_isAlike_0 : decode cX4_isAlike 0 = .ok (.aload_n 0, 1) := by decide +kernel
theorem dX4_isAlike_1 : decode cX4_isAlike 1 = .ok (.getfield 56, 3) := by decide +kernel
theorem dX4_isAlike_4 : decode cX4_isAlike 4 = .ok (.iload_n 1, 1) := by decide +kernel
theorem dX4_isAlike_5 : decode cX4_isAlike 5 = .ok (.baload, 1) := by decide +kernel
theorem dX4_isAlike_6 : decode cX4_isAlike 6 = .ok (.ifCond .eq 52, 3) := by decide +kernel
theorem dX4_isAlike_9 : decode cX4_isAlike 9 = .ok (.aload_n 0, 1) := by decide +kernel
theorem dX4_isAlike_10 : decode cX4_isAlike 10 = .ok (.getfield 59, 3) := by decide +kernel
theorem dX4_isAlike_13 : decode cX4_isAlike 13 = .ok (.iload_n 1, 1) := by decide +kernel
theorem dX4_isAlike_14 : decode cX4_isAlike 14 = .ok (.iaload, 1) := by decide +kernel
theorem dX4_isAlike_15 : decode cX4_isAlike 15 = .ok (.aload_n 0, 1) := by decide +kernel
theorem dX4_isAlike_16 : decode cX4_isAlike 16 = .ok (.getfield 19, 3) := by decide +kernel
theorem dX4_isAlike_19 : decode cX4_isAlike 19 = .ok (.iload_n 1, 1) := by decide +kernel
theorem dX4_isAlike_20 : decode cX4_isAlike 20 = .ok (.iaload, 1) := by decide +kernel
theorem dX4_isAlike_21 : decode cX4_isAlike 21 = .ok (.if_icmp .ne 37, 3) := by decide +kernel
theorem dX4_isAlike_24 : decode cX4_isAlike 24 = .ok (.aload_n 0, 1) := by decide +kernel
theorem dX4_isAlike_25 : decode cX4_isAlike 25 = .ok (.getfield 62, 3) := by decide +kernel
theorem dX4_isAlike_28 : decode cX4_isAlike 28 = .ok (.iload_n 1, 1) := by decide +kernel
theorem dX4_isAlike_29 : decode cX4_isAlike 29 = .ok (.iaload, 1) := by decide +kernel
theorem dX4_isAlike_30 : decode cX4_isAlike 30 = .ok (.aload_n 0, 1) := by decide +kernel
theorem dX4_isAlike_31 : decode cX4_isAlike 31 = .ok (.getfield 22, 3) := by decide +kernel
theorem dX4_isAlike_34 : decode cX4_isAlike 34 = .ok (.iload_n 1, 1) := by decide +kernel
theorem dX4_isAlike_35 : decode cX4_isAlike 35 = .ok (.iaload, 1) := by decide +kernel
theorem dX4_isAlike_36 : decode cX4_isAlike 36 = .ok (.if_icmp .ne 22, 3) := by decide +kernel
theorem dX4_isAlike_39 : decode cX4_isAlike 39 = .ok (.aload_n 0, 1) := by decide +kernel
theorem dX4_isAlike_40 : decode cX4_isAlike 40 = .ok (.getfield 65, 3) := by decide +kernel
theorem dX4_isAlike_43 : decode cX4_isAlike 43 = .ok (.iload_n 1, 1) := by decide +kernel
theorem dX4_isAlike_44 : decode cX4_isAlike 44 = .ok (.iaload, 1) := by decide +kernel
theorem dX4_isAlike_45 : decode cX4_isAlike 45 = .ok (.aload_n 0, 1) := by decide +kernel
theorem dX4_isAlike_46 : decode cX4_isAlike 46 = .ok (.getfield 25, 3) := by decide +kernel
theorem dX4_isAlike_49 : decode cX4_isAlike 49 = .ok (.iload_n 1, 1) := by decide +kernel
theorem dX4_isAlike_50 : decode cX4_isAlike 50 = .ok (.iaload, 1) := by decide +kernel
theorem dX4_isAlike_51 : decode cX4_isAlike 51 = .ok (.if_icmp .ne 7, 3) := by decide +kernel
theorem dX4_isAlike_54 : decode cX4_isAlike 54 = .ok (.iconst 1, 1) := by decide +kernel
theorem dX4_isAlike_55 : decode cX4_isAlike 55 = .ok (.goto 4, 3) := by decide +kernel
theorem dX4_isAlike_58 : decode cX4_isAlike 58 = .ok (.iconst 0, 1) := by decide +kernel
theorem dX4_isAlike_59 : decode cX4_isAlike 59 = .ok (.ireturn, 1) := by decide +kernel
set_option maxRecDepth 20000 in
theorem ggX4_wrong_X4_asks : GoodIn wsX4_wrong wsX4_asks := goodIn_r _ [7, 8, 9, 6, 10, 11, 12, 13, 14, 15, 16, 17, 18, 29, 30, 31, 32, 33, 34, 35, 36, 37, 38, 39, 40, 41, 42, 43, 44, 45, 46, 47, 48, 49, 50] (by decide +kernel) (by decide +kernel)
set_option maxRecDepth 20000 in
theorem gX4_wrong_X4_asks : GoodIn wsX4_wrong (wsV RX4 100 RX4 yX4_asks wsX4_asks) := goodIn_app (goodIn_of _ (by decide +kernel)) ggX4_wrong_X4_asks
set_option maxRecDepth 20000 in
theorem ggX4_wrong_X4_isAlike : GoodIn wsX4_wrong wsX4_isAlike := goodIn_r _ [22, 2, 23, 24, 25, 26, 27, 28, 29, 30, 31, 32, 33, 34, 35, 36, 37, 38, 39, 40, 41, 42, 43, 44, 45, 46, 47, 48, 49, 50] (by decide +kernel) (by decide +kernel)
set_option maxRecDepth 20000 in
theorem gX4_wrong_X4_isAlike : GoodIn wsX4_wrong (wsV RX4 117 RX4 yX4_isAlike wsX4_isAlike) := goodIn_app (goodIn_of _ (by decide +kernel)) ggX4_wrong_X4_isAlike
theorem dX4_wrong_0 : decode cX4_wrong 0 = .ok (.aload_n 0, 1) := by decide +kernel
theorem dX4_wrong_1 : decode cX4_wrong 1 = .ok (.iload_n 1, 1) := by decide +kernel
theorem dX4_wrong_2 : decode cX4_wrong 2 = .ok (.invokevirtual 100, 3) := by decide +kernel
theorem dX4_wrong_5 : decode cX4_wrong 5 = .ok (.ifCond .ne 5, 3) := by decide +kernel
theorem dX4_wrong_8 : decode cX4_wrong 8 = .ok (.iconst 0, 1) := by decide +kernel
theorem dX4_wrong_9 : decode cX4_wrong 9 = .ok (.ireturn, 1) := by decide +kernel
theorem dX4_wrong_10 : decode cX4_wrong 10 = .ok (.iconst 0, 1) := by decide +kernel
theorem dX4_wrong_11 : decode cX4_wrong 11 = .ok (.istore_n 2, 1) := by decide +kernel
theorem dX4_wrong_12 : decode cX4_wrong 12 = .ok (.bipush 20, 2) := by decide +kernel
theorem dX4_wrong_14 : decode cX4_wrong 14 = .ok (.iload_n 1, 1) := by decide +kernel
theorem dX4_wrong_15 : decode cX4_wrong 15 = .ok (.imul, 1) := by decide +kernel
theorem dX4_wrong_16 : decode cX4_wrong 16 = .ok (.istore_n 3, 1) := by decide +kernel
theorem dX4_wrong_17 : decode cX4_wrong 17 = .ok (.iload_n 3, 1) := by decide +kernel
theorem dX4_wrong_18 : decode cX4_wrong 18 = .ok (.bipush 20, 2) := by decide +kernel
theorem dX4_wrong_20 : decode cX4_wrong 20 = .ok (.iload_n 1, 1) := by decide +kernel
theorem dX4_wrong_21 : decode cX4_wrong 21 = .ok (.iconst 1, 1) := by decide +kernel
theorem dX4_wrong_22 : decode cX4_wrong 22 = .ok (.iadd, 1) := by decide +kernel
theorem dX4_wrong_23 : decode cX4_wrong 23 = .ok (.imul, 1) := by decide +kernel
theorem dX4_wrong_24 : decode cX4_wrong 24 = .ok (.if_icmp .ge 47, 3) := by decide +kernel
theorem dX4_wrong_27 : decode cX4_wrong 27 = .ok (.iload_n 2, 1) := by decide +kernel
theorem dX4_wrong_28 : decode cX4_wrong 28 = .ok (.aload_n 0, 1) := by decide +kernel
theorem dX4_wrong_29 : decode cX4_wrong 29 = .ok (.getfield 16, 3) := by decide +kernel
theorem dX4_wrong_32 : decode cX4_wrong 32 = .ok (.iload_n 3, 1) := by decide +kernel
theorem dX4_wrong_33 : decode cX4_wrong 33 = .ok (.iaload, 1) := by decide +kernel
theorem dX4_wrong_34 : decode cX4_wrong 34 = .ok (.iconst 1, 1) := by decide +kernel
theorem dX4_wrong_35 : decode cX4_wrong 35 = .ok (.if_icmp .ne 14, 3) := by decide +kernel
theorem dX4_wrong_38 : decode cX4_wrong 38 = .ok (.aload_n 0, 1) := by decide +kernel
theorem dX4_wrong_39 : decode cX4_wrong 39 = .ok (.iload_n 3, 1) := by decide +kernel
theorem dX4_wrong_40 : decode cX4_wrong 40 = .ok (.invokevirtual 117, 3) := by decide +kernel
theorem dX4_wrong_43 : decode cX4_wrong 43 = .ok (.ifCond .ne 19, 3) := by decide +kernel
theorem dX4_wrong_46 : decode cX4_wrong 46 = .ok (.goto 12, 3) := by decide +kernel
theorem dX4_wrong_49 : decode cX4_wrong 49 = .ok (.aload_n 0, 1) := by decide +kernel
theorem dX4_wrong_50 : decode cX4_wrong 50 = .ok (.getfield 56, 3) := by decide +kernel
theorem dX4_wrong_53 : decode cX4_wrong 53 = .ok (.iload_n 3, 1) := by decide +kernel
theorem dX4_wrong_54 : decode cX4_wrong 54 = .ok (.baload, 1) := by decide +kernel
theorem dX4_wrong_55 : decode cX4_wrong 55 = .ok (.ifCond .eq 7, 3) := by decide +kernel
theorem dX4_wrong_58 : decode cX4_wrong 58 = .ok (.iconst 1, 1) := by decide +kernel
theorem dX4_wrong_59 : decode cX4_wrong 59 = .ok (.goto 4, 3) := by decide +kernel
theorem dX4_wrong_62 : decode cX4_wrong 62 = .ok (.iconst 0, 1) := by decide +kernel
theorem dX4_wrong_63 : decode cX4_wrong 63 = .ok (.iadd, 1) := by decide +kernel
theorem dX4_wrong_64 : decode cX4_wrong 64 = .ok (.istore_n 2, 1) := by decide +kernel
theorem dX4_wrong_65 : decode cX4_wrong 65 = .ok (.iinc 3 1, 3) := by decide +kernel
theorem dX4_wrong_68 : decode cX4_wrong 68 = .ok (.goto (-51), 3) := by decide +kernel
theorem dX4_wrong_71 : decode cX4_wrong 71 = .ok (.iload_n 2, 1) := by decide +kernel
theorem dX4_wrong_72 : decode cX4_wrong 72 = .ok (.ireturn, 1) := by decide +kernel
set_option maxRecDepth 20000 in
theorem ggX4_isWork_X4_isIn : GoodIn wsX4_isWork wsX4_isIn := goodIn_r _ [4] (by decide +kernel) (by decide +kernel)
set_option maxRecDepth 20000 in
theorem gX4_isWork_X4_isIn : GoodIn wsX4_isWork (va_wsS RX4 75 yX4_isIn wsX4_isIn) := goodIn_app (goodIn_of _ (by decide +kernel)) ggX4_isWork_X4_isIn
theorem dX4_isWork_0 : decode cX4_isWork 0 = .ok (.iload_n 0, 1) := by decide +kernel
theorem dX4_isWork_1 : decode cX4_isWork 1 = .ok (.iconst 0, 1) := by decide +kernel
theorem dX4_isWork_2 : decode cX4_isWork 2 = .ok (.bipush 9, 2) := by decide +kernel
theorem dX4_isWork_4 : decode cX4_isWork 4 = .ok (.invokestatic 75, 3) := by decide +kernel
theorem dX4_isWork_7 : decode cX4_isWork 7 = .ok (.ireturn, 1) := by decide +kernel
set_option maxRecDepth 20000 in
theorem ggX4_copies_X4_isWork : GoodIn wsX4_copies wsX4_isWork := goodIn_r _ [6, 7, 8, 5, 9] (by decide +kernel) (by decide +kernel)
set_option maxRecDepth 20000 in
theorem gX4_copies_X4_isWork : GoodIn wsX4_copies (va_wsS RX4 120 yX4_isWork wsX4_isWork) := goodIn_app (goodIn_of _ (by decide +kernel)) ggX4_copies_X4_isWork
set_option maxRecDepth 20000 in
theorem ggX4_copies_X4_goes : GoodIn wsX4_copies wsX4_goes := goodIn_r _ [13, 14, 15, 16, 17, 18, 19, 20, 21, 22, 23, 24, 25, 26, 27, 28, 29, 30, 31, 32, 33, 34, 35, 36] (by decide +kernel) (by decide +kernel)
set_option maxRecDepth 20000 in
theorem gX4_copies_X4_goes : GoodIn wsX4_copies (wsV RX4 86 RX4 yX4_goes wsX4_goes) := goodIn_app (goodIn_of _ (by decide +kernel)) ggX4_copies_X4_goes
theorem dX4_copies_0 : decode cX4_copies 0 = .ok (.aload_n 0, 1) := by decide +kernel
theorem dX4_copies_1 : decode cX4_copies 1 = .ok (.iload_n 1, 1) := by decide +kernel
theorem dX4_copies_2 : decode cX4_copies 2 = .ok (.invokestatic 120, 3) := by decide +kernel
theorem dX4_copies_5 : decode cX4_copies 5 = .ok (.ifCond .eq 7, 3) := by decide +kernel
theorem dX4_copies_8 : decode cX4_copies 8 = .ok (.iconst 0, 1) := by decide +kernel
theorem dX4_copies_9 : decode cX4_copies 9 = .ok (.goto 4, 3) := by decide +kernel
theorem dX4_copies_12 : decode cX4_copies 12 = .ok (.iconst 1, 1) := by decide +kernel
theorem dX4_copies_13 : decode cX4_copies 13 = .ok (.invokevirtual 86, 3) := by decide +kernel
theorem dX4_copies_16 : decode cX4_copies 16 = .ok (.ifCond .ne 5, 3) := by decide +kernel
theorem dX4_copies_19 : decode cX4_copies 19 = .ok (.iconst 0, 1) := by decide +kernel
theorem dX4_copies_20 : decode cX4_copies 20 = .ok (.ireturn, 1) := by decide +kernel
theorem dX4_copies_21 : decode cX4_copies 21 = .ok (.iconst 0, 1) := by decide +kernel
theorem dX4_copies_22 : decode cX4_copies 22 = .ok (.istore_n 2, 1) := by decide +kernel
theorem dX4_copies_23 : decode cX4_copies 23 = .ok (.iconst 0, 1) := by decide +kernel
theorem dX4_copies_24 : decode cX4_copies 24 = .ok (.istore_n 3, 1) := by decide +kernel
theorem dX4_copies_25 : decode cX4_copies 25 = .ok (.iload_n 3, 1) := by decide +kernel
theorem dX4_copies_26 : decode cX4_copies 26 = .ok (.bipush 80, 2) := by decide +kernel
theorem dX4_copies_28 : decode cX4_copies 28 = .ok (.if_icmp .ge 36, 3) := by decide +kernel
theorem dX4_copies_31 : decode cX4_copies 31 = .ok (.iload_n 2, 1) := by decide +kernel
theorem dX4_copies_32 : decode cX4_copies 32 = .ok (.aload_n 0, 1) := by decide +kernel
theorem dX4_copies_33 : decode cX4_copies 33 = .ok (.getfield 56, 3) := by decide +kernel
theorem dX4_copies_36 : decode cX4_copies 36 = .ok (.iload_n 3, 1) := by decide +kernel
theorem dX4_copies_37 : decode cX4_copies 37 = .ok (.baload, 1) := by decide +kernel
theorem dX4_copies_38 : decode cX4_copies 38 = .ok (.ifCond .eq 17, 3) := by decide +kernel
theorem dX4_copies_41 : decode cX4_copies 41 = .ok (.aload_n 0, 1) := by decide +kernel
theorem dX4_copies_42 : decode cX4_copies 42 = .ok (.getfield 59, 3) := by decide +kernel
theorem dX4_copies_45 : decode cX4_copies 45 = .ok (.iload_n 3, 1) := by decide +kernel
theorem dX4_copies_46 : decode cX4_copies 46 = .ok (.iaload, 1) := by decide +kernel
theorem dX4_copies_47 : decode cX4_copies 47 = .ok (.iload_n 1, 1) := by decide +kernel
theorem dX4_copies_48 : decode cX4_copies 48 = .ok (.if_icmp .ne 7, 3) := by decide +kernel
theorem dX4_copies_51 : decode cX4_copies 51 = .ok (.iconst 1, 1) := by decide +kernel
theorem dX4_copies_52 : decode cX4_copies 52 = .ok (.goto 4, 3) := by decide +kernel
theorem dX4_copies_55 : decode cX4_copies 55 = .ok (.iconst 0, 1) := by decide +kernel
theorem dX4_copies_56 : decode cX4_copies 56 = .ok (.iadd, 1) := by decide +kernel
theorem dX4_copies_57 : decode cX4_copies 57 = .ok (.istore_n 2, 1) := by decide +kernel
theorem dX4_copies_58 : decode cX4_copies 58 = .ok (.iinc 3 1, 3) := by decide +kernel
theorem dX4_copies_61 : decode cX4_copies 61 = .ok (.goto (-36), 3) := by decide +kernel
theorem dX4_copies_64 : decode cX4_copies 64 = .ok (.iload_n 2, 1) := by decide +kernel
theorem dX4_copies_65 : decode cX4_copies 65 = .ok (.ireturn, 1) := by decide +kernel
set_option maxRecDepth 20000 in
theorem ggX4_best_X4_isWork : GoodIn wsX4_best wsX4_isWork := goodIn_r _ [7, 8, 9, 6, 10] (by decide +kernel) (by decide +kernel)
set_option maxRecDepth 20000 in
theorem gX4_best_X4_isWork : GoodIn wsX4_best (va_wsS RX4 120 yX4_isWork wsX4_isWork) := goodIn_app (goodIn_of _ (by decide +kernel)) ggX4_best_X4_isWork
set_option maxRecDepth 20000 in
theorem ggX4_best_X4_goes : GoodIn wsX4_best wsX4_goes := goodIn_r _ [14, 15, 16, 17, 18, 19, 20, 21, 22, 23, 24, 25, 26, 27, 28, 29, 30, 31, 32, 33, 34, 35, 36, 37] (by decide +kernel) (by decide +kernel)
set_option maxRecDepth 20000 in
theorem gX4_best_X4_goes : GoodIn wsX4_best (wsV RX4 86 RX4 yX4_goes wsX4_goes) := goodIn_app (goodIn_of _ (by decide +kernel)) ggX4_best_X4_goes
theorem dX4_best_0 : decode cX4_best 0 = .ok (.aload_n 0, 1) := by decide +kernel
theorem dX4_best_1 : decode cX4_best 1 = .ok (.iload_n 1, 1) := by decide +kernel
theorem dX4_best_2 : decode cX4_best 2 = .ok (.invokestatic 120, 3) := by decide +kernel
theorem dX4_best_5 : decode cX4_best 5 = .ok (.ifCond .eq 7, 3) := by decide +kernel
theorem dX4_best_8 : decode cX4_best 8 = .ok (.iconst 0, 1) := by decide +kernel
theorem dX4_best_9 : decode cX4_best 9 = .ok (.goto 4, 3) := by decide +kernel
theorem dX4_best_12 : decode cX4_best 12 = .ok (.iconst 1, 1) := by decide +kernel
theorem dX4_best_13 : decode cX4_best 13 = .ok (.invokevirtual 86, 3) := by decide +kernel
theorem dX4_best_16 : decode cX4_best 16 = .ok (.ifCond .ne 5, 3) := by decide +kernel
theorem dX4_best_19 : decode cX4_best 19 = .ok (.iconst 0, 1) := by decide +kernel
theorem dX4_best_20 : decode cX4_best 20 = .ok (.ireturn, 1) := by decide +kernel
theorem dX4_best_21 : decode cX4_best 21 = .ok (.iconst (-1), 1) := by decide +kernel
theorem dX4_best_22 : decode cX4_best 22 = .ok (.istore_n 2, 1) := by decide +kernel
theorem dX4_best_23 : decode cX4_best 23 = .ok (.iconst 0, 1) := by decide +kernel
theorem dX4_best_24 : decode cX4_best 24 = .ok (.istore_n 3, 1) := by decide +kernel
theorem dX4_best_25 : decode cX4_best 25 = .ok (.iload_n 3, 1) := by decide +kernel
theorem dX4_best_26 : decode cX4_best 26 = .ok (.bipush 80, 2) := by decide +kernel
theorem dX4_best_28 : decode cX4_best 28 = .ok (.if_icmp .ge 66, 3) := by decide +kernel
theorem dX4_best_31 : decode cX4_best 31 = .ok (.aload_n 0, 1) := by decide +kernel
theorem dX4_best_32 : decode cX4_best 32 = .ok (.getfield 56, 3) := by decide +kernel
theorem dX4_best_35 : decode cX4_best 35 = .ok (.iload_n 3, 1) := by decide +kernel
theorem dX4_best_36 : decode cX4_best 36 = .ok (.baload, 1) := by decide +kernel
theorem dX4_best_37 : decode cX4_best 37 = .ok (.ifCond .eq 17, 3) := by decide +kernel
theorem dX4_best_40 : decode cX4_best 40 = .ok (.aload_n 0, 1) := by decide +kernel
theorem dX4_best_41 : decode cX4_best 41 = .ok (.getfield 59, 3) := by decide +kernel
theorem dX4_best_44 : decode cX4_best 44 = .ok (.iload_n 3, 1) := by decide +kernel
theorem dX4_best_45 : decode cX4_best 45 = .ok (.iaload, 1) := by decide +kernel
theorem dX4_best_46 : decode cX4_best 46 = .ok (.iload_n 1, 1) := by decide +kernel
theorem dX4_best_47 : decode cX4_best 47 = .ok (.if_icmp .ne 7, 3) := by decide +kernel
theorem dX4_best_50 : decode cX4_best 50 = .ok (.iconst 1, 1) := by decide +kernel
theorem dX4_best_51 : decode cX4_best 51 = .ok (.goto 4, 3) := by decide +kernel
theorem dX4_best_54 : decode cX4_best 54 = .ok (.iconst 0, 1) := by decide +kernel
theorem dX4_best_55 : decode cX4_best 55 = .ok (.istore 4, 2) := by decide +kernel
theorem dX4_best_57 : decode cX4_best 57 = .ok (.iload 4, 2) := by decide +kernel
theorem dX4_best_59 : decode cX4_best 59 = .ok (.ifCond .eq 27, 3) := by decide +kernel
theorem dX4_best_62 : decode cX4_best 62 = .ok (.iload_n 2, 1) := by decide +kernel
theorem dX4_best_63 : decode cX4_best 63 = .ok (.iconst (-1), 1) := by decide +kernel
theorem dX4_best_64 : decode cX4_best 64 = .ok (.if_icmp .eq 18, 3) := by decide +kernel
theorem dX4_best_67 : decode cX4_best 67 = .ok (.aload_n 0, 1) := by decide +kernel
theorem dX4_best_68 : decode cX4_best 68 = .ok (.getfield 65, 3) := by decide +kernel
theorem dX4_best_71 : decode cX4_best 71 = .ok (.iload_n 3, 1) := by decide +kernel
theorem dX4_best_72 : decode cX4_best 72 = .ok (.iaload, 1) := by decide +kernel
theorem dX4_best_73 : decode cX4_best 73 = .ok (.aload_n 0, 1) := by decide +kernel
theorem dX4_best_74 : decode cX4_best 74 = .ok (.getfield 65, 3) := by decide +kernel
theorem dX4_best_77 : decode cX4_best 77 = .ok (.iload_n 2, 1) := by decide +kernel
theorem dX4_best_78 : decode cX4_best 78 = .ok (.iaload, 1) := by decide +kernel
theorem dX4_best_79 : decode cX4_best 79 = .ok (.if_icmp .le 7, 3) := by decide +kernel
theorem dX4_best_82 : decode cX4_best 82 = .ok (.iload_n 3, 1) := by decide +kernel
theorem dX4_best_83 : decode cX4_best 83 = .ok (.goto 4, 3) := by decide +kernel
theorem dX4_best_86 : decode cX4_best 86 = .ok (.iload_n 2, 1) := by decide +kernel
theorem dX4_best_87 : decode cX4_best 87 = .ok (.istore_n 2, 1) := by decide +kernel
theorem dX4_best_88 : decode cX4_best 88 = .ok (.iinc 3 1, 3) := by decide +kernel
theorem dX4_best_91 : decode cX4_best 91 = .ok (.goto (-66), 3) := by decide +kernel
theorem dX4_best_94 : decode cX4_best 94 = .ok (.iload_n 2, 1) := by decide +kernel
theorem dX4_best_95 : decode cX4_best 95 = .ok (.iconst (-1), 1) := by decide +kernel
theorem dX4_best_96 : decode cX4_best 96 = .ok (.if_icmp .ne 7, 3) := by decide +kernel
theorem dX4_best_99 : decode cX4_best 99 = .ok (.iconst (-1), 1) := by decide +kernel
theorem dX4_best_100 : decode cX4_best 100 = .ok (.goto 15, 3) := by decide +kernel
theorem dX4_best_103 : decode cX4_best 103 = .ok (.bipush 100, 2) := by decide +kernel
theorem dX4_best_105 : decode cX4_best 105 = .ok (.iload_n 2, 1) := by decide +kernel
theorem dX4_best_106 : decode cX4_best 106 = .ok (.bipush 20, 2) := by decide +kernel
theorem dX4_best_108 : decode cX4_best 108 = .ok (.idiv, 1) := by decide +kernel
theorem dX4_best_109 : decode cX4_best 109 = .ok (.imul, 1) := by decide +kernel
theorem dX4_best_110 : decode cX4_best 110 = .ok (.iload_n 2, 1) := by decide +kernel
theorem dX4_best_111 : decode cX4_best 111 = .ok (.bipush 20, 2) := by decide +kernel
theorem dX4_best_113 : decode cX4_best 113 = .ok (.irem, 1) := by decide +kernel
theorem dX4_best_114 : decode cX4_best 114 = .ok (.iadd, 1) := by decide +kernel
theorem dX4_best_115 : decode cX4_best 115 = .ok (.ireturn, 1) := by decide +kernel
abbrev vwCl : List vw_C := [(RX0, TX0, 6), (RX1, TX1, 10), (RX2, TX2, 4), (RX3, TX3, 2), (RX4, TX4, 22)]
end
section
/-! ===== own helpers: worlds changed in place, exact contracts, calls, throws ===== -/
section ZL
abbrev zI : Type := Nat → Int32
abbrev zIAE : String := "java/lang/IllegalArgumentException"
abbrev zISE : String := "java/lang/IllegalStateException"
abbrev zNm : List String := ["java/lang/RuntimeException", "java/lang/Exception"]
/-- the array classes that the worlds use -/
abbrev zTy (cI cZ cH cJ : ClassId) : List (ClassId × FieldType) := [(cI, .int), (cZ, .boolean), (cH, .object "CatalogueHarvester$Harvest"), (cJ, .long)]
def zput : va_W → List Nat → va_W → va_W
  | ws, i :: is, c :: cs => zput (ws.set i c) is cs
  | ws, _, _ => ws
theorem zput_get : ∀ (is : List Nat) (w1 ws : va_W), (∀ i ∈ is, i < ws.length) → is.length = w1.length → va_nd is = true → ∀ (k : Nat) (q : Nat × va_E), (zput ws is w1)[k]? = some q → (∃ j : Nat, is[j]? = some k ∧ w1[j]? = some q) ∨ (k ∉ is ∧ ws[k]? = some q)
  | [], [], ws, _, _, _, k, q, h => Or.inr ⟨List.not_mem_nil, h⟩
  | [], _ :: _, _, _, hn, _, _, _, _ => by simp at hn
  | _ :: _, [], _, _, hn, _, _, _, _ => by simp at hn
  | i :: is, c :: cs, ws, hl, hn, hd, k, q, h => by
    simp only [va_nd, Bool.and_eq_true, decide_eq_true_eq] at hd
    have h' : (zput (ws.set i c) is cs)[k]? = some q := h
    rcases zput_get is cs (ws.set i c) (by intro x hx; rw [List.length_set]; exact hl x (List.mem_cons_of_mem _ hx)) (by simpa using hn) hd.2 k q h' with ⟨j, h1, h2⟩ | ⟨h1, h2⟩
    · exact Or.inl ⟨j + 1, by rw [List.getElem?_cons_succ]; exact h1, by rw [List.getElem?_cons_succ]; exact h2⟩
    · by_cases hk : k = i
      · subst hk
        rw [List.getElem?_set_self (hl _ List.mem_cons_self)] at h2
        cases h2
        exact Or.inl ⟨0, rfl, rfl⟩
      · rw [List.getElem?_set_ne (Ne.symm hk)] at h2
        exact Or.inr ⟨by simp [hk, h1], h2⟩
theorem zat {ws wc : va_W} {is : List Nat} (hC : is.map (fun i => ws[i]?) = wc.map some) (j i : Nat) (hj : is[j]? = some i) : ∃ x : Nat × va_E, wc[j]? = some x ∧ ws[i]? = some x := by
  have h1 : (is.map (fun i => ws[i]?))[j]? = some (ws[i]?) := by rw [List.getElem?_map, hj]; rfl
  rw [hC, List.getElem?_map] at h1
  cases hx : wc[j]? with
  | none => rw [hx] at h1; cases h1
  | some x => rw [hx] at h1; exact ⟨x, rfl, (Option.some.inj h1).symm⟩
theorem zat2 {ws wc : va_W} {is : List Nat} (hC : is.map (fun i => ws[i]?) = wc.map some) (k : Nat) (q : Nat × va_E) (hk : wc[k]? = some q) : ∃ i : Nat, is[k]? = some i ∧ ws[i]? = some q := by
  have h1 : (is.map (fun i => ws[i]?))[k]? = some (some q) := by rw [hC, List.getElem?_map, hk]; rfl
  rw [List.getElem?_map] at h1
  cases hi : is[k]? with
  | none => rw [hi] at h1; cases h1
  | some i => rw [hi] at h1; exact ⟨i, rfl, Option.some.inj h1⟩
theorem zP_sub {D : va_G} {cl : List vw_C} {ws wc : va_W} {H : Heap} (hP : va_P D cl ws H) {is : List Nat} (hC : is.map (fun i => ws[i]?) = wc.map some) : va_P D cl wc H := fun k q hk => by
  obtain ⟨i, -, h2⟩ := zat2 hC k q hk
  exact hP i q h2
/-- behind a call: the callee's cells are put back in their places -/
theorem zjoin {A0 : Nat → Prop} {D : va_G} {cl : List vw_C} {ws wc w1 : va_W} {H H1 : Heap} (hP : va_P D cl ws H) (hD : va_D A0 ws) {is : List Nat} (hC : is.map (fun i => ws[i]?) = wc.map some) (hl : w1.length = wc.length) (hn : va_nd is = true)
    (hk : ∀ q : Nat, q < H.size → ¬ va_A wc H.size q → H1[q]? = H[q]?) (hF : ∀ q, va_A wc H.size q → A0 q) (hP1 : va_P D cl w1 H1) (hD1 : va_D (va_A wc H.size) w1) : va_P D cl (zput ws is w1) H1 ∧ va_D A0 (zput ws is w1) := by
  have hlen : is.length = wc.length := by
    have := congrArg List.length hC
    simpa using this
  have hlt : ∀ i ∈ is, i < ws.length := by
    intro i hi
    obtain ⟨j, hj⟩ := List.getElem?_of_mem hi
    obtain ⟨x, -, h2⟩ := zat hC j i hj
    exact (List.getElem?_eq_some_iff.mp h2).1
  have key := zput_get is w1 ws hlt (hlen.trans hl.symm) hn
  have apart : ∀ (k : Nat) (q : Nat × va_E), k ∉ is → ws[k]? = some q → q.1 < H.size ∧ ¬ va_A wc H.size q.1 := by
    intro k q hk0 hq
    have hq1 := (hP k q hq).lt
    refine ⟨hq1, fun h => ?_⟩
    rcases h with ⟨k2, e, h⟩ | h
    · obtain ⟨i, h1, h2⟩ := zat2 hC k2 (q.1, e) h
      have h3 := hD.1 k i q (q.1, e) hq h2 rfl
      exact hk0 (by rw [h3]; exact List.mem_of_getElem? h1)
    · omega
  refine ⟨fun k q h => ?_, ⟨fun i j p q hi hj hpq => ?_, fun k q h => ?_⟩⟩
  · rcases key k q h with ⟨j, h1, h2⟩ | ⟨h1, h2⟩
    · exact hP1 j q h2
    · obtain ⟨g1, g2⟩ := apart k q h1 h2
      exact (hP k q h2).kept (hk q.1 g1 g2)
  · rcases key i p hi with ⟨j1, a1, a2⟩ | ⟨a1, a2⟩ <;> rcases key j q hj with ⟨j2, b1, b2⟩ | ⟨b1, b2⟩
    · have h3 := hD1.1 j1 j2 p q a2 b2 hpq
      subst h3
      exact Option.some.inj (a1.symm.trans b1)
    · have h3 := hD1.2 j1 p a2
      rw [hpq] at h3
      exact absurd h3 (apart j q b1 b2).2
    · have h3 := hD1.2 j2 q b2
      rw [← hpq] at h3
      exact absurd h3 (apart i p a1 a2).2
    · exact hD.1 i j p q a2 b2 hpq
  · rcases key k q h with ⟨j, h1, h2⟩ | ⟨h1, h2⟩
    · exact hF _ (hD1.2 j q h2)
    · exact hD.2 k q h2
/-- an index: in range, and which place -/
def zix (i : Int32) (n j : Nat) : Prop := vp_in i n ∧ i.toNatClampNeg = j
theorem zix_nI {j n : Nat} (h : j < n) (hn : n < 2 ^ 31) : zix (nI j) n j := ⟨vp_in_nI h hn, nI_clamp (by omega)⟩
theorem z_ge {i n : Nat} (hi : i ≤ n) (hn : n < 2 ^ 31) (c : nI n ≤ nI i) : i = n := by
  have := (nI_leI hn (Nat.lt_of_le_of_lt hi hn)).mp c
  omega
theorem z_lt {i n : Nat} (hi : i ≤ n) (hn : n < 2 ^ 31) (c : ¬ nI n ≤ nI i) : i < n := by
  rcases Nat.lt_or_ge i n with h | h
  · exact h
  · exact absurd (nI_le h (Nat.lt_of_le_of_lt hi hn)) c
theorem z_1 {i : Nat} : nI i + Int32.ofInt 1 = nI (i + 1) := nI_1 i
theorem z_nb (c : Prop) [Decidable c] : narrow .boolean (.int (if c then (1 : Int32) else 0)) = .int (if c then (1 : Int32) else 0) := by split <;> rfl
theorem z_vb (c : Prop) [Decidable c] : vp_nar .boolean (if c then (1 : Int32) else 0) = (if c then (1 : Int32) else 0) := by split <;> rfl
theorem lv_cg {ls : Array Slot} {n : Nat} {l l' : List (Nat × Value)} (h : lv_has ls n l) (e : l = l') : lv_has ls n l' := e ▸ h
theorem zl_c {i : Nat} {x y : Int32} {t t' : List (Nat × Value)} (h : x = y) (ht : t = t') : (i, Value.int x) :: t = (i, Value.int y) :: t' := by rw [h, ht]
theorem zl_k {a : Nat × Value} {t t' : List (Nat × Value)} (ht : t = t') : a :: t = a :: t' := by rw [ht]
theorem zP_eq {D : va_G} {cl : List vw_C} {ws ws' : va_W} {H : Heap} (h : va_P D cl ws H) (e : ws = ws') : va_P D cl ws' H := e ▸ h
theorem zD_eq {A : Nat → Prop} {ws ws' : va_W} (h : va_D A ws) (e : ws = ws') : va_D A ws' := e ▸ h
theorem zw_k {a : Nat × va_E} {t t' : va_W} (ht : t = t') : a :: t = a :: t' := by rw [ht]
theorem zw_a {a : Nat} {cA : ClassId} {n : Nat} {f g : zI} {t t' : va_W} (h : f = g) (ht : t = t') : (a, Sum.inl (cA, n, Sum.inl f)) :: t = ((a, Sum.inl (cA, n, Sum.inl g)) :: t' : va_W) := by rw [h, ht]
theorem zw_o {a ci : Nat} {f g : List Value} {t t' : va_W} (h : f = g) (ht : t = t') : (a, Sum.inr (ci, f)) :: t = ((a, Sum.inr (ci, g)) :: t' : va_W) := by rw [h, ht]
theorem zv_k {a : Value} {t t' : List Value} (ht : t = t') : a :: t = a :: t' := by rw [ht]
theorem zv_c {x y : Int32} {t t' : List Value} (h : x = y) (ht : t = t') : Value.int x :: t = Value.int y :: t' := by rw [h, ht]
section VA
variable {p : Program} {l : Launch} {e : Env} {R : Room} {s : State} {m : MethodId} {args : Array Value} {below : List Frame} {meth : Method} {c : Code} {H : Heap} {locs : List Loc} {cells slots : Nat} {Q : State → Prop}
variable {cc : ByteArray} {pc : Nat} {ls : Array Slot} {rest st0 : List Value} {D : va_G} {cl : List vw_C} {A A0 : Nat → Prop} {a : Nat} {cI cZ cH cJ : ClassId} {ws wc w1 : va_W} {H0 : Heap} {av : Array Value}
theorem z_tv {x v : Int32} (h : x = v) (k : W p l e R s m args below meth c H locs cells slots Q (F0 m pc ls (.int v :: rest))) : W p l e R s m args below meth c H locs cells slots Q (F0 m pc ls (.int x :: rest)) := by rw [h]; exact k
theorem z_iald (hx : p.tables.exec = Jvm.exec) (hb : c.code = cc) (hK : va_K D cl (zTy cI cZ cH cJ) s) (hP : va_P D cl ws H) (q0 : Nat) {n : Nat} {f : zI} (ha : ws[q0]? = some (a, .inl (cI, n, .inl f))) {i : Int32} {j : Nat} (hi : zix i n j) (d : decode cc pc = .ok (.iaload, 1))
    (kk : W p l e R s m args below meth c H locs cells slots Q (F0 m (pc + 1) ls (.int (f j) :: rest))) : W p l e R s m args below meth c H locs cells slots Q (F0 m pc ls (.int i :: .ref a :: rest)) :=
  va_iald hx hb hK hP q0 0 ha rfl hi.1 d (by rw [hi.2]; exact kk)
theorem z_zald (hx : p.tables.exec = Jvm.exec) (hb : c.code = cc) (hK : va_K D cl (zTy cI cZ cH cJ) s) (hP : va_P D cl ws H) (q0 : Nat) {n : Nat} {f : zI} (ha : ws[q0]? = some (a, .inl (cZ, n, .inl f))) {i : Int32} {j : Nat} (hi : zix i n j) (d : decode cc pc = .ok (.baload, 1))
    (kk : W p l e R s m args below meth c H locs cells slots Q (F0 m (pc + 1) ls (.int (f j) :: rest))) : W p l e R s m args below meth c H locs cells slots Q (F0 m pc ls (.int i :: .ref a :: rest)) :=
  va_zald hx hb hK hP q0 1 ha rfl hi.1 d (by rw [hi.2]; exact kk)
theorem z_iast (hx : p.tables.exec = Jvm.exec) (hb : c.code = cc) (hK : va_K D cl (zTy cI cZ cH cJ) s) (hP : va_P D cl ws H) (hD : va_D A ws) (hS : va_S A H0 H locs) (q0 : Nat) {n : Nat} {f : zI} (ha : ws[q0]? = some (a, .inl (cI, n, .inl f))) {i x : Int32} {j : Nat} (hi : zix i n j) (d : decode cc pc = .ok (.iastore, 1))
    (kk : ∀ (H1 : Heap) (locs1 : List Loc), va_P D cl (ws.set q0 (a, .inl (cI, n, .inl (upd f j x)))) H1 → va_D A (ws.set q0 (a, .inl (cI, n, .inl (upd f j x)))) → va_S A H0 H1 locs1 → W p l e R s m args below meth c H1 locs1 cells slots Q (F0 m (pc + 1) ls rest)) : W p l e R s m args below meth c H locs cells slots Q (F0 m pc ls (.int x :: .int i :: .ref a :: rest)) :=
  va_iast hx hb hK hP hD hS q0 0 ha rfl hi.1 d (by rw [hi.2]; exact kk)
theorem z_zast (hx : p.tables.exec = Jvm.exec) (hb : c.code = cc) (hK : va_K D cl (zTy cI cZ cH cJ) s) (hP : va_P D cl ws H) (hD : va_D A ws) (hS : va_S A H0 H locs) (q0 : Nat) {n : Nat} {f : zI} (ha : ws[q0]? = some (a, .inl (cZ, n, .inl f))) {i x v : Int32} {j : Nat} (hi : zix i n j) (hv : vp_nar .boolean x = v) (d : decode cc pc = .ok (.bastore, 1))
    (kk : ∀ (H1 : Heap) (locs1 : List Loc), va_P D cl (ws.set q0 (a, .inl (cZ, n, .inl (upd f j v)))) H1 → va_D A (ws.set q0 (a, .inl (cZ, n, .inl (upd f j v)))) → va_S A H0 H1 locs1 → W p l e R s m args below meth c H1 locs1 cells slots Q (F0 m (pc + 1) ls rest)) : W p l e R s m args below meth c H locs cells slots Q (F0 m pc ls (.int x :: .int i :: .ref a :: rest)) := by
  subst hv
  exact va_zast hx hb hK hP hD hS q0 1 ha rfl hi.1 d (by rw [hi.2]; exact kk)
theorem z_aldq (hx : p.tables.exec = Jvm.exec) (hb : c.code = cc) (hK : va_K D cl (zTy cI cZ cH cJ) s) (hP : va_P D cl ws H) (q0 : Nat) {n : Nat} {f : Nat → Option Nat} (ha : ws[q0]? = some (a, .inl (cH, n, .inr (.inr (.inr (.inr f)))))) {i : Int32} {j : Nat} {v : Value} (hi : zix i n j) (hv : va_rf (f j) = v) (d : decode cc pc = .ok (.aaload, 1))
    (kk : W p l e R s m args below meth c H locs cells slots Q (F0 m (pc + 1) ls (v :: rest))) : W p l e R s m args below meth c H locs cells slots Q (F0 m pc ls (.int i :: .ref a :: rest)) :=
  va_aldq hx hb hK hP q0 2 ha rfl hi.1 d (by rw [hi.2, hv]; exact kk)
theorem z_lald (hx : p.tables.exec = Jvm.exec) (hb : c.code = cc) (hK : va_K D cl (zTy cI cZ cH cJ) s) (hP : va_P D cl ws H) (q0 : Nat) {n : Nat} {f : Nat → Int64} (ha : ws[q0]? = some (a, .inl (cJ, n, .inr (.inl f)))) {i : Int32} {j : Nat} (hi : zix i n j) (d : decode cc pc = .ok (.laload, 1))
    (kk : W p l e R s m args below meth c H locs cells slots Q (F0 m (pc + 1) ls (.long (f j) :: rest))) : W p l e R s m args below meth c H locs cells slots Q (F0 m pc ls (.int i :: .ref a :: rest)) :=
  va_lald hx hb hK hP q0 3 ha rfl hi.1 d (by rw [hi.2]; exact kk)
theorem z_last (hx : p.tables.exec = Jvm.exec) (hb : c.code = cc) (hK : va_K D cl (zTy cI cZ cH cJ) s) (hP : va_P D cl ws H) (hD : va_D A ws) (hS : va_S A H0 H locs) (q0 : Nat) {n : Nat} {f : Nat → Int64} (ha : ws[q0]? = some (a, .inl (cJ, n, .inr (.inl f)))) {i : Int32} {x : Int64} {j : Nat} (hi : zix i n j) (d : decode cc pc = .ok (.lastore, 1))
    (kk : ∀ (H1 : Heap) (locs1 : List Loc), va_P D cl (ws.set q0 (a, .inl (cJ, n, .inr (.inl (vp_updL f j x))))) H1 → va_D A (ws.set q0 (a, .inl (cJ, n, .inr (.inl (vp_updL f j x))))) → va_S A H0 H1 locs1 → W p l e R s m args below meth c H1 locs1 cells slots Q (F0 m (pc + 1) ls rest)) : W p l e R s m args below meth c H locs cells slots Q (F0 m pc ls (.long x :: .int i :: .ref a :: rest)) :=
  va_last hx hb hK hP hD hS q0 3 ha rfl hi.1 d (by rw [hi.2]; exact kk)
end VA
/-! contracts: what a method gets, what it gives -/
/-- only arguments -/
def zSc (av : List Value) : Array Value → State → Prop := va_Pc av (fun _ => True)
/-- a world that is only read -/
def zRc (dC : Nat → ClassId) (dI : Nat → Nat → Nat) (tys : List (ClassId × FieldType)) (av : List Value) (ws : va_W) : Array Value → State → Prop := va_Pc av (fun U => va_P (dC, dI) vwCl ws U.heap ∧ va_K (dC, dI) vwCl tys U)
/-- a world that may change -/
def zPc (dC : Nat → ClassId) (dI : Nat → Nat → Nat) (tys : List (ClassId × FieldType)) (av : List Value) (sz : Nat) (ws : va_W) : Array Value → State → Prop := va_Pc av (fun U => U.heap.size = sz ∧ va_P (dC, dI) vwCl ws U.heap ∧ va_K (dC, dI) vwCl tys U ∧ va_D (fun _ => True) ws)
def zSi (v : Int32) : Array Value → State → Outcome → State → Prop := fun _ st oc t => oc = .returned (some (.int v)) ∧ t.heap = st.heap
def zQi (dC : Nat → ClassId) (dI : Nat → Nat → Nat) (v : Int32) (w1 : va_W) (A : Nat → Prop) : Array Value → State → Outcome → State → Prop := fun _ st oc t => oc = .returned (some (.int v)) ∧ (va_P (dC, dI) vwCl w1 t.heap ∧ va_D A w1) ∧ va_F A st t
def zQv (dC : Nat → ClassId) (dI : Nat → Nat → Nat) (w1 : va_W) (A : Nat → Prop) : Array Value → State → Outcome → State → Prop := fun _ st oc t => oc = .returned none ∧ (va_P (dC, dI) vwCl w1 t.heap ∧ va_D A w1) ∧ va_F A st t
/-- a constructor: it makes cells, at addresses that it tells -/
def zQn (dC : Nat → ClassId) (dI : Nat → Nat → Nat) {S : Type} (px : S → Prop) (w1 : S → va_W) (A : Nat → Prop) : Array Value → State → Outcome → State → Prop := fun _ st oc t => oc = .returned none ∧ (∃ u : S, px u ∧ va_P (dC, dI) vwCl (w1 u) t.heap ∧ va_D A (w1 u)) ∧ va_F A st t
theorem zPre0 {s : State} {H : Heap} {As : List Value} : PreS s H (zSc As) As := ⟨fun _ _ _ _ q => q, fun _ _ _ => ⟨rfl, trivial⟩⟩
theorem zRc_blind {dC : Nat → ClassId} {dI : Nat → Nat → Nat} {tys : List (ClassId × FieldType)} {av : List Value} {ws : va_W} : FrameBlind (zRc dC dI tys av ws) := fun a U g mk q => by
  obtain ⟨q0, qP, qK⟩ := q
  exact ⟨q0, qP, va_K.moved (u := U) (U := U.calling g mk a) (Vm.Alike.refl U.vm) qK⟩
theorem zPc_blind {dC : Nat → ClassId} {dI : Nat → Nat → Nat} {tys : List (ClassId × FieldType)} {av : List Value} {sz : Nat} {ws : va_W} : FrameBlind (zPc dC dI tys av sz ws) := fun a U g mk q => by
  obtain ⟨q0, q1, qP, qK, qD⟩ := q
  exact ⟨q0, q1, qP, va_K.moved (u := U) (U := U.calling g mk a) (Vm.Alike.refl U.vm) qK, qD⟩
section PR
variable {dC : Nat → ClassId} {dI : Nat → Nat → Nat} {tys : List (ClassId × FieldType)} {s : State} {H : Heap} {C : String} {b : Nat} {As : List Value} {ws wc : va_W} {A0 : Nat → Prop} {is : List Nat}
theorem zPreRS (hK : va_K (dC, dI) vwCl tys s) (hP : va_P (dC, dI) vwCl ws H) (hC : is.map (fun i => ws[i]?) = wc.map some) : PreS s H (zRc dC dI tys As wc) As :=
  ⟨zRc_blind, fun U hU hW => ⟨rfl, by rw [hU]; exact zP_sub hP hC, va_K.moved hW.alike hK⟩⟩
theorem zPreR (hK : va_K (dC, dI) vwCl tys s) (hP : va_P (dC, dI) vwCl ws H) (hC : is.map (fun i => ws[i]?) = wc.map some) (rc : ∃ cell : Cell, H[b]? = some cell ∧ cell.vm.isStatics = false ∧ s.vm.findClass C = some cell.cls) : PreV s H C b (zRc dC dI tys (.ref b :: As) wc) As :=
  ⟨zRc_blind, rc, fun U hU hW => ⟨rfl, by rw [hU]; exact zP_sub hP hC, va_K.moved hW.alike hK⟩⟩
theorem zD_sub (hD : va_D A0 ws) (hn : va_nd is = true) (hC : is.map (fun i => ws[i]?) = wc.map some) : va_D (fun _ => True) wc := (hD.sub is hn hC).weaken (fun _ _ _ _ => trivial)
theorem zPreS (hK : va_K (dC, dI) vwCl tys s) (hP : va_P (dC, dI) vwCl ws H) (hD : va_D A0 ws) (hn : va_nd is = true) (hC : is.map (fun i => ws[i]?) = wc.map some) : PreS s H (zPc dC dI tys As H.size wc) As :=
  ⟨zPc_blind, fun U hU hW => ⟨rfl, by rw [hU], by rw [hU]; exact zP_sub hP hC, va_K.moved hW.alike hK, zD_sub hD hn hC⟩⟩
theorem zPreV (hK : va_K (dC, dI) vwCl tys s) (hP : va_P (dC, dI) vwCl ws H) (hD : va_D A0 ws) (hn : va_nd is = true) (hC : is.map (fun i => ws[i]?) = wc.map some) (rc : ∃ cell : Cell, H[b]? = some cell ∧ cell.vm.isStatics = false ∧ s.vm.findClass C = some cell.cls) : PreV s H C b (zPc dC dI tys (.ref b :: As) H.size wc) As :=
  ⟨zPc_blind, rc, fun U hU hW => ⟨rfl, by rw [hU], by rw [hU]; exact zP_sub hP hC, va_K.moved hW.alike hK, zD_sub hD hn hC⟩⟩
end PR
section CA
variable {p : Program} {l : Launch} {e : Env} {R : Room} {s : State} {m : MethodId} {args : Array Value} {below : List Frame} {meth : Method} {c : Code} {H : Heap} {locs : List Loc} {cells slots : Nat} {Q : State → Prop}
variable {pc : Nat} {ls : Array Slot} {rest st0 : List Value} {A0 : Nat → Prop} {ws wc w1 : va_W} {H0 : Heap} {a : Array Value} {dC : Nat → ClassId} {dI : Nat → Nat → Nat} {is : List Nat} {mc ms : Nat} {v : Int32}
/-- a call that only reads -/
theorem z_cRi (hr : va_Run p l e R s m args below meth c H locs cells slots 0 0 (F0 m pc ls st0) rest (zSi v a) (fun _ => False))
    (kk : W p l e R s m args below meth c H locs cells slots Q (F0 m (pc + 3) ls (.int v :: rest))) : W p l e R s m args below meth c H locs cells slots Q (F0 m pc ls st0) := by
  intro T hT X
  obtain ⟨vv, st₀, t, T', L, h0, X', hL, e1, e2, ⟨hv, hh⟩, st⟩ := hr T hT X
  cases hv
  obtain ⟨t2, a1, b1⟩ := kk T' (by rw [e1, hh, h0]) (Stand.forget X' (fun q h => (hL q h).elim))
  exact ⟨t2, st t2 a1, b1⟩
/-- a call that changes its world -/
theorem z_cMi (hr : va_Run p l e R s m args below meth c H locs cells slots mc ms (F0 m pc ls st0) rest (zQi dC dI v w1 (va_A wc H.size) a) (va_A wc H.size)) (hP : va_P (dC, dI) vwCl ws H) (hD : va_D A0 ws) (hS : va_S A0 H0 H locs) (hA : ∀ q, H0.size ≤ q → A0 q) (hC : is.map (fun i => ws[i]?) = wc.map some) (hn : va_nd is = true) (hl : w1.length = wc.length)
    (kk : ∀ (H1 : Heap) (locs1 : List Loc), va_P (dC, dI) vwCl (zput ws is w1) H1 → va_D A0 (zput ws is w1) → va_S A0 H0 H1 locs1 → W p l e R s m args below meth c H1 locs1 (cells + mc) (slots + ms) Q (F0 m (pc + 3) ls (.int v :: rest))) : W p l e R s m args below meth c H locs cells slots Q (F0 m pc ls st0) := by
  have hFc : ∀ q, va_A wc H.size q → A0 q := va_free hD hS hA is hC
  refine va_calli (A1 := va_A wc H.size) (post := fun (r : Int32) (_ : Unit) => r = v) (B := fun _ t => va_P (dC, dI) vwCl w1 t.heap ∧ va_D (va_A wc H.size) w1) (a := a) (mc := mc) (ms := ms) (free := va_A wc H.size) (rest := rest) ?_ hS (fun q _ h => hFc q h) hFc (fun r u t H1 locs1 ht hvm hw hB hz1 hk1 hS1 => ?_)
  · intro T hT X
    obtain ⟨vv, st₀, t, T', L, h0, X', hL, e1, e2, ⟨hv, hB, hF⟩, st⟩ := hr T hT X
    exact ⟨vv, st₀, t, T', L, h0, X', hL, e1, e2, ⟨⟨v, (), hv, rfl, hB⟩, hF⟩, st⟩
  · subst hw
    obtain ⟨hP1, hD1⟩ := hB
    rw [ht] at hP1
    obtain ⟨hP2, hD2⟩ := zjoin hP hD hC hl hn hk1 hFc hP1 hD1
    exact kk H1 locs1 hP2 hD2 hS1
theorem z_cMv (hr : va_Run p l e R s m args below meth c H locs cells slots mc ms (F0 m pc ls st0) rest (zQv dC dI w1 (va_A wc H.size) a) (va_A wc H.size)) (hP : va_P (dC, dI) vwCl ws H) (hD : va_D A0 ws) (hS : va_S A0 H0 H locs) (hA : ∀ q, H0.size ≤ q → A0 q) (hC : is.map (fun i => ws[i]?) = wc.map some) (hn : va_nd is = true) (hl : w1.length = wc.length)
    (kk : ∀ (H1 : Heap) (locs1 : List Loc), va_P (dC, dI) vwCl (zput ws is w1) H1 → va_D A0 (zput ws is w1) → va_S A0 H0 H1 locs1 → W p l e R s m args below meth c H1 locs1 (cells + mc) (slots + ms) Q (F0 m (pc + 3) ls rest)) : W p l e R s m args below meth c H locs cells slots Q (F0 m pc ls st0) := by
  have hFc : ∀ q, va_A wc H.size q → A0 q := va_free hD hS hA is hC
  refine va_callv (A1 := va_A wc H.size) (post := fun (_ : Unit) => True) (B := fun _ t => va_P (dC, dI) vwCl w1 t.heap ∧ va_D (va_A wc H.size) w1) (a := a) (mc := mc) (ms := ms) (free := va_A wc H.size) (rest := rest) ?_ hS (fun q _ h => hFc q h) hFc (fun u t H1 locs1 ht hvm hw hB hz1 hk1 hS1 => ?_)
  · intro T hT X
    obtain ⟨vv, st₀, t, T', L, h0, X', hL, e1, e2, ⟨hv, hB, hF⟩, st⟩ := hr T hT X
    exact ⟨vv, st₀, t, T', L, h0, X', hL, e1, e2, ⟨⟨(), hv, trivial, hB⟩, hF⟩, st⟩
  · obtain ⟨hP1, hD1⟩ := hB
    rw [ht] at hP1
    obtain ⟨hP2, hD2⟩ := zjoin hP hD hC hl hn hk1 hFc hP1 hD1
    exact kk H1 locs1 hP2 hD2 hS1
end CA
end ZL
end
section
/-! ===== what the methods of the class compute, over numbers and functions ===== -/
/-- how many places below n hold something -/
def zcnt (T : zI) : Nat → Int32
  | 0 => 0
  | n + 1 => if T n = 0 then zcnt T n else zcnt T n + 1
def zcow (T W : zI) (w : Int32) : Nat → Int32
  | 0 => 0
  | n + 1 => if T n = 0 then zcow T W w n else if W n = w then zcow T W w n + 1 else zcow T W w n
def zlike (T W V S T' W' V' S' : zI) (r : Nat) : Int32 :=
  if T r = 0 ∨ T' r = 0 then (if T r = T' r then 1 else 0) else if W r = W' r ∧ V r = V' r ∧ S r = S' r then 1 else 0
def zcu (T W V S T' W' V' S' : zI) : Nat → Int32
  | 0 => 0
  | n + 1 => if zlike T W V S T' W' V' S' n = 0 then zcu T W V S T' W' V' S' n + 1 else zcu T W V S T' W' V' S' n
def zlat (T W S : zI) (w : Int32) : Nat → Int32 × Int32
  | 0 => (-1, -1)
  | n + 1 => if T n = 0 then zlat T W S w n else if W n = w then (if S n ≤ (zlat T W S w n).2 then zlat T W S w n else (nI n, S n)) else zlat T W S w n
/-- a stamp by a clock -/
def zst (un day : Int32) : Int32 := if un ≤ 1 then day else day - (day - day / un * un)
/-- told deletes that go -/
def zfg (iT rD : zI) (de today : Int32) (n : Nat) : zI := fun j => if j < n ∧ (de = 2 ∨ (de = 1 ∧ ¬ today - rD j < 10)) then 0 else iT j
theorem zfg_y {iT rD : zI} {de today : Int32} {n : Nat} (h : de = 2 ∨ (de = 1 ∧ ¬ today - rD n < 10)) : upd (zfg iT rD de today n) n 0 = zfg iT rD de today (n + 1) := by
  funext j
  unfold upd zfg
  by_cases hj : j = n
  · subst hj
    rw [if_pos rfl, if_pos ⟨Nat.lt_succ_self _, h⟩]
  · rw [if_neg hj]
    have : (j < n + 1) = (j < n) := propext ⟨fun q => by omega, fun q => by omega⟩
    simp only [this]
theorem zfg_n {iT rD : zI} {de today : Int32} {n : Nat} (h : ¬ (de = 2 ∨ (de = 1 ∧ ¬ today - rD n < 10))) : zfg iT rD de today n = zfg iT rD de today (n + 1) := by
  funext j
  unfold zfg
  by_cases hj : j = n
  · subst hj
    rw [if_neg (fun q => h q.2), if_neg (fun q => h q.2)]
  · have : (j < n + 1) = (j < n) := propext ⟨fun q => by omega, fun q => by omega⟩
    simp only [this]
theorem zfg_0 {iT rD : zI} {de today : Int32} : iT = zfg iT rD de today 0 := by
  funext j
  unfold zfg
  rw [if_neg (fun q => Nat.not_lt_zero _ q.1)]
def zls (fT fS iT tS : zI) (r : Nat) : Int32 := if fT r = 0 then (if iT r = 0 then -1 else tS r) else fS r
/-- the next one of a list: (number, stamp) -/
def znx (f : zI) (first ps pr : Int32) : Nat → Int32 × Int32
  | 0 => (-1, -1)
  | n + 1 => if f n ≠ -1 ∧ ¬ f n < first ∧ (ps < f n ∨ (f n = ps ∧ ¬ nI n ≤ pr)) ∧ ((znx f first ps pr n).1 = -1 ∨ ¬ (znx f first ps pr n).2 ≤ f n) then (nI n, f n) else znx f first ps pr n
theorem znx_in (f : zI) (first ps pr : Int32) : ∀ n, (znx f first ps pr n).1 = -1 ∨ ∃ r, r < n ∧ (znx f first ps pr n).1 = nI r
  | 0 => Or.inl rfl
  | n + 1 => by
    rcases znx_in f first ps pr n with h | ⟨r, h1, h2⟩
    · unfold znx
      split
      · exact Or.inr ⟨n, Nat.lt_succ_self n, rfl⟩
      · exact Or.inl h
    · unfold znx
      split
      · exact Or.inr ⟨n, Nat.lt_succ_self n, rfl⟩
      · exact Or.inr ⟨r, Nat.lt_succ_of_lt h1, h2⟩
theorem znx_ne {f : zI} {first ps pr : Int32} {n : Nat} (h : ¬ (znx f first ps pr n).1 = -1) : ∃ r, r < n ∧ (znx f first ps pr n).1 = nI r := (znx_in f first ps pr n).resolve_left h
def zclr (t : zI) (n : Nat) : zI := fun j => if j < n then 0 else t j
theorem zclr_0 {t : zI} : t = zclr t 0 := rfl
theorem zclr_s {t : zI} {n : Nat} : upd (zclr t n) n 0 = zclr t (n + 1) := by
  funext j
  unfold upd zclr
  by_cases hj : j = n
  · subst hj
    rw [if_pos rfl, if_pos (Nat.lt_succ_self _)]
  · rw [if_neg hj]
    have : (j < n + 1) = (j < n) := propext ⟨fun q => by omega, fun q => by omega⟩
    simp only [this]
def zdrp (sT tk : zI) (n : Nat) : zI := fun j => if j < n ∧ tk j = 0 then 0 else sT j
theorem zdrp_0 {sT tk : zI} : sT = zdrp sT tk 0 := by
  funext j
  unfold zdrp
  rw [if_neg (fun q => Nat.not_lt_zero _ q.1)]
theorem zdrp_y {sT tk : zI} {n : Nat} (h : tk n = 0) : upd (zdrp sT tk n) n 0 = zdrp sT tk (n + 1) := by
  funext j
  unfold upd zdrp
  by_cases hj : j = n
  · subst hj
    rw [if_pos rfl, if_pos ⟨Nat.lt_succ_self _, h⟩]
  · rw [if_neg hj]
    have : (j < n + 1) = (j < n) := propext ⟨fun q => by omega, fun q => by omega⟩
    simp only [this]
theorem zdrp_n {sT tk : zI} {n : Nat} (h : ¬ tk n = 0) : zdrp sT tk n = zdrp sT tk (n + 1) := by
  funext j
  unfold zdrp
  by_cases hj : j = n
  · subst hj
    rw [if_neg (fun q => h q.2), if_neg (fun q => h q.2)]
  · have : (j < n + 1) = (j < n) := propext ⟨fun q => by omega, fun q => by omega⟩
    simp only [this]
theorem z_nf {v : Int32} (h : v = 0 ∨ v = 1) : narrow .boolean (.int v) = .int v := by rcases h with rfl | rfl <;> rfl
theorem z_vf {v : Int32} (h : v = 0 ∨ v = 1) : vp_nar .boolean v = v := by rcases h with rfl | rfl <;> rfl
theorem z_un {un : Int32} (h : ¬ un ≤ 1) : ¬ un = 0 := fun q => h (by rw [q]; decide)
/-! a page: (placeStamp, placeRecord, store's four, taken over) -/
abbrev zPg : Type := Int32 × Int32 × zI × zI × zI × zI × zI
def ztk (fT fW fV fS z : zI) (x : zPg) (r : Nat) : zPg :=
  (z r, nI r, upd x.2.2.1 r (if fT r = 0 then 0 else 1), (if fT r = 0 then x.2.2.2.1 else upd x.2.2.2.1 r (fW r)), (if fT r = 0 then x.2.2.2.2.1 else upd x.2.2.2.2.1 r (fV r)), (if fT r = 0 then x.2.2.2.2.2.1 else upd x.2.2.2.2.2.1 r (fS r)), (if fT r = 0 then x.2.2.2.2.2.2 else upd x.2.2.2.2.2.2 r 1))
def zpg (fT fW fV fS z : zI) (first : Int32) : Nat → zPg → Int32 → zPg × Int32
  | 0, x, c => (x, c)
  | k + 1, x, c => if (znx z first x.1 x.2.1 20).1 = -1 then (x, c) else zpg fT fW fV fS z first k (ztk fT fW fV fS z x (znx z first x.1 x.2.1 20).1.toNatClampNeg) (c + 1)
/-- a page's end -/
def zte (z : zI) (first un mk ho fl od : Int32) (y : zPg × Int32) : Int32 × Int32 × Int32 × Int32 × zPg :=
  if (znx z first y.1.1 y.1.2.1 20).1 = -1 then (y.2, zst un od, 0, od, y.1.1, y.1.2.1, (if fl = 0 then y.1.2.2.1 else zdrp y.1.2.2.1 y.1.2.2.2.2.2.2 20), y.1.2.2.2)
  else (y.2, mk, ho, od, y.1)
/-- a whole page: (count, mark, hasOpenList, openingDay, the rest) out of mark, isFullList, openingDay, tokenDay -/
def ztp (fT fW fV fS z : zI) (un today mk ho fl od td : Int32) (x : zPg) : Int32 × Int32 × Int32 × Int32 × zPg :=
  if today - td ≤ 5 then zte z (if fl = 0 then mk else 0) un mk ho fl od (zpg fT fW fV fS z (if fl = 0 then mk else 0) 3 x 0)
  else zte z (if fl = 0 then mk else 0) un mk 1 fl today (zpg fT fW fV fS z (if fl = 0 then mk else 0) 3 (-1, -1, x.2.2.1, x.2.2.2.1, x.2.2.2.2.1, x.2.2.2.2.2.1, zclr x.2.2.2.2.2.2 20) 0)
theorem zpg_e {fT fW fV fS z : zI} {first : Int32} {n : Nat} {x : zPg} {c : Int32} (h : (znx z first x.1 x.2.1 20).1 = -1) : zpg fT fW fV fS z first n x c = (x, c) := by
  cases n with
  | zero => rfl
  | succ n => rw [zpg, if_pos h]
theorem zpg_s {fT fW fV fS z : zI} {first : Int32} {k r : Nat} {x : zPg} (h : ¬ (znx z first x.1 x.2.1 20).1 = -1) (hr : (znx z first x.1 x.2.1 20).1 = nI r) (h20 : r < 20) (hk : k < 3) : zpg fT fW fV fS z first (3 - k) x (nI k) = zpg fT fW fV fS z first (3 - (k + 1)) (ztk fT fW fV fS z x r) (nI (k + 1)) := by
  have h3 : 3 - k = (3 - (k + 1)) + 1 := by omega
  rw [h3, zpg, if_neg h, hr, nI_clamp (by omega), nI_1]
theorem z_ff {v : Int32} (h : v = 0 ∨ v = 1) : fits .boolean (.int v) = true := by rcases h with rfl | rfl <;> rfl
end
section
/-! ===== what the methods of the reference compute ===== -/
def zin (v a b : Int32) : Int32 := if v < a ∨ b < v then 0 else 1
theorem zin_nl (v a b : Int32) : narrow .boolean (.int (zin v a b)) = .int (zin v a b) := by unfold zin; split <;> rfl
theorem zin_c : ∀ n, n < 4 → zin (nI n) 0 3 = 1 := by decide +kernel
theorem zin_r : ∀ n, n < 20 → zin (nI n) 0 19 = 1 := by decide +kernel
theorem zin_01 (v a b : Int32) : zin v a b = 0 ∨ zin v a b = 1 := by unfold zin; split <;> simp
theorem zin_n1 {v a b : Int32} (h : ¬ zin v a b = 0) : zin v a b = 1 := (zin_01 v a b).resolve_left h
theorem z_sb {b i : Nat} : nI (b + i) - nI b = nI i := by
  have h := pk_sub (a := b + i) (b := b) (Nat.le_add_right _ _)
  rw [h]
  congr 1
  omega
theorem z_ge20 {i ca : Nat} (hi : i ≤ 20) (hca : ca < 4) (c : nI (20 * (ca + 1)) ≤ nI (20 * ca + i)) : i = 20 := by
  have := (nI_leI (by omega) (by omega)).mp c
  omega
theorem z_lt20 {i ca : Nat} (hi : i ≤ 20) (hca : ca < 4) (c : ¬ nI (20 * (ca + 1)) ≤ nI (20 * ca + i)) : i < 20 := by
  rcases Nat.lt_or_ge i 20 with h | h
  · exact h
  · exact absurd (nI_le (by omega) (by omega)) c
theorem z_ge20b {i ca : Nat} (hi : i ≤ 20) (hca : ca < 4) (c : nI (20 * ca + 20) ≤ nI (20 * ca + i)) : i = 20 := by
  have := (nI_leI (by omega) (by omega)).mp c
  omega
theorem z_lt20b {i ca : Nat} (hi : i ≤ 20) (hca : ca < 4) (c : ¬ nI (20 * ca + 20) ≤ nI (20 * ca + i)) : i < 20 := by
  rcases Nat.lt_or_ge i 20 with h | h
  · exact h
  · exact absurd (nI_le (by omega) (by omega)) c
def yst (un day : Int32) : Int32 := day - (day - day / un * un)
/-- told deletes that go, from place b on -/
def yclr (uK uR : zI) (way now : Int32) (b n : Nat) : zI := fun j => if b ≤ j ∧ j < b + n ∧ uK j = 2 ∧ (way = 2 ∨ (way = 1 ∧ ¬ now - uR j < 10)) then 0 else uK j
theorem yclr_0 {uK uR : zI} {way now : Int32} {b : Nat} : uK = yclr uK uR way now b 0 := by
  funext j
  unfold yclr
  rw [if_neg (fun q => by omega)]
theorem yclr_at {uK uR : zI} {way now : Int32} {b n : Nat} : yclr uK uR way now b n (b + n) = uK (b + n) := by
  unfold yclr
  rw [if_neg (fun q => by omega)]
theorem yclr_s {uK uR : zI} {way now : Int32} {b n : Nat} : upd (yclr uK uR way now b n) (b + n) (if uK (b + n) = 2 ∧ (way = 2 ∨ (way = 1 ∧ ¬ now - uR (b + n) < 10)) then 0 else uK (b + n)) = yclr uK uR way now b (n + 1) := by
  funext j
  unfold upd yclr
  by_cases hj : j = b + n
  · subst hj
    rw [if_pos rfl]
    by_cases h : uK (b + n) = 2 ∧ (way = 2 ∨ (way = 1 ∧ ¬ now - uR (b + n) < 10))
    · rw [if_pos h, if_pos ⟨by omega, by omega, h⟩]
    · rw [if_neg h, if_neg (fun q => h q.2.2)]
  · rw [if_neg hj]
    have : (j < b + (n + 1)) = (j < b + n) := propext ⟨fun q => by omega, fun q => by omega⟩
    simp only [this]
def ycnt (f : zI) (k : Int32) (b : Nat) : Nat → Int32
  | 0 => 0
  | n + 1 => ycnt f k b n + (if f (b + n) = k then 1 else 0)
def yhld (f : zI) (b : Nat) : Nat → Int32
  | 0 => 0
  | n + 1 => yhld f b n + (if f (b + n) = 0 then 0 else 1)
def ysee (f : zI) (b n : Nat) : zI := fun j => if b ≤ j ∧ j < b + n then 0 else f j
theorem ysee_0 {f : zI} {b : Nat} : f = ysee f b 0 := by
  funext j
  unfold ysee
  rw [if_neg (fun q => by omega)]
theorem ysee_s {f : zI} {b n : Nat} : upd (ysee f b n) (b + n) 0 = ysee f b (n + 1) := by
  funext j
  unfold upd ysee
  by_cases hj : j = b + n
  · subst hj
    rw [if_pos rfl, if_pos ⟨by omega, by omega⟩]
  · rw [if_neg hj]
    have : (j < b + (n + 1)) = (j < b + n) := propext ⟨fun q => by omega, fun q => by omega⟩
    simp only [this]
def ynx (uK uS : zI) (frm ps pr : Int32) (b : Nat) : Nat → Int32
  | 0 => -1
  | n + 1 => if (uK (b + n) ≠ 0 ∧ ¬ uS (b + n) < frm ∧ (ps < uS (b + n) ∨ (uS (b + n) = ps ∧ ¬ nI n ≤ pr))) ∧ (ynx uK uS frm ps pr b n = -1 ∨ ¬ uS (ynx uK uS frm ps pr b n).toNatClampNeg ≤ uS (b + n)) then nI (b + n) else ynx uK uS frm ps pr b n
theorem ynx_in (uK uS : zI) (frm ps pr : Int32) (b : Nat) : ∀ n, ynx uK uS frm ps pr b n = -1 ∨ ∃ r, r < n ∧ ynx uK uS frm ps pr b n = nI (b + r)
  | 0 => Or.inl rfl
  | n + 1 => by
    rcases ynx_in uK uS frm ps pr b n with h | ⟨r, h1, h2⟩
    · unfold ynx
      split
      · exact Or.inr ⟨n, Nat.lt_succ_self n, rfl⟩
      · exact Or.inl h
    · unfold ynx
      split
      · exact Or.inr ⟨n, Nat.lt_succ_self n, rfl⟩
      · exact Or.inr ⟨r, Nat.lt_succ_of_lt h1, h2⟩
theorem ynx_ne {uK uS : zI} {frm ps pr : Int32} {b n : Nat} (h : ¬ ynx uK uS frm ps pr b n = -1) : ∃ r, r < n ∧ ynx uK uS frm ps pr b n = nI (b + r) := (ynx_in uK uS frm ps pr b n).resolve_left h
theorem ynx_ix {uK uS : zI} {frm ps pr : Int32} {b n : Nat} (h : ¬ ynx uK uS frm ps pr b n = -1) (hb : b + n ≤ 80) : zix (ynx uK uS frm ps pr b n) 80 (ynx uK uS frm ps pr b n).toNatClampNeg := by
  obtain ⟨r, h1, h2⟩ := ynx_ne h
  rw [h2]
  have h3 := zix_nI (j := b + r) (n := 80) (by omega) (by decide)
  exact ⟨h3.1, rfl⟩
def yali (uH xW xV xS uW uV uS : zI) (k : Nat) : Int32 := if uH k ≠ 0 ∧ xW k = uW k ∧ xV k = uV k ∧ xS k = uS k then 1 else 0
def ywr (uK uH xW xV xS uW uV uS : zI) (b : Nat) : Nat → Int32
  | 0 => 0
  | n + 1 => ywr uK uH xW xV xS uW uV uS b n + (if (uK (b + n) = 1 ∧ yali uH xW xV xS uW uV uS (b + n) = 0) ∨ (¬ uK (b + n) = 1 ∧ ¬ uH (b + n) = 0) then 1 else 0)
def ycop (uH xW : zI) (w : Int32) : Nat → Int32
  | 0 => 0
  | n + 1 => ycop uH xW w n + (if ¬ uH n = 0 ∧ xW n = w then 1 else 0)
def ybst (uH xW xS : zI) (w : Int32) : Nat → Int32
  | 0 => -1
  | n + 1 => if (¬ uH n = 0 ∧ xW n = w) ∧ (ybst uH xW xS w n = -1 ∨ ¬ xS n ≤ xS (ybst uH xW xS w n).toNatClampNeg) then nI n else ybst uH xW xS w n
theorem ybst_in (uH xW xS : zI) (w : Int32) : ∀ n, ybst uH xW xS w n = -1 ∨ ∃ r, r < n ∧ ybst uH xW xS w n = nI r
  | 0 => Or.inl rfl
  | n + 1 => by
    rcases ybst_in uH xW xS w n with h | ⟨r, h1, h2⟩
    · unfold ybst
      split
      · exact Or.inr ⟨n, Nat.lt_succ_self n, rfl⟩
      · exact Or.inl h
    · unfold ybst
      split
      · exact Or.inr ⟨n, Nat.lt_succ_self n, rfl⟩
      · exact Or.inr ⟨r, Nat.lt_succ_of_lt h1, h2⟩
theorem ybst_ix {uH xW xS : zI} {w : Int32} {n : Nat} (h : ¬ ybst uH xW xS w n = -1) (hb : n ≤ 80) : zix (ybst uH xW xS w n) 80 (ybst uH xW xS w n).toNatClampNeg := by
  obtain ⟨r, h1, h2⟩ := (ybst_in uH xW xS w n).resolve_left h
  rw [h2]
  have h3 := zix_nI (j := r) (n := 80) (by omega) (by decide)
  exact ⟨h3.1, rfl⟩
def yfin (uH uN : zI) (full : Int32) (b n : Nat) : zI := fun j => if b ≤ j ∧ j < b + n then (if ¬ uH j = 0 ∧ (¬ uN j = 0 ∨ full = 0) then 1 else 0) else uH j
theorem yfin_0 {uH uN : zI} {full : Int32} {b : Nat} : uH = yfin uH uN full b 0 := by
  funext j
  unfold yfin
  rw [if_neg (fun q => by omega)]
theorem yfin_at {uH uN : zI} {full : Int32} {b n : Nat} : yfin uH uN full b n (b + n) = uH (b + n) := by
  unfold yfin
  rw [if_neg (fun q => by omega)]
theorem yfin_s {uH uN : zI} {full : Int32} {b n : Nat} : upd (yfin uH uN full b n) (b + n) (if ¬ uH (b + n) = 0 ∧ (¬ uN (b + n) = 0 ∨ full = 0) then 1 else 0) = yfin uH uN full b (n + 1) := by
  funext j
  unfold upd yfin
  by_cases hj : j = b + n
  · subst hj
    rw [if_pos rfl]
    exact (if_pos ⟨by omega, by omega⟩).symm
  · rw [if_neg hj]
    have : (j < b + (n + 1)) = (j < b + n) := propext ⟨fun q => by omega, fun q => by omega⟩
    simp only [this]
/-! a page: (placeStamps, placeRecords, isHeld, its three, wasSeen) -/
abbrev yPg : Type := zI × zI × zI × zI × zI × zI × zI
def ytk (uK uW uV uS : zI) (ca : Nat) (x : yPg) (r : Nat) : yPg :=
  (upd x.1 ca (uS (20 * ca + r)), upd x.2.1 ca (nI r), upd x.2.2.1 (20 * ca + r) (if uK (20 * ca + r) = 1 then 1 else 0), upd x.2.2.2.1 (20 * ca + r) (uW (20 * ca + r)), upd x.2.2.2.2.1 (20 * ca + r) (uV (20 * ca + r)), upd x.2.2.2.2.2.1 (20 * ca + r) (uS (20 * ca + r)), upd x.2.2.2.2.2.2 (20 * ca + r) 1)
def ypg (uK uW uV uS : zI) (frm : Int32) (ca : Nat) : Nat → yPg → Int32 → yPg × Int32
  | 0, x, c => (x, c)
  | k + 1, x, c => if ynx uK uS frm (x.1 ca) (x.2.1 ca) (20 * ca) 20 = -1 then (x, c) else ypg uK uW uV uS frm ca k (ytk uK uW uV uS ca x ((ynx uK uS frm (x.1 ca) (x.2.1 ca) (20 * ca) 20).toNatClampNeg - 20 * ca)) (c + 1)
def yte (uK uS : zI) (frm : Int32) (ca : Nat) (uU uO uM uF uE : zI) (y : yPg × Int32) : Int32 × zI × zI × zI × yPg :=
  if ynx uK uS frm (y.1.1 ca) (y.1.2.1 ca) (20 * ca) 20 = -1 then (y.2, upd uO ca 0, upd uM ca (yst (uU ca) (uE ca)), uE, y.1.1, y.1.2.1, yfin y.1.2.2.1 y.1.2.2.2.2.2.2 (uF ca) (20 * ca) 20, y.1.2.2.2)
  else (y.2, uO, uM, uE, y.1)
/-- read: (count, isOpen, marks, openedOn, the page) -/
def ytp (uK uW uV uS : zI) (ca : Nat) (now : Int32) (uU uO uM uF uG uE uD : zI) (x : yPg) : Int32 × zI × zI × zI × yPg :=
  if now - uD ca ≤ 5 then yte uK uS (uG ca) ca uU uO uM uF uE (ypg uK uW uV uS (uG ca) ca 3 x 0)
  else yte uK uS (uG ca) ca uU uO uM uF (upd uE ca now) (ypg uK uW uV uS (uG ca) ca 3 (upd x.1 ca (-1), upd x.2.1 ca (-1), x.2.2.1, x.2.2.2.1, x.2.2.2.2.1, x.2.2.2.2.2.1, ysee x.2.2.2.2.2.2 (20 * ca) 20) 0)
theorem ypg_e {uK uW uV uS : zI} {frm : Int32} {ca n : Nat} {x : yPg} {c : Int32} (h : ynx uK uS frm (x.1 ca) (x.2.1 ca) (20 * ca) 20 = -1) : ypg uK uW uV uS frm ca n x c = (x, c) := by
  cases n with
  | zero => rfl
  | succ n => rw [ypg, if_pos h]
theorem ypg_s {uK uW uV uS : zI} {frm : Int32} {ca k r : Nat} {x : yPg} (h : ¬ ynx uK uS frm (x.1 ca) (x.2.1 ca) (20 * ca) 20 = -1) (hr : ynx uK uS frm (x.1 ca) (x.2.1 ca) (20 * ca) 20 = nI (20 * ca + r)) (h20 : r < 20) (hca : ca < 4) (hk : k < 3) : ypg uK uW uV uS frm ca (3 - k) x (nI k) = ypg uK uW uV uS frm ca (3 - (k + 1)) (ytk uK uW uV uS ca x r) (nI (k + 1)) := by
  have h3 : 3 - k = (3 - (k + 1)) + 1 := by omega
  rw [h3, ypg, if_neg h, hr, nI_clamp (by omega), nI_1, Nat.add_sub_cancel_left]
end
section
theorem z_nl (fT fW fV fS fT' fW' fV' fS' : zI) (r : Nat) : narrow .boolean (.int (zlike fT fW fV fS fT' fW' fV' fS' r)) = .int (zlike fT fW fV fS fT' fW' fV' fS' r) := by
  unfold zlike
  split <;> split <;> rfl
set_option maxHeartbeats 4000000 in
set_option maxRecDepth 100000 in
/-- Records.keep -/
theorem kX2_keep (l : Launch) (dC : Nat → ClassId) (dI : Nat → Nat → Nat) (cI cZ cH cJ : ClassId) (h0 : Nat) (aT : Nat) (aW : Nat) (aV : Nat) (aS : Nat) (fT : zI) (fW : zI) (fV : zI) (fS : zI) (r : Nat) (hrr : r < 20) (w : Int32) (v : Int32) (st : Int32) (sz : Nat) : Met l yX2_keep wsX2_keep ({ frames := 0, cells := 0, slots := 0, locals := 0 }) (zPc dC dI (zTy cI cZ cH cJ) [.ref h0, .int (nI r), .int w, .int v, .int st] sz ([(h0, .inr (2, [.ref aT, .ref aW, .ref aV, .ref aS])), (aT, .inl (cZ, 20, .inl fT)), (aW, .inl (cI, 20, .inl fW)), (aV, .inl (cI, 20, .inl fV)), (aS, .inl (cI, 20, .inl fS))])) (zQv dC dI ([(h0, .inr (2, [.ref aT, .ref aW, .ref aV, .ref aS])), (aT, .inl (cZ, 20, .inl (upd fT r 1))), (aW, .inl (cI, 20, .inl (upd fW r w))), (aV, .inl (cI, 20, .inl (upd fV r v))), (aS, .inl (cI, 20, .inl (upd fS r st)))]) (va_A ([(h0, .inr (2, [.ref aT, .ref aW, .ref aV, .ref aS])), (aT, .inl (cZ, 20, .inl fT)), (aW, .inl (cI, 20, .inl fW)), (aV, .inl (cI, 20, .inl fV)), (aS, .inl (cI, 20, .inl fS))]) sz)) 0 0 (va_A ([(h0, .inr (2, [.ref aT, .ref aW, .ref aV, .ref aS])), (aT, .inl (cZ, 20, .inl fT)), (aW, .inl (cI, 20, .inl fW)), (aV, .inl (cI, 20, .inl fV)), (aS, .inl (cI, 20, .inl fS))]) sz) := by
  refine Met.ofW (cc := cX2_keep) (maxL := 5) (ret := none) (by decide) rfl ?_
  intro p e s m args below meth c s₁ B hml hv
  obtain ⟨rfl, hsz, hP, hK, hD0⟩ := hv
  have hx := B.exec
  have hb := B.bytes
  have hr := B.returns
  have hts := atoms_spec (ws := wsX2_keep) B.pre
  have hown : s.vm.findClass RX2 = some m.cls := findClass_of_methodNamed B.named
  have hlocks := B.notSynchronized
  subst hsz
  have hD := hD0.self (sz := s.heap.size)
  generalize hAe : va_A ([(h0, .inr (2, [.ref aT, .ref aW, .ref aV, .ref aS])), (aT, .inl (cZ, 20, .inl fT)), (aW, .inl (cI, 20, .inl fW)), (aV, .inl (cI, 20, .inl fV)), (aS, .inl (cI, 20, .inl fS))]) s.heap.size = A at hD ⊢
  have hA : ∀ q : Nat, s.heap.size ≤ q → A q := fun q h => by rw [← hAe]; exact Or.inr h
  have hS : va_S A s.heap s.heap [] := va_S.rf
  have hl := lv_entry ([.ref h0, .int (nI r), .int w, .int v, .int st]) (n := 5) (Nat.le_of_ble_eq_true rfl)
  rw [lg_entry_eq]
  generalize (lg_sl ([.ref h0, .int (nI r), .int w, .int v, .int st]) ++ List.replicate (5 - (lg_sl ([.ref h0, .int (nI r), .int w, .int v, .int st])).length) Slot.unset).toArray = ls at hl ⊢
  have hl : lv_has ls 5 [(0, .ref h0), (1, .int (nI r)), (2, .int w), (3, .int v), (4, .int st)] := hl
  have hiX2 : ∀ w ∈ wsX20, w ∈ wsX2_keep := by decide +kernel
  have l9 := hts (.fieldLink RX2 9 "CatalogueHarvester$Records" "isThere" "[Z") (by decide +kernel)
  have l15 := hts (.fieldLink RX2 15 "CatalogueHarvester$Records" "works" "[I") (by decide +kernel)
  have l19 := hts (.fieldLink RX2 19 "CatalogueHarvester$Records" "values" "[I") (by decide +kernel)
  have l22 := hts (.fieldLink RX2 22 "CatalogueHarvester$Records" "stamps" "[I") (by decide +kernel)
  refine lv_aload_n hx hb dX2_keep_0 rfl (lv_at hl 0 rfl) ?_
  refine va_get (D := (dC, dI)) (ci := 2) (v := .ref aT) (C := RX2) (T := TX2) (N := 4) hx hb hts hiX2 hown hK hP 0 rfl rfl 0 (by decide) l9 (fun _ h9 => h9) rfl dX2_keep_1 ?_
  refine lv_iload_n hx hb dX2_keep_4 rfl (lv_at hl 1 rfl) ?_
  refine lv_iconst (v := 1) hx hb dX2_keep_5 (by decide) ?_
  refine z_zast (v := 1) hx hb hK hP hD hS 1 rfl (zix_nI (by first | assumption | omega) (by decide)) (rfl) dX2_keep_6 (fun H locs hP hD hS => ?_)
  have hP : va_P (dC, dI) vwCl ([(h0, .inr (2, [.ref aT, .ref aW, .ref aV, .ref aS])), (aT, .inl (cZ, 20, .inl (upd fT r 1))), (aW, .inl (cI, 20, .inl fW)), (aV, .inl (cI, 20, .inl fV)), (aS, .inl (cI, 20, .inl fS))]) H := hP
  have hD : va_D A ([(h0, .inr (2, [.ref aT, .ref aW, .ref aV, .ref aS])), (aT, .inl (cZ, 20, .inl (upd fT r 1))), (aW, .inl (cI, 20, .inl fW)), (aV, .inl (cI, 20, .inl fV)), (aS, .inl (cI, 20, .inl fS))]) := hD
  refine lv_aload_n hx hb dX2_keep_7 rfl (lv_at hl 0 rfl) ?_
  refine va_get (D := (dC, dI)) (ci := 2) (v := .ref aW) (C := RX2) (T := TX2) (N := 4) hx hb hts hiX2 hown hK hP 0 rfl rfl 1 (by decide) l15 (fun _ h9 => h9) rfl dX2_keep_8 ?_
  refine lv_iload_n hx hb dX2_keep_11 rfl (lv_at hl 1 rfl) ?_
  refine lv_iload_n hx hb dX2_keep_12 rfl (lv_at hl 2 rfl) ?_
  refine z_iast hx hb hK hP hD hS 2 rfl (zix_nI (by first | assumption | omega) (by decide)) dX2_keep_13 (fun H locs hP hD hS => ?_)
  have hP : va_P (dC, dI) vwCl ([(h0, .inr (2, [.ref aT, .ref aW, .ref aV, .ref aS])), (aT, .inl (cZ, 20, .inl (upd fT r 1))), (aW, .inl (cI, 20, .inl (upd fW r w))), (aV, .inl (cI, 20, .inl fV)), (aS, .inl (cI, 20, .inl fS))]) H := hP
  have hD : va_D A ([(h0, .inr (2, [.ref aT, .ref aW, .ref aV, .ref aS])), (aT, .inl (cZ, 20, .inl (upd fT r 1))), (aW, .inl (cI, 20, .inl (upd fW r w))), (aV, .inl (cI, 20, .inl fV)), (aS, .inl (cI, 20, .inl fS))]) := hD
  refine lv_aload_n hx hb dX2_keep_14 rfl (lv_at hl 0 rfl) ?_
  refine va_get (D := (dC, dI)) (ci := 2) (v := .ref aV) (C := RX2) (T := TX2) (N := 4) hx hb hts hiX2 hown hK hP 0 rfl rfl 2 (by decide) l19 (fun _ h9 => h9) rfl dX2_keep_15 ?_
  refine lv_iload_n hx hb dX2_keep_18 rfl (lv_at hl 1 rfl) ?_
  refine lv_iload_n hx hb dX2_keep_19 rfl (lv_at hl 3 rfl) ?_
  refine z_iast hx hb hK hP hD hS 3 rfl (zix_nI (by first | assumption | omega) (by decide)) dX2_keep_20 (fun H locs hP hD hS => ?_)
  have hP : va_P (dC, dI) vwCl ([(h0, .inr (2, [.ref aT, .ref aW, .ref aV, .ref aS])), (aT, .inl (cZ, 20, .inl (upd fT r 1))), (aW, .inl (cI, 20, .inl (upd fW r w))), (aV, .inl (cI, 20, .inl (upd fV r v))), (aS, .inl (cI, 20, .inl fS))]) H := hP
  have hD : va_D A ([(h0, .inr (2, [.ref aT, .ref aW, .ref aV, .ref aS])), (aT, .inl (cZ, 20, .inl (upd fT r 1))), (aW, .inl (cI, 20, .inl (upd fW r w))), (aV, .inl (cI, 20, .inl (upd fV r v))), (aS, .inl (cI, 20, .inl fS))]) := hD
  refine lv_aload_n hx hb dX2_keep_21 rfl (lv_at hl 0 rfl) ?_
  refine va_get (D := (dC, dI)) (ci := 2) (v := .ref aS) (C := RX2) (T := TX2) (N := 4) hx hb hts hiX2 hown hK hP 0 rfl rfl 3 (by decide) l22 (fun _ h9 => h9) rfl dX2_keep_22 ?_
  refine lv_iload_n hx hb dX2_keep_25 rfl (lv_at hl 1 rfl) ?_
  refine lv_iload hx hb dX2_keep_26 (lv_at hl 4 rfl) ?_
  refine z_iast hx hb hK hP hD hS 4 rfl (zix_nI (by first | assumption | omega) (by decide)) dX2_keep_28 (fun H locs hP hD hS => ?_)
  have hP : va_P (dC, dI) vwCl ([(h0, .inr (2, [.ref aT, .ref aW, .ref aV, .ref aS])), (aT, .inl (cZ, 20, .inl (upd fT r 1))), (aW, .inl (cI, 20, .inl (upd fW r w))), (aV, .inl (cI, 20, .inl (upd fV r v))), (aS, .inl (cI, 20, .inl (upd fS r st)))]) H := hP
  have hD : va_D A ([(h0, .inr (2, [.ref aT, .ref aW, .ref aV, .ref aS])), (aT, .inl (cZ, 20, .inl (upd fT r 1))), (aW, .inl (cI, 20, .inl (upd fW r w))), (aV, .inl (cI, 20, .inl (upd fV r v))), (aS, .inl (cI, 20, .inl (upd fS r st)))]) := hD
  exact W.vret hx hb hr (fun t ht hW => ⟨rfl, ⟨by rw [ht]; exact hP, hD⟩, hS.F ht⟩) hS.2.2 dX2_keep_29
set_option maxHeartbeats 4000000 in
set_option maxRecDepth 100000 in
/-- Records.drop -/
theorem kX2_drop (l : Launch) (dC : Nat → ClassId) (dI : Nat → Nat → Nat) (cI cZ cH cJ : ClassId) (h0 : Nat) (aT : Nat) (aW : Nat) (aV : Nat) (aS : Nat) (fT : zI) (r : Nat) (hrr : r < 20) (sz : Nat) : Met l yX2_drop wsX2_drop ({ frames := 0, cells := 0, slots := 0, locals := 0 }) (zPc dC dI (zTy cI cZ cH cJ) [.ref h0, .int (nI r)] sz ([(h0, .inr (2, [.ref aT, .ref aW, .ref aV, .ref aS])), (aT, .inl (cZ, 20, .inl fT))])) (zQv dC dI ([(h0, .inr (2, [.ref aT, .ref aW, .ref aV, .ref aS])), (aT, .inl (cZ, 20, .inl (upd fT r 0)))]) (va_A ([(h0, .inr (2, [.ref aT, .ref aW, .ref aV, .ref aS])), (aT, .inl (cZ, 20, .inl fT))]) sz)) 0 0 (va_A ([(h0, .inr (2, [.ref aT, .ref aW, .ref aV, .ref aS])), (aT, .inl (cZ, 20, .inl fT))]) sz) := by
  refine Met.ofW (cc := cX2_drop) (maxL := 2) (ret := none) (by decide) rfl ?_
  intro p e s m args below meth c s₁ B hml hv
  obtain ⟨rfl, hsz, hP, hK, hD0⟩ := hv
  have hx := B.exec
  have hb := B.bytes
  have hr := B.returns
  have hts := atoms_spec (ws := wsX2_drop) B.pre
  have hown : s.vm.findClass RX2 = some m.cls := findClass_of_methodNamed B.named
  have hlocks := B.notSynchronized
  subst hsz
  have hD := hD0.self (sz := s.heap.size)
  generalize hAe : va_A ([(h0, .inr (2, [.ref aT, .ref aW, .ref aV, .ref aS])), (aT, .inl (cZ, 20, .inl fT))]) s.heap.size = A at hD ⊢
  have hA : ∀ q : Nat, s.heap.size ≤ q → A q := fun q h => by rw [← hAe]; exact Or.inr h
  have hS : va_S A s.heap s.heap [] := va_S.rf
  have hl := lv_entry ([.ref h0, .int (nI r)]) (n := 2) (Nat.le_of_ble_eq_true rfl)
  rw [lg_entry_eq]
  generalize (lg_sl ([.ref h0, .int (nI r)]) ++ List.replicate (2 - (lg_sl ([.ref h0, .int (nI r)])).length) Slot.unset).toArray = ls at hl ⊢
  have hl : lv_has ls 2 [(0, .ref h0), (1, .int (nI r))] := hl
  have hiX2 : ∀ w ∈ wsX20, w ∈ wsX2_drop := by decide +kernel
  have l9 := hts (.fieldLink RX2 9 "CatalogueHarvester$Records" "isThere" "[Z") (by decide +kernel)
  refine lv_aload_n hx hb dX2_drop_0 rfl (lv_at hl 0 rfl) ?_
  refine va_get (D := (dC, dI)) (ci := 2) (v := .ref aT) (C := RX2) (T := TX2) (N := 4) hx hb hts hiX2 hown hK hP 0 rfl rfl 0 (by decide) l9 (fun _ h9 => h9) rfl dX2_drop_1 ?_
  refine lv_iload_n hx hb dX2_drop_4 rfl (lv_at hl 1 rfl) ?_
  refine lv_iconst (v := 0) hx hb dX2_drop_5 (by decide) ?_
  refine z_zast (v := 0) hx hb hK hP hD hS 1 rfl (zix_nI (by first | assumption | omega) (by decide)) (rfl) dX2_drop_6 (fun H locs hP hD hS => ?_)
  have hP : va_P (dC, dI) vwCl ([(h0, .inr (2, [.ref aT, .ref aW, .ref aV, .ref aS])), (aT, .inl (cZ, 20, .inl (upd fT r 0)))]) H := hP
  have hD : va_D A ([(h0, .inr (2, [.ref aT, .ref aW, .ref aV, .ref aS])), (aT, .inl (cZ, 20, .inl (upd fT r 0)))]) := hD
  exact W.vret hx hb hr (fun t ht hW => ⟨rfl, ⟨by rw [ht]; exact hP, hD⟩, hS.F ht⟩) hS.2.2 dX2_drop_7
set_option maxHeartbeats 4000000 in
set_option maxRecDepth 100000 in
/-- Records.count -/
theorem kX2_count (l : Launch) (dC : Nat → ClassId) (dI : Nat → Nat → Nat) (cI cZ cH cJ : ClassId) (h0 : Nat) (aT : Nat) (aW : Nat) (aV : Nat) (aS : Nat) (fT : zI) : Met l yX2_count wsX2_count ({ frames := 0, cells := 0, slots := 0, locals := 0 }) (zRc dC dI (zTy cI cZ cH cJ) [.ref h0] ([(h0, .inr (2, [.ref aT, .ref aW, .ref aV, .ref aS])), (aT, .inl (cZ, 20, .inl fT))])) (zSi (zcnt fT 20)) 0 0 (fun _ => False) := by
  refine Met.ofW (cc := cX2_count) (maxL := 3) (ret := (some .int)) (by decide) rfl ?_
  intro p e s m args below meth c s₁ B hml hv
  obtain ⟨rfl, hP, hK⟩ := hv
  have hx := B.exec
  have hb := B.bytes
  have hr := B.returns
  have hts := atoms_spec (ws := wsX2_count) B.pre
  have hown : s.vm.findClass RX2 = some m.cls := findClass_of_methodNamed B.named
  have hlocks := B.notSynchronized
  have hl := lv_entry ([.ref h0]) (n := 3) (Nat.le_of_ble_eq_true rfl)
  rw [lg_entry_eq]
  generalize (lg_sl ([.ref h0]) ++ List.replicate (3 - (lg_sl ([.ref h0])).length) Slot.unset).toArray = ls at hl ⊢
  have hl : lv_has ls 3 [(0, .ref h0)] := hl
  have hiX2 : ∀ w ∈ wsX20, w ∈ wsX2_count := by decide +kernel
  have l9 := hts (.fieldLink RX2 9 "CatalogueHarvester$Records" "isThere" "[Z") (by decide +kernel)
  refine lv_iconst (v := 0) hx hb dX2_count_0 (by decide) ?_
  refine lv_istore_n (lv' := [(1, .int 0), (0, .ref h0)]) hx hb dX2_count_1 rfl hl (by decide) rfl (fun ls hl => ?_)
  refine lv_iconst (v := 0) hx hb dX2_count_2 (by decide) ?_
  refine lv_istore_n (lv' := [(2, .int 0), (1, .int 0), (0, .ref h0)]) hx hb dX2_count_3 rfl hl (by decide) rfl (fun ls hl => ?_)
  have LOOP1 : ∀ (n i : Nat), i ≤ 20 → 20 < i + n → ∀ (ls : Array Slot), lv_has ls 3 [(0, .ref h0), (1, .int (zcnt fT i)), (2, .int (nI i))] → W p l e (headSpec wsX2_count ({ frames := 0, cells := 0, slots := 0, locals := 0 })).room s m ([.ref h0] : List Value).toArray below meth c s.heap [] 0 0 (MQ below (zSi (zcnt fT 20)) ([.ref h0] : List Value).toArray s 0 0 (fun _ => False)) (F0 m 4 ls []) := by
    intro n
    induction n with
    | zero => intro i h1 h2; exact absurd h2 (by omega)
    | succ n ih =>
      intro i hi hin   ls hl
      refine lv_iload_n hx hb dX2_count_4 rfl (lv_at hl 2 rfl) ?_
      refine lv_bipush (v := 20) hx hb dX2_count_5 (by decide) ?_
      refine lv_icmp_ge (tgt := 28) hx hb dX2_count_7 (by decide) (fun c_7 => ?_) (fun c_7 => ?_)
      · skip
        have e20 : i = 20 := z_ge (n := 20) hi (by decide) c_7
        subst e20
        refine lv_iload_n hx hb dX2_count_28 rfl (lv_at hl 1 rfl) ?_
        exact W.iret hx hb hr (fun t ht hW => ⟨rfl, ht⟩) (fun _ h => nomatch h) dX2_count_29
      · skip
        have hlt : i < 20 := z_lt (n := 20) hi (by decide) c_7
        refine lv_aload_n hx hb dX2_count_10 rfl (lv_at hl 0 rfl) ?_
        refine va_get (D := (dC, dI)) (ci := 2) (v := .ref aT) (C := RX2) (T := TX2) (N := 4) hx hb hts hiX2 hown hK hP 0 rfl rfl 0 (by decide) l9 (fun _ h9 => h9) rfl dX2_count_11 ?_
        refine lv_iload_n hx hb dX2_count_14 rfl (lv_at hl 2 rfl) ?_
        refine z_zald hx hb hK hP 1 rfl (zix_nI (by first | assumption | omega) (by decide)) dX2_count_15 ?_
        refine z_tv (v := fT i) (rfl) ?_
        refine lv_if_eq (tgt := 22) hx hb dX2_count_16 (by decide) (fun c_16 => ?_) (fun c_16 => ?_)
        · skip
          refine lv_iinc (v := nI (i + 1)) (lv' := [(2, .int (nI (i + 1))), (0, .ref h0), (1, .int (zcnt fT i))]) hx hb dX2_count_22 hl (k := 2) rfl (z_1) (by decide) rfl (fun ls hl => ?_)
          refine lv_goto (tgt := 4) hx hb dX2_count_25 (by decide) ?_
          exact ih (i + 1) (by omega) (by omega)  _ (lv_cg (lv_sub (l' := [(0, .ref h0), (1, .int (zcnt fT i)), (2, .int (nI (i + 1)))]) hl [1, 2, 0] rfl) (zl_k (zl_c (by simp [zcnt, c_16]) (zl_k (rfl)))))
        · skip
          refine lv_iinc (v := (zcnt fT i) + 1) (lv' := [(1, .int ((zcnt fT i) + 1)), (0, .ref h0), (2, .int (nI i))]) hx hb dX2_count_19 hl (k := 1) rfl (rfl) (by decide) rfl (fun ls hl => ?_)
          refine lv_iinc (v := nI (i + 1)) (lv' := [(2, .int (nI (i + 1))), (1, .int ((zcnt fT i) + 1)), (0, .ref h0)]) hx hb dX2_count_22 hl (k := 2) rfl (z_1) (by decide) rfl (fun ls hl => ?_)
          refine lv_goto (tgt := 4) hx hb dX2_count_25 (by decide) ?_
          exact ih (i + 1) (by omega) (by omega)  _ (lv_cg (lv_sub (l' := [(0, .ref h0), (1, .int ((zcnt fT i) + 1)), (2, .int (nI (i + 1)))]) hl [2, 1, 0] rfl) (zl_k (zl_c (by simp [zcnt, c_16]) (zl_k (rfl)))))
  exact LOOP1 (20 + 1) 0 (by omega) (by omega)  _ (lv_cg (lv_sub (l' := [(0, .ref h0), (1, .int 0), (2, .int 0)]) hl [2, 1, 0] rfl) (zl_k (zl_c (rfl) (zl_c (rfl) (rfl)))))
set_option maxHeartbeats 4000000 in
set_option maxRecDepth 100000 in
/-- Records.countOfWork -/
theorem kX2_countOfWork (l : Launch) (dC : Nat → ClassId) (dI : Nat → Nat → Nat) (cI cZ cH cJ : ClassId) (h0 : Nat) (aT : Nat) (aW : Nat) (aV : Nat) (aS : Nat) (fT : zI) (fW : zI) (w : Int32) : Met l yX2_countOfWork wsX2_countOfWork ({ frames := 0, cells := 0, slots := 0, locals := 0 }) (zRc dC dI (zTy cI cZ cH cJ) [.ref h0, .int w] ([(h0, .inr (2, [.ref aT, .ref aW, .ref aV, .ref aS])), (aT, .inl (cZ, 20, .inl fT)), (aW, .inl (cI, 20, .inl fW))])) (zSi (zcow fT fW w 20)) 0 0 (fun _ => False) := by
  refine Met.ofW (cc := cX2_countOfWork) (maxL := 4) (ret := (some .int)) (by decide) rfl ?_
  intro p e s m args below meth c s₁ B hml hv
  obtain ⟨rfl, hP, hK⟩ := hv
  have hx := B.exec
  have hb := B.bytes
  have hr := B.returns
  have hts := atoms_spec (ws := wsX2_countOfWork) B.pre
  have hown : s.vm.findClass RX2 = some m.cls := findClass_of_methodNamed B.named
  have hlocks := B.notSynchronized
  have hl := lv_entry ([.ref h0, .int w]) (n := 4) (Nat.le_of_ble_eq_true rfl)
  rw [lg_entry_eq]
  generalize (lg_sl ([.ref h0, .int w]) ++ List.replicate (4 - (lg_sl ([.ref h0, .int w])).length) Slot.unset).toArray = ls at hl ⊢
  have hl : lv_has ls 4 [(0, .ref h0), (1, .int w)] := hl
  have hiX2 : ∀ w ∈ wsX20, w ∈ wsX2_countOfWork := by decide +kernel
  have l9 := hts (.fieldLink RX2 9 "CatalogueHarvester$Records" "isThere" "[Z") (by decide +kernel)
  have l15 := hts (.fieldLink RX2 15 "CatalogueHarvester$Records" "works" "[I") (by decide +kernel)
  refine lv_iconst (v := 0) hx hb dX2_countOfWork_0 (by decide) ?_
  refine lv_istore_n (lv' := [(2, .int 0), (0, .ref h0), (1, .int w)]) hx hb dX2_countOfWork_1 rfl hl (by decide) rfl (fun ls hl => ?_)
  refine lv_iconst (v := 0) hx hb dX2_countOfWork_2 (by decide) ?_
  refine lv_istore_n (lv' := [(3, .int 0), (2, .int 0), (0, .ref h0), (1, .int w)]) hx hb dX2_countOfWork_3 rfl hl (by decide) rfl (fun ls hl => ?_)
  have LOOP1 : ∀ (n i : Nat), i ≤ 20 → 20 < i + n → ∀ (ls : Array Slot), lv_has ls 4 [(0, .ref h0), (1, .int w), (2, .int (zcow fT fW w i)), (3, .int (nI i))] → W p l e (headSpec wsX2_countOfWork ({ frames := 0, cells := 0, slots := 0, locals := 0 })).room s m ([.ref h0, .int w] : List Value).toArray below meth c s.heap [] 0 0 (MQ below (zSi (zcow fT fW w 20)) ([.ref h0, .int w] : List Value).toArray s 0 0 (fun _ => False)) (F0 m 4 ls []) := by
    intro n
    induction n with
    | zero => intro i h1 h2; exact absurd h2 (by omega)
    | succ n ih =>
      intro i hi hin   ls hl
      refine lv_iload_n hx hb dX2_countOfWork_4 rfl (lv_at hl 3 rfl) ?_
      refine lv_bipush (v := 20) hx hb dX2_countOfWork_5 (by decide) ?_
      refine lv_icmp_ge (tgt := 38) hx hb dX2_countOfWork_7 (by decide) (fun c_7 => ?_) (fun c_7 => ?_)
      · skip
        have e20 : i = 20 := z_ge (n := 20) hi (by decide) c_7
        subst e20
        refine lv_iload_n hx hb dX2_countOfWork_38 rfl (lv_at hl 2 rfl) ?_
        exact W.iret hx hb hr (fun t ht hW => ⟨rfl, ht⟩) (fun _ h => nomatch h) dX2_countOfWork_39
      · skip
        have hlt : i < 20 := z_lt (n := 20) hi (by decide) c_7
        refine lv_aload_n hx hb dX2_countOfWork_10 rfl (lv_at hl 0 rfl) ?_
        refine va_get (D := (dC, dI)) (ci := 2) (v := .ref aT) (C := RX2) (T := TX2) (N := 4) hx hb hts hiX2 hown hK hP 0 rfl rfl 0 (by decide) l9 (fun _ h9 => h9) rfl dX2_countOfWork_11 ?_
        refine lv_iload_n hx hb dX2_countOfWork_14 rfl (lv_at hl 3 rfl) ?_
        refine z_zald hx hb hK hP 1 rfl (zix_nI (by first | assumption | omega) (by decide)) dX2_countOfWork_15 ?_
        refine z_tv (v := fT i) (rfl) ?_
        refine lv_if_eq (tgt := 32) hx hb dX2_countOfWork_16 (by decide) (fun c_16 => ?_) (fun c_16 => ?_)
        · skip
          refine lv_iinc (v := nI (i + 1)) (lv' := [(3, .int (nI (i + 1))), (0, .ref h0), (1, .int w), (2, .int (zcow fT fW w i))]) hx hb dX2_countOfWork_32 hl (k := 3) rfl (z_1) (by decide) rfl (fun ls hl => ?_)
          refine lv_goto (tgt := 4) hx hb dX2_countOfWork_35 (by decide) ?_
          exact ih (i + 1) (by omega) (by omega)  _ (lv_cg (lv_sub (l' := [(0, .ref h0), (1, .int w), (2, .int (zcow fT fW w i)), (3, .int (nI (i + 1)))]) hl [1, 2, 3, 0] rfl) (zl_k (zl_k (zl_c (by grind [zcow]) (zl_k (rfl))))))
        · skip
          refine lv_aload_n hx hb dX2_countOfWork_19 rfl (lv_at hl 0 rfl) ?_
          refine va_get (D := (dC, dI)) (ci := 2) (v := .ref aW) (C := RX2) (T := TX2) (N := 4) hx hb hts hiX2 hown hK hP 0 rfl rfl 1 (by decide) l15 (fun _ h9 => h9) rfl dX2_countOfWork_20 ?_
          refine lv_iload_n hx hb dX2_countOfWork_23 rfl (lv_at hl 3 rfl) ?_
          refine z_iald hx hb hK hP 2 rfl (zix_nI (by first | assumption | omega) (by decide)) dX2_countOfWork_24 ?_
          refine z_tv (v := fW i) (rfl) ?_
          refine lv_iload_n hx hb dX2_countOfWork_25 rfl (lv_at hl 1 rfl) ?_
          refine lv_icmp_ne (tgt := 32) hx hb dX2_countOfWork_26 (by decide) (fun c_26 => ?_) (fun c_26 => ?_)
          · skip
            refine lv_iinc (v := nI (i + 1)) (lv' := [(3, .int (nI (i + 1))), (0, .ref h0), (1, .int w), (2, .int (zcow fT fW w i))]) hx hb dX2_countOfWork_32 hl (k := 3) rfl (z_1) (by decide) rfl (fun ls hl => ?_)
            refine lv_goto (tgt := 4) hx hb dX2_countOfWork_35 (by decide) ?_
            exact ih (i + 1) (by omega) (by omega)  _ (lv_cg (lv_sub (l' := [(0, .ref h0), (1, .int w), (2, .int (zcow fT fW w i)), (3, .int (nI (i + 1)))]) hl [1, 2, 3, 0] rfl) (zl_k (zl_k (zl_c (by grind [zcow]) (zl_k (rfl))))))
          · skip
            refine lv_iinc (v := (zcow fT fW w i) + 1) (lv' := [(2, .int ((zcow fT fW w i) + 1)), (0, .ref h0), (1, .int w), (3, .int (nI i))]) hx hb dX2_countOfWork_29 hl (k := 2) rfl (rfl) (by decide) rfl (fun ls hl => ?_)
            refine lv_iinc (v := nI (i + 1)) (lv' := [(3, .int (nI (i + 1))), (2, .int ((zcow fT fW w i) + 1)), (0, .ref h0), (1, .int w)]) hx hb dX2_countOfWork_32 hl (k := 3) rfl (z_1) (by decide) rfl (fun ls hl => ?_)
            refine lv_goto (tgt := 4) hx hb dX2_countOfWork_35 (by decide) ?_
            exact ih (i + 1) (by omega) (by omega)  _ (lv_cg (lv_sub (l' := [(0, .ref h0), (1, .int w), (2, .int ((zcow fT fW w i) + 1)), (3, .int (nI (i + 1)))]) hl [2, 3, 1, 0] rfl) (zl_k (zl_k (zl_c (by grind [zcow]) (zl_k (rfl))))))
  exact LOOP1 (20 + 1) 0 (by omega) (by omega)  _ (lv_cg (lv_sub (l' := [(0, .ref h0), (1, .int w), (2, .int 0), (3, .int 0)]) hl [2, 3, 1, 0] rfl) (zl_k (zl_k (zl_c (rfl) (zl_c (rfl) (rfl))))))
set_option maxHeartbeats 4000000 in
set_option maxRecDepth 100000 in
/-- Records.isLike -/
theorem kX2_isLike (l : Launch) (dC : Nat → ClassId) (dI : Nat → Nat → Nat) (cI cZ cH cJ : ClassId) (h0 : Nat) (aT : Nat) (aW : Nat) (aV : Nat) (aS : Nat) (h0' : Nat) (aT' : Nat) (aW' : Nat) (aV' : Nat) (aS' : Nat) (fT : zI) (fW : zI) (fV : zI) (fS : zI) (fT' : zI) (fW' : zI) (fV' : zI) (fS' : zI) (r : Nat) (hrr : r < 20) : Met l yX2_isLike wsX2_isLike ({ frames := 0, cells := 0, slots := 0, locals := 0 }) (zRc dC dI (zTy cI cZ cH cJ) [.ref h0, .ref h0', .int (nI r)] ([(h0, .inr (2, [.ref aT, .ref aW, .ref aV, .ref aS])), (aT, .inl (cZ, 20, .inl fT)), (aW, .inl (cI, 20, .inl fW)), (aV, .inl (cI, 20, .inl fV)), (aS, .inl (cI, 20, .inl fS)), (h0', .inr (2, [.ref aT', .ref aW', .ref aV', .ref aS'])), (aT', .inl (cZ, 20, .inl fT')), (aW', .inl (cI, 20, .inl fW')), (aV', .inl (cI, 20, .inl fV')), (aS', .inl (cI, 20, .inl fS'))])) (zSi (zlike fT fW fV fS fT' fW' fV' fS' r)) 0 0 (fun _ => False) := by
  refine Met.ofW (cc := cX2_isLike) (maxL := 3) (ret := (some .boolean)) (by decide) rfl ?_
  intro p e s m args below meth c s₁ B hml hv
  obtain ⟨rfl, hP, hK⟩ := hv
  have hx := B.exec
  have hb := B.bytes
  have hr := B.returns
  have hts := atoms_spec (ws := wsX2_isLike) B.pre
  have hown : s.vm.findClass RX2 = some m.cls := findClass_of_methodNamed B.named
  have hlocks := B.notSynchronized
  have hl := lv_entry ([.ref h0, .ref h0', .int (nI r)]) (n := 3) (Nat.le_of_ble_eq_true rfl)
  rw [lg_entry_eq]
  generalize (lg_sl ([.ref h0, .ref h0', .int (nI r)]) ++ List.replicate (3 - (lg_sl ([.ref h0, .ref h0', .int (nI r)])).length) Slot.unset).toArray = ls at hl ⊢
  have hl : lv_has ls 3 [(0, .ref h0), (1, .ref h0'), (2, .int (nI r))] := hl
  have hiX2 : ∀ w ∈ wsX20, w ∈ wsX2_isLike := by decide +kernel
  have l9 := hts (.fieldLink RX2 9 "CatalogueHarvester$Records" "isThere" "[Z") (by decide +kernel)
  have l15 := hts (.fieldLink RX2 15 "CatalogueHarvester$Records" "works" "[I") (by decide +kernel)
  have l19 := hts (.fieldLink RX2 19 "CatalogueHarvester$Records" "values" "[I") (by decide +kernel)
  have l22 := hts (.fieldLink RX2 22 "CatalogueHarvester$Records" "stamps" "[I") (by decide +kernel)
  refine lv_aload_n hx hb dX2_isLike_0 rfl (lv_at hl 0 rfl) ?_
  refine va_get (D := (dC, dI)) (ci := 2) (v := .ref aT) (C := RX2) (T := TX2) (N := 4) hx hb hts hiX2 hown hK hP 0 rfl rfl 0 (by decide) l9 (fun _ h9 => h9) rfl dX2_isLike_1 ?_
  refine lv_iload_n hx hb dX2_isLike_4 rfl (lv_at hl 2 rfl) ?_
  refine z_zald hx hb hK hP 1 rfl (zix_nI (by first | assumption | omega) (by decide)) dX2_isLike_5 ?_
  refine z_tv (v := fT r) (rfl) ?_
  refine lv_if_eq (tgt := 18) hx hb dX2_isLike_6 (by decide) (fun c_6 => ?_) (fun c_6 => ?_)
  · skip
    refine lv_aload_n hx hb dX2_isLike_18 rfl (lv_at hl 0 rfl) ?_
    refine va_get (D := (dC, dI)) (ci := 2) (v := .ref aT) (C := RX2) (T := TX2) (N := 4) hx hb hts hiX2 hown hK hP 0 rfl rfl 0 (by decide) l9 (fun _ h9 => h9) rfl dX2_isLike_19 ?_
    refine lv_iload_n hx hb dX2_isLike_22 rfl (lv_at hl 2 rfl) ?_
    refine z_zald hx hb hK hP 1 rfl (zix_nI (by first | assumption | omega) (by decide)) dX2_isLike_23 ?_
    refine z_tv (v := fT r) (rfl) ?_
    refine lv_aload_n hx hb dX2_isLike_24 rfl (lv_at hl 1 rfl) ?_
    refine va_get (D := (dC, dI)) (ci := 2) (v := .ref aT') (C := RX2) (T := TX2) (N := 4) hx hb hts hiX2 hown hK hP 5 rfl rfl 0 (by decide) l9 (fun _ h9 => h9) rfl dX2_isLike_25 ?_
    refine lv_iload_n hx hb dX2_isLike_28 rfl (lv_at hl 2 rfl) ?_
    refine z_zald hx hb hK hP 6 rfl (zix_nI (by first | assumption | omega) (by decide)) dX2_isLike_29 ?_
    refine z_tv (v := fT' r) (rfl) ?_
    refine lv_icmp_ne (tgt := 37) hx hb dX2_isLike_30 (by decide) (fun c_30 => ?_) (fun c_30 => ?_)
    · skip
      refine lv_iconst (v := 0) hx hb dX2_isLike_37 (by decide) ?_
      refine z_tv (v := zlike fT fW fV fS fT' fW' fV' fS' r) (by unfold zlike; grind) ?_
      exact W.zret (ty := .boolean) hx hb hr (z_nl _ _ _ _ _ _ _ _ _) (fun t ht hW => ⟨rfl, ht⟩) (fun _ h => nomatch h) dX2_isLike_38
    · skip
      refine lv_iconst (v := 1) hx hb dX2_isLike_33 (by decide) ?_
      refine lv_goto (tgt := 38) hx hb dX2_isLike_34 (by decide) ?_
      refine z_tv (v := zlike fT fW fV fS fT' fW' fV' fS' r) (by unfold zlike; grind) ?_
      exact W.zret (ty := .boolean) hx hb hr (z_nl _ _ _ _ _ _ _ _ _) (fun t ht hW => ⟨rfl, ht⟩) (fun _ h => nomatch h) dX2_isLike_38
  · skip
    refine lv_aload_n hx hb dX2_isLike_9 rfl (lv_at hl 1 rfl) ?_
    refine va_get (D := (dC, dI)) (ci := 2) (v := .ref aT') (C := RX2) (T := TX2) (N := 4) hx hb hts hiX2 hown hK hP 5 rfl rfl 0 (by decide) l9 (fun _ h9 => h9) rfl dX2_isLike_10 ?_
    refine lv_iload_n hx hb dX2_isLike_13 rfl (lv_at hl 2 rfl) ?_
    refine z_zald hx hb hK hP 6 rfl (zix_nI (by first | assumption | omega) (by decide)) dX2_isLike_14 ?_
    refine z_tv (v := fT' r) (rfl) ?_
    refine lv_if_ne (tgt := 39) hx hb dX2_isLike_15 (by decide) (fun c_15 => ?_) (fun c_15 => ?_)
    · skip
      refine lv_aload_n hx hb dX2_isLike_39 rfl (lv_at hl 0 rfl) ?_
      refine va_get (D := (dC, dI)) (ci := 2) (v := .ref aW) (C := RX2) (T := TX2) (N := 4) hx hb hts hiX2 hown hK hP 0 rfl rfl 1 (by decide) l15 (fun _ h9 => h9) rfl dX2_isLike_40 ?_
      refine lv_iload_n hx hb dX2_isLike_43 rfl (lv_at hl 2 rfl) ?_
      refine z_iald hx hb hK hP 2 rfl (zix_nI (by first | assumption | omega) (by decide)) dX2_isLike_44 ?_
      refine z_tv (v := fW r) (rfl) ?_
      refine lv_aload_n hx hb dX2_isLike_45 rfl (lv_at hl 1 rfl) ?_
      refine va_get (D := (dC, dI)) (ci := 2) (v := .ref aW') (C := RX2) (T := TX2) (N := 4) hx hb hts hiX2 hown hK hP 5 rfl rfl 1 (by decide) l15 (fun _ h9 => h9) rfl dX2_isLike_46 ?_
      refine lv_iload_n hx hb dX2_isLike_49 rfl (lv_at hl 2 rfl) ?_
      refine z_iald hx hb hK hP 7 rfl (zix_nI (by first | assumption | omega) (by decide)) dX2_isLike_50 ?_
      refine z_tv (v := fW' r) (rfl) ?_
      refine lv_icmp_ne (tgt := 88) hx hb dX2_isLike_51 (by decide) (fun c_51 => ?_) (fun c_51 => ?_)
      · skip
        refine lv_iconst (v := 0) hx hb dX2_isLike_88 (by decide) ?_
        refine z_tv (v := zlike fT fW fV fS fT' fW' fV' fS' r) (by unfold zlike; grind) ?_
        exact W.zret (ty := .boolean) hx hb hr (z_nl _ _ _ _ _ _ _ _ _) (fun t ht hW => ⟨rfl, ht⟩) (fun _ h => nomatch h) dX2_isLike_89
      · skip
        refine lv_aload_n hx hb dX2_isLike_54 rfl (lv_at hl 0 rfl) ?_
        refine va_get (D := (dC, dI)) (ci := 2) (v := .ref aV) (C := RX2) (T := TX2) (N := 4) hx hb hts hiX2 hown hK hP 0 rfl rfl 2 (by decide) l19 (fun _ h9 => h9) rfl dX2_isLike_55 ?_
        refine lv_iload_n hx hb dX2_isLike_58 rfl (lv_at hl 2 rfl) ?_
        refine z_iald hx hb hK hP 3 rfl (zix_nI (by first | assumption | omega) (by decide)) dX2_isLike_59 ?_
        refine z_tv (v := fV r) (rfl) ?_
        refine lv_aload_n hx hb dX2_isLike_60 rfl (lv_at hl 1 rfl) ?_
        refine va_get (D := (dC, dI)) (ci := 2) (v := .ref aV') (C := RX2) (T := TX2) (N := 4) hx hb hts hiX2 hown hK hP 5 rfl rfl 2 (by decide) l19 (fun _ h9 => h9) rfl dX2_isLike_61 ?_
        refine lv_iload_n hx hb dX2_isLike_64 rfl (lv_at hl 2 rfl) ?_
        refine z_iald hx hb hK hP 8 rfl (zix_nI (by first | assumption | omega) (by decide)) dX2_isLike_65 ?_
        refine z_tv (v := fV' r) (rfl) ?_
        refine lv_icmp_ne (tgt := 88) hx hb dX2_isLike_66 (by decide) (fun c_66 => ?_) (fun c_66 => ?_)
        · skip
          refine lv_iconst (v := 0) hx hb dX2_isLike_88 (by decide) ?_
          refine z_tv (v := zlike fT fW fV fS fT' fW' fV' fS' r) (by unfold zlike; grind) ?_
          exact W.zret (ty := .boolean) hx hb hr (z_nl _ _ _ _ _ _ _ _ _) (fun t ht hW => ⟨rfl, ht⟩) (fun _ h => nomatch h) dX2_isLike_89
        · skip
          refine lv_aload_n hx hb dX2_isLike_69 rfl (lv_at hl 0 rfl) ?_
          refine va_get (D := (dC, dI)) (ci := 2) (v := .ref aS) (C := RX2) (T := TX2) (N := 4) hx hb hts hiX2 hown hK hP 0 rfl rfl 3 (by decide) l22 (fun _ h9 => h9) rfl dX2_isLike_70 ?_
          refine lv_iload_n hx hb dX2_isLike_73 rfl (lv_at hl 2 rfl) ?_
          refine z_iald hx hb hK hP 4 rfl (zix_nI (by first | assumption | omega) (by decide)) dX2_isLike_74 ?_
          refine z_tv (v := fS r) (rfl) ?_
          refine lv_aload_n hx hb dX2_isLike_75 rfl (lv_at hl 1 rfl) ?_
          refine va_get (D := (dC, dI)) (ci := 2) (v := .ref aS') (C := RX2) (T := TX2) (N := 4) hx hb hts hiX2 hown hK hP 5 rfl rfl 3 (by decide) l22 (fun _ h9 => h9) rfl dX2_isLike_76 ?_
          refine lv_iload_n hx hb dX2_isLike_79 rfl (lv_at hl 2 rfl) ?_
          refine z_iald hx hb hK hP 9 rfl (zix_nI (by first | assumption | omega) (by decide)) dX2_isLike_80 ?_
          refine z_tv (v := fS' r) (rfl) ?_
          refine lv_icmp_ne (tgt := 88) hx hb dX2_isLike_81 (by decide) (fun c_81 => ?_) (fun c_81 => ?_)
          · skip
            refine lv_iconst (v := 0) hx hb dX2_isLike_88 (by decide) ?_
            refine z_tv (v := zlike fT fW fV fS fT' fW' fV' fS' r) (by unfold zlike; grind) ?_
            exact W.zret (ty := .boolean) hx hb hr (z_nl _ _ _ _ _ _ _ _ _) (fun t ht hW => ⟨rfl, ht⟩) (fun _ h => nomatch h) dX2_isLike_89
          · skip
            refine lv_iconst (v := 1) hx hb dX2_isLike_84 (by decide) ?_
            refine lv_goto (tgt := 89) hx hb dX2_isLike_85 (by decide) ?_
            refine z_tv (v := zlike fT fW fV fS fT' fW' fV' fS' r) (by unfold zlike; grind) ?_
            exact W.zret (ty := .boolean) hx hb hr (z_nl _ _ _ _ _ _ _ _ _) (fun t ht hW => ⟨rfl, ht⟩) (fun _ h => nomatch h) dX2_isLike_89
    · skip
      refine lv_aload_n hx hb dX2_isLike_18 rfl (lv_at hl 0 rfl) ?_
      refine va_get (D := (dC, dI)) (ci := 2) (v := .ref aT) (C := RX2) (T := TX2) (N := 4) hx hb hts hiX2 hown hK hP 0 rfl rfl 0 (by decide) l9 (fun _ h9 => h9) rfl dX2_isLike_19 ?_
      refine lv_iload_n hx hb dX2_isLike_22 rfl (lv_at hl 2 rfl) ?_
      refine z_zald hx hb hK hP 1 rfl (zix_nI (by first | assumption | omega) (by decide)) dX2_isLike_23 ?_
      refine z_tv (v := fT r) (rfl) ?_
      refine lv_aload_n hx hb dX2_isLike_24 rfl (lv_at hl 1 rfl) ?_
      refine va_get (D := (dC, dI)) (ci := 2) (v := .ref aT') (C := RX2) (T := TX2) (N := 4) hx hb hts hiX2 hown hK hP 5 rfl rfl 0 (by decide) l9 (fun _ h9 => h9) rfl dX2_isLike_25 ?_
      refine lv_iload_n hx hb dX2_isLike_28 rfl (lv_at hl 2 rfl) ?_
      refine z_zald hx hb hK hP 6 rfl (zix_nI (by first | assumption | omega) (by decide)) dX2_isLike_29 ?_
      refine z_tv (v := fT' r) (rfl) ?_
      refine lv_icmp_ne (tgt := 37) hx hb dX2_isLike_30 (by decide) (fun c_30 => ?_) (fun c_30 => ?_)
      · skip
        refine lv_iconst (v := 0) hx hb dX2_isLike_37 (by decide) ?_
        refine z_tv (v := zlike fT fW fV fS fT' fW' fV' fS' r) (by unfold zlike; grind) ?_
        exact W.zret (ty := .boolean) hx hb hr (z_nl _ _ _ _ _ _ _ _ _) (fun t ht hW => ⟨rfl, ht⟩) (fun _ h => nomatch h) dX2_isLike_38
      · skip
        refine lv_iconst (v := 1) hx hb dX2_isLike_33 (by decide) ?_
        refine lv_goto (tgt := 38) hx hb dX2_isLike_34 (by decide) ?_
        refine z_tv (v := zlike fT fW fV fS fT' fW' fV' fS' r) (by unfold zlike; grind) ?_
        exact W.zret (ty := .boolean) hx hb hr (z_nl _ _ _ _ _ _ _ _ _) (fun t ht hW => ⟨rfl, ht⟩) (fun _ h => nomatch h) dX2_isLike_38
set_option maxHeartbeats 4000000 in
set_option maxRecDepth 100000 in
/-- Records.countUnlike -/
theorem kX2_countUnlike (l : Launch) (dC : Nat → ClassId) (dI : Nat → Nat → Nat) (cI cZ cH cJ : ClassId) (h0 : Nat) (aT : Nat) (aW : Nat) (aV : Nat) (aS : Nat) (h0' : Nat) (aT' : Nat) (aW' : Nat) (aV' : Nat) (aS' : Nat) (fT : zI) (fW : zI) (fV : zI) (fS : zI) (fT' : zI) (fW' : zI) (fV' : zI) (fS' : zI) : Met l yX2_countUnlike wsX2_countUnlike ({ frames := 1, cells := 0, slots := 0, locals := 22 }) (zRc dC dI (zTy cI cZ cH cJ) [.ref h0, .ref h0'] ([(h0, .inr (2, [.ref aT, .ref aW, .ref aV, .ref aS])), (aT, .inl (cZ, 20, .inl fT)), (aW, .inl (cI, 20, .inl fW)), (aV, .inl (cI, 20, .inl fV)), (aS, .inl (cI, 20, .inl fS)), (h0', .inr (2, [.ref aT', .ref aW', .ref aV', .ref aS'])), (aT', .inl (cZ, 20, .inl fT')), (aW', .inl (cI, 20, .inl fW')), (aV', .inl (cI, 20, .inl fV')), (aS', .inl (cI, 20, .inl fS'))])) (zSi (zcu fT fW fV fS fT' fW' fV' fS' 20)) 0 0 (fun _ => False) := by
  refine Met.ofW (cc := cX2_countUnlike) (maxL := 4) (ret := (some .int)) (by decide) rfl ?_
  intro p e s m args below meth c s₁ B hml hv
  obtain ⟨rfl, hP, hK⟩ := hv
  have hx := B.exec
  have hb := B.bytes
  have hr := B.returns
  have hts := atoms_spec (ws := wsX2_countUnlike) B.pre
  have hown : s.vm.findClass RX2 = some m.cls := findClass_of_methodNamed B.named
  have hlocks := B.notSynchronized
  have hl := lv_entry ([.ref h0, .ref h0']) (n := 4) (Nat.le_of_ble_eq_true rfl)
  rw [lg_entry_eq]
  generalize (lg_sl ([.ref h0, .ref h0']) ++ List.replicate (4 - (lg_sl ([.ref h0, .ref h0'])).length) Slot.unset).toArray = ls at hl ⊢
  have hl : lv_has ls 4 [(0, .ref h0), (1, .ref h0')] := hl
  refine lv_iconst (v := 0) hx hb dX2_countUnlike_0 (by decide) ?_
  refine lv_istore_n (lv' := [(2, .int 0), (0, .ref h0), (1, .ref h0')]) hx hb dX2_countUnlike_1 rfl hl (by decide) rfl (fun ls hl => ?_)
  refine lv_iconst (v := 0) hx hb dX2_countUnlike_2 (by decide) ?_
  refine lv_istore_n (lv' := [(3, .int 0), (2, .int 0), (0, .ref h0), (1, .ref h0')]) hx hb dX2_countUnlike_3 rfl hl (by decide) rfl (fun ls hl => ?_)
  have LOOP1 : ∀ (n i : Nat), i ≤ 20 → 20 < i + n → ∀ (ls : Array Slot), lv_has ls 4 [(0, .ref h0), (1, .ref h0'), (2, .int (zcu fT fW fV fS fT' fW' fV' fS' i)), (3, .int (nI i))] → W p l e (headSpec wsX2_countUnlike ({ frames := 1, cells := 0, slots := 0, locals := 22 })).room s m ([.ref h0, .ref h0'] : List Value).toArray below meth c s.heap [] 0 0 (MQ below (zSi (zcu fT fW fV fS fT' fW' fV' fS' 20)) ([.ref h0, .ref h0'] : List Value).toArray s 0 0 (fun _ => False)) (F0 m 4 ls []) := by
    intro n
    induction n with
    | zero => intro i h1 h2; exact absurd h2 (by omega)
    | succ n ih =>
      intro i hi hin   ls hl
      refine lv_iload_n hx hb dX2_countUnlike_4 rfl (lv_at hl 3 rfl) ?_
      refine lv_bipush (v := 20) hx hb dX2_countUnlike_5 (by decide) ?_
      refine lv_icmp_ge (tgt := 28) hx hb dX2_countUnlike_7 (by decide) (fun c_7 => ?_) (fun c_7 => ?_)
      · skip
        have e20 : i = 20 := z_ge (n := 20) hi (by decide) c_7
        subst e20
        refine lv_iload_n hx hb dX2_countUnlike_28 rfl (lv_at hl 2 rfl) ?_
        exact W.iret hx hb hr (fun t ht hW => ⟨rfl, ht⟩) (fun _ h => nomatch h) dX2_countUnlike_29
      · skip
        have hlt : i < 20 := z_lt (n := 20) hi (by decide) c_7
        refine lv_aload_n hx hb dX2_countUnlike_10 rfl (lv_at hl 0 rfl) ?_
        refine lv_aload_n hx hb dX2_countUnlike_11 rfl (lv_at hl 1 rfl) ?_
        refine lv_iload_n hx hb dX2_countUnlike_12 rfl (lv_at hl 3 rfl) ?_
        refine z_cRi (va_runV (As := [.ref h0', .int (nI i)]) (rest := []) ⟨hx, hb, hml, hown, hts⟩ (kX2_isLike l dC dI cI cZ cH cJ h0 aT aW aV aS h0' aT' aW' aV' aS' fT fW fV fS fT' fW' fV' fS' i (by first | assumption | omega)) (cwV 2 hts gX2_countUnlike_X2_isLike rfl rfl rfl (by decide +kernel) ⟨Nat.le_of_ble_eq_true rfl, Nat.le_of_ble_eq_true rfl⟩) (zPreR (is := [0, 1, 2, 3, 4, 5, 6, 7, 8, 9]) hK hP rfl (va_recv hK hP (ci := 2) (q0 := 0) rfl rfl)) rfl rfl hl.1 rfl (lv_room (Nat.le_of_ble_eq_true rfl)) dX2_countUnlike_13 ⟨Nat.le_of_ble_eq_true rfl, Nat.le_of_ble_eq_true rfl⟩) ?_
        refine z_tv (v := zlike fT fW fV fS fT' fW' fV' fS' i) rfl ?_
        refine lv_if_ne (tgt := 22) hx hb dX2_countUnlike_16 (by decide) (fun c_16 => ?_) (fun c_16 => ?_)
        · skip
          refine lv_iinc (v := nI (i + 1)) (lv' := [(3, .int (nI (i + 1))), (0, .ref h0), (1, .ref h0'), (2, .int (zcu fT fW fV fS fT' fW' fV' fS' i))]) hx hb dX2_countUnlike_22 hl (k := 3) rfl (z_1) (by decide) rfl (fun ls hl => ?_)
          refine lv_goto (tgt := 4) hx hb dX2_countUnlike_25 (by decide) ?_
          exact ih (i + 1) (by omega) (by omega)  _ (lv_cg (lv_sub (l' := [(0, .ref h0), (1, .ref h0'), (2, .int (zcu fT fW fV fS fT' fW' fV' fS' i)), (3, .int (nI (i + 1)))]) hl [1, 2, 3, 0] rfl) (zl_k (zl_k (zl_c (by grind [zcu]) (zl_k (rfl))))))
        · skip
          refine lv_iinc (v := (zcu fT fW fV fS fT' fW' fV' fS' i) + 1) (lv' := [(2, .int ((zcu fT fW fV fS fT' fW' fV' fS' i) + 1)), (0, .ref h0), (1, .ref h0'), (3, .int (nI i))]) hx hb dX2_countUnlike_19 hl (k := 2) rfl (rfl) (by decide) rfl (fun ls hl => ?_)
          refine lv_iinc (v := nI (i + 1)) (lv' := [(3, .int (nI (i + 1))), (2, .int ((zcu fT fW fV fS fT' fW' fV' fS' i) + 1)), (0, .ref h0), (1, .ref h0')]) hx hb dX2_countUnlike_22 hl (k := 3) rfl (z_1) (by decide) rfl (fun ls hl => ?_)
          refine lv_goto (tgt := 4) hx hb dX2_countUnlike_25 (by decide) ?_
          exact ih (i + 1) (by omega) (by omega)  _ (lv_cg (lv_sub (l' := [(0, .ref h0), (1, .ref h0'), (2, .int ((zcu fT fW fV fS fT' fW' fV' fS' i) + 1)), (3, .int (nI (i + 1)))]) hl [2, 3, 1, 0] rfl) (zl_k (zl_k (zl_c (by grind [zcu]) (zl_k (rfl))))))
  exact LOOP1 (20 + 1) 0 (by omega) (by omega)  _ (lv_cg (lv_sub (l' := [(0, .ref h0), (1, .ref h0'), (2, .int 0), (3, .int 0)]) hl [2, 3, 1, 0] rfl) (zl_k (zl_k (zl_c (rfl) (zl_c (rfl) (rfl))))))
set_option maxHeartbeats 4000000 in
set_option maxRecDepth 100000 in
/-- Records.latestOfWork -/
theorem kX2_latestOfWork (l : Launch) (dC : Nat → ClassId) (dI : Nat → Nat → Nat) (cI cZ cH cJ : ClassId) (h0 : Nat) (aT : Nat) (aW : Nat) (aV : Nat) (aS : Nat) (fT : zI) (fW : zI) (fV : zI) (fS : zI) (w : Int32) : Met l yX2_latestOfWork wsX2_latestOfWork ({ frames := 0, cells := 0, slots := 0, locals := 0 }) (zRc dC dI (zTy cI cZ cH cJ) [.ref h0, .int w] ([(h0, .inr (2, [.ref aT, .ref aW, .ref aV, .ref aS])), (aT, .inl (cZ, 20, .inl fT)), (aW, .inl (cI, 20, .inl fW)), (aV, .inl (cI, 20, .inl fV)), (aS, .inl (cI, 20, .inl fS))])) (zSi ((zlat fT fW fS w 20).1)) 0 0 (fun _ => False) := by
  refine Met.ofW (cc := cX2_latestOfWork) (maxL := 5) (ret := (some .int)) (by decide) rfl ?_
  intro p e s m args below meth c s₁ B hml hv
  obtain ⟨rfl, hP, hK⟩ := hv
  have hx := B.exec
  have hb := B.bytes
  have hr := B.returns
  have hts := atoms_spec (ws := wsX2_latestOfWork) B.pre
  have hown : s.vm.findClass RX2 = some m.cls := findClass_of_methodNamed B.named
  have hlocks := B.notSynchronized
  have hl := lv_entry ([.ref h0, .int w]) (n := 5) (Nat.le_of_ble_eq_true rfl)
  rw [lg_entry_eq]
  generalize (lg_sl ([.ref h0, .int w]) ++ List.replicate (5 - (lg_sl ([.ref h0, .int w])).length) Slot.unset).toArray = ls at hl ⊢
  have hl : lv_has ls 5 [(0, .ref h0), (1, .int w)] := hl
  have hiX2 : ∀ w ∈ wsX20, w ∈ wsX2_latestOfWork := by decide +kernel
  have l9 := hts (.fieldLink RX2 9 "CatalogueHarvester$Records" "isThere" "[Z") (by decide +kernel)
  have l15 := hts (.fieldLink RX2 15 "CatalogueHarvester$Records" "works" "[I") (by decide +kernel)
  have l22 := hts (.fieldLink RX2 22 "CatalogueHarvester$Records" "stamps" "[I") (by decide +kernel)
  refine lv_iconst (v := (-1)) hx hb dX2_latestOfWork_0 (by decide) ?_
  refine lv_istore_n (lv' := [(2, .int (-1)), (0, .ref h0), (1, .int w)]) hx hb dX2_latestOfWork_1 rfl hl (by decide) rfl (fun ls hl => ?_)
  refine lv_iconst (v := (-1)) hx hb dX2_latestOfWork_2 (by decide) ?_
  refine lv_istore_n (lv' := [(3, .int (-1)), (2, .int (-1)), (0, .ref h0), (1, .int w)]) hx hb dX2_latestOfWork_3 rfl hl (by decide) rfl (fun ls hl => ?_)
  refine lv_iconst (v := 0) hx hb dX2_latestOfWork_4 (by decide) ?_
  refine lv_istore (lv' := [(4, .int 0), (3, .int (-1)), (2, .int (-1)), (0, .ref h0), (1, .int w)]) hx hb dX2_latestOfWork_5 hl (by decide) rfl (fun ls hl => ?_)
  have LOOP1 : ∀ (n i : Nat), i ≤ 20 → 20 < i + n → ∀ (ls : Array Slot), lv_has ls 5 [(0, .ref h0), (1, .int w), (2, .int ((zlat fT fW fS w i).1)), (3, .int ((zlat fT fW fS w i).2)), (4, .int (nI i))] → W p l e (headSpec wsX2_latestOfWork ({ frames := 0, cells := 0, slots := 0, locals := 0 })).room s m ([.ref h0, .int w] : List Value).toArray below meth c s.heap [] 0 0 (MQ below (zSi ((zlat fT fW fS w 20).1)) ([.ref h0, .int w] : List Value).toArray s 0 0 (fun _ => False)) (F0 m 7 ls []) := by
    intro n
    induction n with
    | zero => intro i h1 h2; exact absurd h2 (by omega)
    | succ n ih =>
      intro i hi hin   ls hl
      refine lv_iload hx hb dX2_latestOfWork_7 (lv_at hl 4 rfl) ?_
      refine lv_bipush (v := 20) hx hb dX2_latestOfWork_9 (by decide) ?_
      refine lv_icmp_ge (tgt := 63) hx hb dX2_latestOfWork_11 (by decide) (fun c_11 => ?_) (fun c_11 => ?_)
      · skip
        have e20 : i = 20 := z_ge (n := 20) hi (by decide) c_11
        subst e20
        refine lv_iload_n hx hb dX2_latestOfWork_63 rfl (lv_at hl 2 rfl) ?_
        exact W.iret hx hb hr (fun t ht hW => ⟨rfl, ht⟩) (fun _ h => nomatch h) dX2_latestOfWork_64
      · skip
        have hlt : i < 20 := z_lt (n := 20) hi (by decide) c_11
        refine lv_aload_n hx hb dX2_latestOfWork_14 rfl (lv_at hl 0 rfl) ?_
        refine va_get (D := (dC, dI)) (ci := 2) (v := .ref aT) (C := RX2) (T := TX2) (N := 4) hx hb hts hiX2 hown hK hP 0 rfl rfl 0 (by decide) l9 (fun _ h9 => h9) rfl dX2_latestOfWork_15 ?_
        refine lv_iload hx hb dX2_latestOfWork_18 (lv_at hl 4 rfl) ?_
        refine z_zald hx hb hK hP 1 rfl (zix_nI (by first | assumption | omega) (by decide)) dX2_latestOfWork_20 ?_
        refine z_tv (v := fT i) (rfl) ?_
        refine lv_if_eq (tgt := 57) hx hb dX2_latestOfWork_21 (by decide) (fun c_21 => ?_) (fun c_21 => ?_)
        · skip
          refine lv_iinc (v := nI (i + 1)) (lv' := [(4, .int (nI (i + 1))), (0, .ref h0), (1, .int w), (2, .int ((zlat fT fW fS w i).1)), (3, .int ((zlat fT fW fS w i).2))]) hx hb dX2_latestOfWork_57 hl (k := 4) rfl (z_1) (by decide) rfl (fun ls hl => ?_)
          refine lv_goto (tgt := 7) hx hb dX2_latestOfWork_60 (by decide) ?_
          exact ih (i + 1) (by omega) (by omega)  _ (lv_cg (lv_sub (l' := [(0, .ref h0), (1, .int w), (2, .int ((zlat fT fW fS w i).1)), (3, .int ((zlat fT fW fS w i).2)), (4, .int (nI (i + 1)))]) hl [1, 2, 3, 4, 0] rfl) (zl_k (zl_k (zl_c (by grind [zlat]) (zl_c (by grind [zlat]) (zl_k (rfl)))))))
        · skip
          refine lv_aload_n hx hb dX2_latestOfWork_24 rfl (lv_at hl 0 rfl) ?_
          refine va_get (D := (dC, dI)) (ci := 2) (v := .ref aW) (C := RX2) (T := TX2) (N := 4) hx hb hts hiX2 hown hK hP 0 rfl rfl 1 (by decide) l15 (fun _ h9 => h9) rfl dX2_latestOfWork_25 ?_
          refine lv_iload hx hb dX2_latestOfWork_28 (lv_at hl 4 rfl) ?_
          refine z_iald hx hb hK hP 2 rfl (zix_nI (by first | assumption | omega) (by decide)) dX2_latestOfWork_30 ?_
          refine z_tv (v := fW i) (rfl) ?_
          refine lv_iload_n hx hb dX2_latestOfWork_31 rfl (lv_at hl 1 rfl) ?_
          refine lv_icmp_ne (tgt := 57) hx hb dX2_latestOfWork_32 (by decide) (fun c_32 => ?_) (fun c_32 => ?_)
          · skip
            refine lv_iinc (v := nI (i + 1)) (lv' := [(4, .int (nI (i + 1))), (0, .ref h0), (1, .int w), (2, .int ((zlat fT fW fS w i).1)), (3, .int ((zlat fT fW fS w i).2))]) hx hb dX2_latestOfWork_57 hl (k := 4) rfl (z_1) (by decide) rfl (fun ls hl => ?_)
            refine lv_goto (tgt := 7) hx hb dX2_latestOfWork_60 (by decide) ?_
            exact ih (i + 1) (by omega) (by omega)  _ (lv_cg (lv_sub (l' := [(0, .ref h0), (1, .int w), (2, .int ((zlat fT fW fS w i).1)), (3, .int ((zlat fT fW fS w i).2)), (4, .int (nI (i + 1)))]) hl [1, 2, 3, 4, 0] rfl) (zl_k (zl_k (zl_c (by grind [zlat]) (zl_c (by grind [zlat]) (zl_k (rfl)))))))
          · skip
            refine lv_aload_n hx hb dX2_latestOfWork_35 rfl (lv_at hl 0 rfl) ?_
            refine va_get (D := (dC, dI)) (ci := 2) (v := .ref aS) (C := RX2) (T := TX2) (N := 4) hx hb hts hiX2 hown hK hP 0 rfl rfl 3 (by decide) l22 (fun _ h9 => h9) rfl dX2_latestOfWork_36 ?_
            refine lv_iload hx hb dX2_latestOfWork_39 (lv_at hl 4 rfl) ?_
            refine z_iald hx hb hK hP 4 rfl (zix_nI (by first | assumption | omega) (by decide)) dX2_latestOfWork_41 ?_
            refine z_tv (v := fS i) (rfl) ?_
            refine lv_iload_n hx hb dX2_latestOfWork_42 rfl (lv_at hl 3 rfl) ?_
            refine lv_icmp_le (tgt := 57) hx hb dX2_latestOfWork_43 (by decide) (fun c_43 => ?_) (fun c_43 => ?_)
            · skip
              refine lv_iinc (v := nI (i + 1)) (lv' := [(4, .int (nI (i + 1))), (0, .ref h0), (1, .int w), (2, .int ((zlat fT fW fS w i).1)), (3, .int ((zlat fT fW fS w i).2))]) hx hb dX2_latestOfWork_57 hl (k := 4) rfl (z_1) (by decide) rfl (fun ls hl => ?_)
              refine lv_goto (tgt := 7) hx hb dX2_latestOfWork_60 (by decide) ?_
              exact ih (i + 1) (by omega) (by omega)  _ (lv_cg (lv_sub (l' := [(0, .ref h0), (1, .int w), (2, .int ((zlat fT fW fS w i).1)), (3, .int ((zlat fT fW fS w i).2)), (4, .int (nI (i + 1)))]) hl [1, 2, 3, 4, 0] rfl) (zl_k (zl_k (zl_c (by grind [zlat]) (zl_c (by grind [zlat]) (zl_k (rfl)))))))
            · skip
              refine lv_iload hx hb dX2_latestOfWork_46 (lv_at hl 4 rfl) ?_
              refine lv_istore_n (lv' := [(2, .int (nI i)), (0, .ref h0), (1, .int w), (3, .int ((zlat fT fW fS w i).2)), (4, .int (nI i))]) hx hb dX2_latestOfWork_48 rfl hl (by decide) rfl (fun ls hl => ?_)
              refine lv_aload_n hx hb dX2_latestOfWork_49 rfl (lv_at hl 1 rfl) ?_
              refine va_get (D := (dC, dI)) (ci := 2) (v := .ref aS) (C := RX2) (T := TX2) (N := 4) hx hb hts hiX2 hown hK hP 0 rfl rfl 3 (by decide) l22 (fun _ h9 => h9) rfl dX2_latestOfWork_50 ?_
              refine lv_iload hx hb dX2_latestOfWork_53 (lv_at hl 4 rfl) ?_
              refine z_iald hx hb hK hP 4 rfl (zix_nI (by first | assumption | omega) (by decide)) dX2_latestOfWork_55 ?_
              refine z_tv (v := fS i) (rfl) ?_
              refine lv_istore_n (lv' := [(3, .int (fS i)), (2, .int (nI i)), (0, .ref h0), (1, .int w), (4, .int (nI i))]) hx hb dX2_latestOfWork_56 rfl hl (by decide) rfl (fun ls hl => ?_)
              refine lv_iinc (v := nI (i + 1)) (lv' := [(4, .int (nI (i + 1))), (3, .int (fS i)), (2, .int (nI i)), (0, .ref h0), (1, .int w)]) hx hb dX2_latestOfWork_57 hl (k := 4) rfl (z_1) (by decide) rfl (fun ls hl => ?_)
              refine lv_goto (tgt := 7) hx hb dX2_latestOfWork_60 (by decide) ?_
              exact ih (i + 1) (by omega) (by omega)  _ (lv_cg (lv_sub (l' := [(0, .ref h0), (1, .int w), (2, .int (nI i)), (3, .int (fS i)), (4, .int (nI (i + 1)))]) hl [3, 4, 2, 1, 0] rfl) (zl_k (zl_k (zl_c (by grind [zlat]) (zl_c (by grind [zlat]) (zl_k (rfl)))))))
  exact LOOP1 (20 + 1) 0 (by omega) (by omega)  _ (lv_cg (lv_sub (l' := [(0, .ref h0), (1, .int w), (2, .int (-1)), (3, .int (-1)), (4, .int 0)]) hl [3, 4, 2, 1, 0] rfl) (zl_k (zl_k (zl_c (rfl) (zl_c (rfl) (zl_c (rfl) (rfl)))))))
end
section
set_option maxHeartbeats 4000000 in
set_option maxRecDepth 100000 in
/-- FarCatalogue.stampOfDay -/
theorem kX0_stampOfDay (l : Launch) (dC : Nat → ClassId) (dI : Nat → Nat → Nat) (cI cZ cH cJ : ClassId) (g0 : Nat) (b0 : Nat) (gI : Nat) (gS : Nat) (gD : Nat) (un : Int32) (de : Int32) (day : Int32) : Met l yX0_stampOfDay wsX0_stampOfDay ({ frames := 0, cells := 0, slots := 0, locals := 0 }) (zRc dC dI (zTy cI cZ cH cJ) [.ref g0, .int day] ([(g0, .inr (0, [.ref b0, .ref gI, .ref gS, .ref gD, .int un, .int de]))])) (zSi (zst un day)) 0 0 (fun _ => False) := by
  refine Met.ofW (cc := cX0_stampOfDay) (maxL := 2) (ret := (some .int)) (by decide) rfl ?_
  intro p e s m args below meth c s₁ B hml hv
  obtain ⟨rfl, hP, hK⟩ := hv
  have hx := B.exec
  have hb := B.bytes
  have hr := B.returns
  have hts := atoms_spec (ws := wsX0_stampOfDay) B.pre
  have hown : s.vm.findClass RX0 = some m.cls := findClass_of_methodNamed B.named
  have hlocks := B.notSynchronized
  have hl := lv_entry ([.ref g0, .int day]) (n := 2) (Nat.le_of_ble_eq_true rfl)
  rw [lg_entry_eq]
  generalize (lg_sl ([.ref g0, .int day]) ++ List.replicate (2 - (lg_sl ([.ref g0, .int day])).length) Slot.unset).toArray = ls at hl ⊢
  have hl : lv_has ls 2 [(0, .ref g0), (1, .int day)] := hl
  have hiX0 : ∀ w ∈ wsX00, w ∈ wsX0_stampOfDay := by decide +kernel
  have l29 := hts (.fieldLink RX0 29 "CatalogueHarvester$FarCatalogue" "unit" "I") (by decide +kernel)
  refine lv_aload_n hx hb dX0_stampOfDay_0 rfl (lv_at hl 0 rfl) ?_
  refine va_get (D := (dC, dI)) (ci := 0) (v := .int un) (C := RX0) (T := TX0) (N := 6) hx hb hts hiX0 hown hK hP 0 rfl rfl 4 (by decide) l29 (fun _ h9 => h9) rfl dX0_stampOfDay_1 ?_
  refine lv_iconst (v := 1) hx hb dX0_stampOfDay_4 (by decide) ?_
  refine lv_icmp_le (tgt := 19) hx hb dX0_stampOfDay_5 (by decide) (fun c_5 => ?_) (fun c_5 => ?_)
  · skip
    refine lv_iload_n hx hb dX0_stampOfDay_19 rfl (lv_at hl 1 rfl) ?_
    refine z_tv (v := zst un day) (by simp [zst, c_5]) ?_
    exact W.iret hx hb hr (fun t ht hW => ⟨rfl, ht⟩) (fun _ h => nomatch h) dX0_stampOfDay_20
  · skip
    refine lv_iload_n hx hb dX0_stampOfDay_8 rfl (lv_at hl 1 rfl) ?_
    refine lv_iload_n hx hb dX0_stampOfDay_9 rfl (lv_at hl 1 rfl) ?_
    refine lv_aload_n hx hb dX0_stampOfDay_10 rfl (lv_at hl 0 rfl) ?_
    refine va_get (D := (dC, dI)) (ci := 0) (v := .int un) (C := RX0) (T := TX0) (N := 6) hx hb hts hiX0 hown hK hP 0 rfl rfl 4 (by decide) l29 (fun _ h9 => h9) rfl dX0_stampOfDay_11 ?_
    refine lv_irem hx hb dX0_stampOfDay_14 (z_un c_5) ?_
    refine lv_isub hx hb dX0_stampOfDay_15 ?_
    refine lv_goto (tgt := 20) hx hb dX0_stampOfDay_16 (by decide) ?_
    refine z_tv (v := zst un day) (by simp [zst, c_5]) ?_
    exact W.iret hx hb hr (fun t ht hW => ⟨rfl, ht⟩) (fun _ h => nomatch h) dX0_stampOfDay_20
set_option maxHeartbeats 4000000 in
set_option maxRecDepth 100000 in
/-- FarCatalogue.change -/
theorem kX0_change (l : Launch) (dC : Nat → ClassId) (dI : Nat → Nat → Nat) (cI cZ cH cJ : ClassId) (g0 : Nat) (b0 : Nat) (gI : Nat) (gS : Nat) (gD : Nat) (bT : Nat) (bW : Nat) (bV : Nat) (bS : Nat) (un : Int32) (de : Int32) (fT : zI) (fW : zI) (fV : zI) (fS : zI) (iT : zI) (r : Nat) (hrr : r < 20) (w : Int32) (v : Int32) (today : Int32) (sz : Nat) : Met l yX0_change wsX0_change ({ frames := 1, cells := 0, slots := 0, locals := 24 }) (zPc dC dI (zTy cI cZ cH cJ) [.ref g0, .int (nI r), .int w, .int v, .int today] sz ([(g0, .inr (0, [.ref b0, .ref gI, .ref gS, .ref gD, .int un, .int de])), (b0, .inr (2, [.ref bT, .ref bW, .ref bV, .ref bS])), (bT, .inl (cZ, 20, .inl fT)), (bW, .inl (cI, 20, .inl fW)), (bV, .inl (cI, 20, .inl fV)), (bS, .inl (cI, 20, .inl fS)), (gI, .inl (cZ, 20, .inl iT))])) (zQi dC dI (zst un today) ([(g0, .inr (0, [.ref b0, .ref gI, .ref gS, .ref gD, .int un, .int de])), (b0, .inr (2, [.ref bT, .ref bW, .ref bV, .ref bS])), (bT, .inl (cZ, 20, .inl (upd fT r 1))), (bW, .inl (cI, 20, .inl (upd fW r w))), (bV, .inl (cI, 20, .inl (upd fV r v))), (bS, .inl (cI, 20, .inl (upd fS r (zst un today)))), (gI, .inl (cZ, 20, .inl (upd iT r 0)))]) (va_A ([(g0, .inr (0, [.ref b0, .ref gI, .ref gS, .ref gD, .int un, .int de])), (b0, .inr (2, [.ref bT, .ref bW, .ref bV, .ref bS])), (bT, .inl (cZ, 20, .inl fT)), (bW, .inl (cI, 20, .inl fW)), (bV, .inl (cI, 20, .inl fV)), (bS, .inl (cI, 20, .inl fS)), (gI, .inl (cZ, 20, .inl iT))]) sz)) 0 0 (va_A ([(g0, .inr (0, [.ref b0, .ref gI, .ref gS, .ref gD, .int un, .int de])), (b0, .inr (2, [.ref bT, .ref bW, .ref bV, .ref bS])), (bT, .inl (cZ, 20, .inl fT)), (bW, .inl (cI, 20, .inl fW)), (bV, .inl (cI, 20, .inl fV)), (bS, .inl (cI, 20, .inl fS)), (gI, .inl (cZ, 20, .inl iT))]) sz) := by
  refine Met.ofW (cc := cX0_change) (maxL := 6) (ret := (some .int)) (by decide) rfl ?_
  intro p e s m args below meth c s₁ B hml hv
  obtain ⟨rfl, hsz, hP, hK, hD0⟩ := hv
  have hx := B.exec
  have hb := B.bytes
  have hr := B.returns
  have hts := atoms_spec (ws := wsX0_change) B.pre
  have hown : s.vm.findClass RX0 = some m.cls := findClass_of_methodNamed B.named
  have hlocks := B.notSynchronized
  subst hsz
  have hD := hD0.self (sz := s.heap.size)
  generalize hAe : va_A ([(g0, .inr (0, [.ref b0, .ref gI, .ref gS, .ref gD, .int un, .int de])), (b0, .inr (2, [.ref bT, .ref bW, .ref bV, .ref bS])), (bT, .inl (cZ, 20, .inl fT)), (bW, .inl (cI, 20, .inl fW)), (bV, .inl (cI, 20, .inl fV)), (bS, .inl (cI, 20, .inl fS)), (gI, .inl (cZ, 20, .inl iT))]) s.heap.size = A at hD ⊢
  have hA : ∀ q : Nat, s.heap.size ≤ q → A q := fun q h => by rw [← hAe]; exact Or.inr h
  have hS : va_S A s.heap s.heap [] := va_S.rf
  have hl := lv_entry ([.ref g0, .int (nI r), .int w, .int v, .int today]) (n := 6) (Nat.le_of_ble_eq_true rfl)
  rw [lg_entry_eq]
  generalize (lg_sl ([.ref g0, .int (nI r), .int w, .int v, .int today]) ++ List.replicate (6 - (lg_sl ([.ref g0, .int (nI r), .int w, .int v, .int today])).length) Slot.unset).toArray = ls at hl ⊢
  have hl : lv_has ls 6 [(0, .ref g0), (1, .int (nI r)), (2, .int w), (3, .int v), (4, .int today)] := hl
  have hiX0 : ∀ w ∈ wsX00, w ∈ wsX0_change := by decide +kernel
  have l12 := hts (.fieldLink RX0 12 "CatalogueHarvester$FarCatalogue" "records" "LCatalogueHarvester$Records;") (by decide +kernel)
  have l18 := hts (.fieldLink RX0 18 "CatalogueHarvester$FarCatalogue" "isTold" "[Z") (by decide +kernel)
  refine lv_aload_n hx hb dX0_change_0 rfl (lv_at hl 0 rfl) ?_
  refine lv_iload hx hb dX0_change_1 (lv_at hl 4 rfl) ?_
  refine z_cRi (va_runV (As := [.int today]) (rest := []) ⟨hx, hb, hml, hown, hts⟩ (kX0_stampOfDay l dC dI cI cZ cH cJ g0 b0 gI gS gD un de today) (cwV 1 hts gX0_change_X0_stampOfDay rfl rfl rfl (by decide +kernel) ⟨Nat.le_of_ble_eq_true rfl, Nat.le_of_ble_eq_true rfl⟩) (zPreR (is := [0]) hK hP rfl (va_recv hK hP (ci := 0) (q0 := 0) rfl rfl)) rfl rfl hl.1 rfl (lv_room (Nat.le_of_ble_eq_true rfl)) dX0_change_3 ⟨Nat.le_of_ble_eq_true rfl, Nat.le_of_ble_eq_true rfl⟩) ?_
  refine z_tv (v := zst un today) rfl ?_
  refine lv_istore (lv' := [(5, .int (zst un today)), (0, .ref g0), (1, .int (nI r)), (2, .int w), (3, .int v), (4, .int today)]) hx hb dX0_change_6 hl (by decide) rfl (fun ls hl => ?_)
  refine lv_aload_n hx hb dX0_change_8 rfl (lv_at hl 1 rfl) ?_
  refine va_get (D := (dC, dI)) (ci := 0) (v := .ref b0) (C := RX0) (T := TX0) (N := 6) hx hb hts hiX0 hown hK hP 0 rfl rfl 0 (by decide) l12 (fun _ h9 => h9) rfl dX0_change_9 ?_
  refine lv_iload_n hx hb dX0_change_12 rfl (lv_at hl 2 rfl) ?_
  refine lv_iload_n hx hb dX0_change_13 rfl (lv_at hl 3 rfl) ?_
  refine lv_iload_n hx hb dX0_change_14 rfl (lv_at hl 4 rfl) ?_
  refine lv_iload hx hb dX0_change_15 (lv_at hl 0 rfl) ?_
  refine z_cMv (is := [1, 2, 3, 4, 5]) (va_runV (As := [.int (nI r), .int w, .int v, .int (zst un today)]) (rest := []) ⟨hx, hb, hml, hown, hts⟩ (kX2_keep l dC dI cI cZ cH cJ b0 bT bW bV bS fT fW fV fS r (by first | assumption | omega) w v (zst un today) s.heap.size) (cwV 4 hts gX0_change_X2_keep rfl rfl rfl (by decide +kernel) ⟨Nat.le_of_ble_eq_true rfl, Nat.le_of_ble_eq_true rfl⟩) (zPreV (is := [1, 2, 3, 4, 5]) hK hP hD (by decide) rfl (va_recv hK hP (ci := 2) (q0 := 1) rfl rfl)) rfl rfl hl.1 rfl (lv_room (Nat.le_of_ble_eq_true rfl)) dX0_change_17 ⟨Nat.le_of_ble_eq_true rfl, Nat.le_of_ble_eq_true rfl⟩) hP hD hS hA rfl (by decide) rfl (fun H locs hP hD hS => ?_)
  have hP : va_P (dC, dI) vwCl ([(g0, .inr (0, [.ref b0, .ref gI, .ref gS, .ref gD, .int un, .int de])), (b0, .inr (2, [.ref bT, .ref bW, .ref bV, .ref bS])), (bT, .inl (cZ, 20, .inl (upd fT r 1))), (bW, .inl (cI, 20, .inl (upd fW r w))), (bV, .inl (cI, 20, .inl (upd fV r v))), (bS, .inl (cI, 20, .inl (upd fS r (zst un today)))), (gI, .inl (cZ, 20, .inl iT))]) H := hP
  have hD : va_D A ([(g0, .inr (0, [.ref b0, .ref gI, .ref gS, .ref gD, .int un, .int de])), (b0, .inr (2, [.ref bT, .ref bW, .ref bV, .ref bS])), (bT, .inl (cZ, 20, .inl (upd fT r 1))), (bW, .inl (cI, 20, .inl (upd fW r w))), (bV, .inl (cI, 20, .inl (upd fV r v))), (bS, .inl (cI, 20, .inl (upd fS r (zst un today)))), (gI, .inl (cZ, 20, .inl iT))]) := hD
  refine lv_aload_n hx hb dX0_change_20 rfl (lv_at hl 1 rfl) ?_
  refine va_get (D := (dC, dI)) (ci := 0) (v := .ref gI) (C := RX0) (T := TX0) (N := 6) hx hb hts hiX0 hown hK hP 0 rfl rfl 1 (by decide) l18 (fun _ h9 => h9) rfl dX0_change_21 ?_
  refine lv_iload_n hx hb dX0_change_24 rfl (lv_at hl 2 rfl) ?_
  refine lv_iconst (v := 0) hx hb dX0_change_25 (by decide) ?_
  refine z_zast (v := 0) hx hb hK hP hD hS 6 rfl (zix_nI (by first | assumption | omega) (by decide)) (rfl) dX0_change_26 (fun H locs hP hD hS => ?_)
  have hP : va_P (dC, dI) vwCl ([(g0, .inr (0, [.ref b0, .ref gI, .ref gS, .ref gD, .int un, .int de])), (b0, .inr (2, [.ref bT, .ref bW, .ref bV, .ref bS])), (bT, .inl (cZ, 20, .inl (upd fT r 1))), (bW, .inl (cI, 20, .inl (upd fW r w))), (bV, .inl (cI, 20, .inl (upd fV r v))), (bS, .inl (cI, 20, .inl (upd fS r (zst un today)))), (gI, .inl (cZ, 20, .inl (upd iT r 0)))]) H := hP
  have hD : va_D A ([(g0, .inr (0, [.ref b0, .ref gI, .ref gS, .ref gD, .int un, .int de])), (b0, .inr (2, [.ref bT, .ref bW, .ref bV, .ref bS])), (bT, .inl (cZ, 20, .inl (upd fT r 1))), (bW, .inl (cI, 20, .inl (upd fW r w))), (bV, .inl (cI, 20, .inl (upd fV r v))), (bS, .inl (cI, 20, .inl (upd fS r (zst un today)))), (gI, .inl (cZ, 20, .inl (upd iT r 0)))]) := hD
  refine lv_iload hx hb dX0_change_27 (lv_at hl 0 rfl) ?_
  exact W.iret hx hb hr (fun t ht hW => ⟨rfl, ⟨by rw [ht]; exact hP, hD⟩, hS.F ht⟩) hS.2.2 dX0_change_29
set_option maxHeartbeats 4000000 in
set_option maxRecDepth 100000 in
/-- FarCatalogue.delete -/
theorem kX0_delete (l : Launch) (dC : Nat → ClassId) (dI : Nat → Nat → Nat) (cI cZ cH cJ : ClassId) (g0 : Nat) (b0 : Nat) (gI : Nat) (gS : Nat) (gD : Nat) (bT : Nat) (bW : Nat) (bV : Nat) (bS : Nat) (un : Int32) (de : Int32) (fT : zI) (iT : zI) (tS : zI) (rD : zI) (r : Nat) (hrr : r < 20) (today : Int32) (sz : Nat) : Met l yX0_delete wsX0_delete ({ frames := 1, cells := 0, slots := 0, locals := 21 }) (zPc dC dI (zTy cI cZ cH cJ) [.ref g0, .int (nI r), .int today] sz ([(g0, .inr (0, [.ref b0, .ref gI, .ref gS, .ref gD, .int un, .int de])), (b0, .inr (2, [.ref bT, .ref bW, .ref bV, .ref bS])), (bT, .inl (cZ, 20, .inl fT)), (gI, .inl (cZ, 20, .inl iT)), (gS, .inl (cI, 20, .inl tS)), (gD, .inl (cI, 20, .inl rD))])) (zQi dC dI (if de ≠ 2 then (1 : Int32) else 0) ([(g0, .inr (0, [.ref b0, .ref gI, .ref gS, .ref gD, .int un, .int de])), (b0, .inr (2, [.ref bT, .ref bW, .ref bV, .ref bS])), (bT, .inl (cZ, 20, .inl (upd fT r 0))), (gI, .inl (cZ, 20, .inl (upd iT r (if de ≠ 2 then (1 : Int32) else 0)))), (gS, .inl (cI, 20, .inl (upd tS r (zst un today)))), (gD, .inl (cI, 20, .inl (upd rD r today)))]) (va_A ([(g0, .inr (0, [.ref b0, .ref gI, .ref gS, .ref gD, .int un, .int de])), (b0, .inr (2, [.ref bT, .ref bW, .ref bV, .ref bS])), (bT, .inl (cZ, 20, .inl fT)), (gI, .inl (cZ, 20, .inl iT)), (gS, .inl (cI, 20, .inl tS)), (gD, .inl (cI, 20, .inl rD))]) sz)) 0 0 (va_A ([(g0, .inr (0, [.ref b0, .ref gI, .ref gS, .ref gD, .int un, .int de])), (b0, .inr (2, [.ref bT, .ref bW, .ref bV, .ref bS])), (bT, .inl (cZ, 20, .inl fT)), (gI, .inl (cZ, 20, .inl iT)), (gS, .inl (cI, 20, .inl tS)), (gD, .inl (cI, 20, .inl rD))]) sz) := by
  refine Met.ofW (cc := cX0_delete) (maxL := 3) (ret := (some .boolean)) (by decide) rfl ?_
  intro p e s m args below meth c s₁ B hml hv
  obtain ⟨rfl, hsz, hP, hK, hD0⟩ := hv
  have hx := B.exec
  have hb := B.bytes
  have hr := B.returns
  have hts := atoms_spec (ws := wsX0_delete) B.pre
  have hown : s.vm.findClass RX0 = some m.cls := findClass_of_methodNamed B.named
  have hlocks := B.notSynchronized
  subst hsz
  have hD := hD0.self (sz := s.heap.size)
  generalize hAe : va_A ([(g0, .inr (0, [.ref b0, .ref gI, .ref gS, .ref gD, .int un, .int de])), (b0, .inr (2, [.ref bT, .ref bW, .ref bV, .ref bS])), (bT, .inl (cZ, 20, .inl fT)), (gI, .inl (cZ, 20, .inl iT)), (gS, .inl (cI, 20, .inl tS)), (gD, .inl (cI, 20, .inl rD))]) s.heap.size = A at hD ⊢
  have hA : ∀ q : Nat, s.heap.size ≤ q → A q := fun q h => by rw [← hAe]; exact Or.inr h
  have hS : va_S A s.heap s.heap [] := va_S.rf
  have hl := lv_entry ([.ref g0, .int (nI r), .int today]) (n := 3) (Nat.le_of_ble_eq_true rfl)
  rw [lg_entry_eq]
  generalize (lg_sl ([.ref g0, .int (nI r), .int today]) ++ List.replicate (3 - (lg_sl ([.ref g0, .int (nI r), .int today])).length) Slot.unset).toArray = ls at hl ⊢
  have hl : lv_has ls 3 [(0, .ref g0), (1, .int (nI r)), (2, .int today)] := hl
  have hiX0 : ∀ w ∈ wsX00, w ∈ wsX0_delete := by decide +kernel
  have l12 := hts (.fieldLink RX0 12 "CatalogueHarvester$FarCatalogue" "records" "LCatalogueHarvester$Records;") (by decide +kernel)
  have l18 := hts (.fieldLink RX0 18 "CatalogueHarvester$FarCatalogue" "isTold" "[Z") (by decide +kernel)
  have l22 := hts (.fieldLink RX0 22 "CatalogueHarvester$FarCatalogue" "toldStamps" "[I") (by decide +kernel)
  have l26 := hts (.fieldLink RX0 26 "CatalogueHarvester$FarCatalogue" "removalDays" "[I") (by decide +kernel)
  have l33 := hts (.fieldLink RX0 33 "CatalogueHarvester$FarCatalogue" "deletes" "I") (by decide +kernel)
  refine lv_aload_n hx hb dX0_delete_0 rfl (lv_at hl 0 rfl) ?_
  refine va_get (D := (dC, dI)) (ci := 0) (v := .ref b0) (C := RX0) (T := TX0) (N := 6) hx hb hts hiX0 hown hK hP 0 rfl rfl 0 (by decide) l12 (fun _ h9 => h9) rfl dX0_delete_1 ?_
  refine lv_iload_n hx hb dX0_delete_4 rfl (lv_at hl 1 rfl) ?_
  refine z_cMv (is := [1, 2]) (va_runV (As := [.int (nI r)]) (rest := []) ⟨hx, hb, hml, hown, hts⟩ (kX2_drop l dC dI cI cZ cH cJ b0 bT bW bV bS fT r (by first | assumption | omega) s.heap.size) (cwV 1 hts gX0_delete_X2_drop rfl rfl rfl (by decide +kernel) ⟨Nat.le_of_ble_eq_true rfl, Nat.le_of_ble_eq_true rfl⟩) (zPreV (is := [1, 2]) hK hP hD (by decide) rfl (va_recv hK hP (ci := 2) (q0 := 1) rfl rfl)) rfl rfl hl.1 rfl (lv_room (Nat.le_of_ble_eq_true rfl)) dX0_delete_5 ⟨Nat.le_of_ble_eq_true rfl, Nat.le_of_ble_eq_true rfl⟩) hP hD hS hA rfl (by decide) rfl (fun H locs hP hD hS => ?_)
  have hP : va_P (dC, dI) vwCl ([(g0, .inr (0, [.ref b0, .ref gI, .ref gS, .ref gD, .int un, .int de])), (b0, .inr (2, [.ref bT, .ref bW, .ref bV, .ref bS])), (bT, .inl (cZ, 20, .inl (upd fT r 0))), (gI, .inl (cZ, 20, .inl iT)), (gS, .inl (cI, 20, .inl tS)), (gD, .inl (cI, 20, .inl rD))]) H := hP
  have hD : va_D A ([(g0, .inr (0, [.ref b0, .ref gI, .ref gS, .ref gD, .int un, .int de])), (b0, .inr (2, [.ref bT, .ref bW, .ref bV, .ref bS])), (bT, .inl (cZ, 20, .inl (upd fT r 0))), (gI, .inl (cZ, 20, .inl iT)), (gS, .inl (cI, 20, .inl tS)), (gD, .inl (cI, 20, .inl rD))]) := hD
  refine lv_aload_n hx hb dX0_delete_8 rfl (lv_at hl 0 rfl) ?_
  refine va_get (D := (dC, dI)) (ci := 0) (v := .ref gI) (C := RX0) (T := TX0) (N := 6) hx hb hts hiX0 hown hK hP 0 rfl rfl 1 (by decide) l18 (fun _ h9 => h9) rfl dX0_delete_9 ?_
  refine lv_iload_n hx hb dX0_delete_12 rfl (lv_at hl 1 rfl) ?_
  have J26_1 : ∀ (ls : Array Slot), lv_has ls 3 [(0, .ref g0), (1, .int (nI r)), (2, .int today)] → W p l e (headSpec wsX0_delete ({ frames := 1, cells := 0, slots := 0, locals := 21 })).room s m ([.ref g0, .int (nI r), .int today] : List Value).toArray below meth c H locs 0 0 (MQ below (zQi dC dI (if de ≠ 2 then (1 : Int32) else 0) ([(g0, .inr (0, [.ref b0, .ref gI, .ref gS, .ref gD, .int un, .int de])), (b0, .inr (2, [.ref bT, .ref bW, .ref bV, .ref bS])), (bT, .inl (cZ, 20, .inl (upd fT r 0))), (gI, .inl (cZ, 20, .inl (upd iT r (if de ≠ 2 then (1 : Int32) else 0)))), (gS, .inl (cI, 20, .inl (upd tS r (zst un today)))), (gD, .inl (cI, 20, .inl (upd rD r today)))]) A) ([.ref g0, .int (nI r), .int today] : List Value).toArray s 0 0 A) (F0 m 26 ls [.int (if de ≠ 2 then (1 : Int32) else 0), .int (nI r), .ref gI]) := by
    intro ls hl
    refine z_zast (v := if de ≠ 2 then (1 : Int32) else 0) hx hb hK hP hD hS 3 rfl (zix_nI (by first | assumption | omega) (by decide)) (z_vb _) dX0_delete_26 (fun H locs hP hD hS => ?_)
    have hP : va_P (dC, dI) vwCl ([(g0, .inr (0, [.ref b0, .ref gI, .ref gS, .ref gD, .int un, .int de])), (b0, .inr (2, [.ref bT, .ref bW, .ref bV, .ref bS])), (bT, .inl (cZ, 20, .inl (upd fT r 0))), (gI, .inl (cZ, 20, .inl (upd iT r (if de ≠ 2 then (1 : Int32) else 0)))), (gS, .inl (cI, 20, .inl tS)), (gD, .inl (cI, 20, .inl rD))]) H := hP
    have hD : va_D A ([(g0, .inr (0, [.ref b0, .ref gI, .ref gS, .ref gD, .int un, .int de])), (b0, .inr (2, [.ref bT, .ref bW, .ref bV, .ref bS])), (bT, .inl (cZ, 20, .inl (upd fT r 0))), (gI, .inl (cZ, 20, .inl (upd iT r (if de ≠ 2 then (1 : Int32) else 0)))), (gS, .inl (cI, 20, .inl tS)), (gD, .inl (cI, 20, .inl rD))]) := hD
    refine lv_aload_n hx hb dX0_delete_27 rfl (lv_at hl 0 rfl) ?_
    refine va_get (D := (dC, dI)) (ci := 0) (v := .ref gS) (C := RX0) (T := TX0) (N := 6) hx hb hts hiX0 hown hK hP 0 rfl rfl 2 (by decide) l22 (fun _ h9 => h9) rfl dX0_delete_28 ?_
    refine lv_iload_n hx hb dX0_delete_31 rfl (lv_at hl 1 rfl) ?_
    refine lv_aload_n hx hb dX0_delete_32 rfl (lv_at hl 0 rfl) ?_
    refine lv_iload_n hx hb dX0_delete_33 rfl (lv_at hl 2 rfl) ?_
    refine z_cRi (va_runV (As := [.int today]) (rest := [.int (nI r), .ref gS]) ⟨hx, hb, hml, hown, hts⟩ (kX0_stampOfDay l dC dI cI cZ cH cJ g0 b0 gI gS gD un de today) (cwV 1 hts gX0_delete_X0_stampOfDay rfl rfl rfl (by decide +kernel) ⟨Nat.le_of_ble_eq_true rfl, Nat.le_of_ble_eq_true rfl⟩) (zPreR (is := [0]) hK hP rfl (va_recv hK hP (ci := 0) (q0 := 0) rfl rfl)) rfl rfl hl.1 rfl (lv_room (Nat.le_of_ble_eq_true rfl)) dX0_delete_34 ⟨Nat.le_of_ble_eq_true rfl, Nat.le_of_ble_eq_true rfl⟩) ?_
    refine z_tv (v := zst un today) rfl ?_
    refine z_iast hx hb hK hP hD hS 4 rfl (zix_nI (by first | assumption | omega) (by decide)) dX0_delete_37 (fun H locs hP hD hS => ?_)
    have hP : va_P (dC, dI) vwCl ([(g0, .inr (0, [.ref b0, .ref gI, .ref gS, .ref gD, .int un, .int de])), (b0, .inr (2, [.ref bT, .ref bW, .ref bV, .ref bS])), (bT, .inl (cZ, 20, .inl (upd fT r 0))), (gI, .inl (cZ, 20, .inl (upd iT r (if de ≠ 2 then (1 : Int32) else 0)))), (gS, .inl (cI, 20, .inl (upd tS r (zst un today)))), (gD, .inl (cI, 20, .inl rD))]) H := hP
    have hD : va_D A ([(g0, .inr (0, [.ref b0, .ref gI, .ref gS, .ref gD, .int un, .int de])), (b0, .inr (2, [.ref bT, .ref bW, .ref bV, .ref bS])), (bT, .inl (cZ, 20, .inl (upd fT r 0))), (gI, .inl (cZ, 20, .inl (upd iT r (if de ≠ 2 then (1 : Int32) else 0)))), (gS, .inl (cI, 20, .inl (upd tS r (zst un today)))), (gD, .inl (cI, 20, .inl rD))]) := hD
    refine lv_aload_n hx hb dX0_delete_38 rfl (lv_at hl 0 rfl) ?_
    refine va_get (D := (dC, dI)) (ci := 0) (v := .ref gD) (C := RX0) (T := TX0) (N := 6) hx hb hts hiX0 hown hK hP 0 rfl rfl 3 (by decide) l26 (fun _ h9 => h9) rfl dX0_delete_39 ?_
    refine lv_iload_n hx hb dX0_delete_42 rfl (lv_at hl 1 rfl) ?_
    refine lv_iload_n hx hb dX0_delete_43 rfl (lv_at hl 2 rfl) ?_
    refine z_iast hx hb hK hP hD hS 5 rfl (zix_nI (by first | assumption | omega) (by decide)) dX0_delete_44 (fun H locs hP hD hS => ?_)
    have hP : va_P (dC, dI) vwCl ([(g0, .inr (0, [.ref b0, .ref gI, .ref gS, .ref gD, .int un, .int de])), (b0, .inr (2, [.ref bT, .ref bW, .ref bV, .ref bS])), (bT, .inl (cZ, 20, .inl (upd fT r 0))), (gI, .inl (cZ, 20, .inl (upd iT r (if de ≠ 2 then (1 : Int32) else 0)))), (gS, .inl (cI, 20, .inl (upd tS r (zst un today)))), (gD, .inl (cI, 20, .inl (upd rD r today)))]) H := hP
    have hD : va_D A ([(g0, .inr (0, [.ref b0, .ref gI, .ref gS, .ref gD, .int un, .int de])), (b0, .inr (2, [.ref bT, .ref bW, .ref bV, .ref bS])), (bT, .inl (cZ, 20, .inl (upd fT r 0))), (gI, .inl (cZ, 20, .inl (upd iT r (if de ≠ 2 then (1 : Int32) else 0)))), (gS, .inl (cI, 20, .inl (upd tS r (zst un today)))), (gD, .inl (cI, 20, .inl (upd rD r today)))]) := hD
    refine lv_aload_n hx hb dX0_delete_45 rfl (lv_at hl 0 rfl) ?_
    refine va_get (D := (dC, dI)) (ci := 0) (v := .ref gI) (C := RX0) (T := TX0) (N := 6) hx hb hts hiX0 hown hK hP 0 rfl rfl 1 (by decide) l18 (fun _ h9 => h9) rfl dX0_delete_46 ?_
    refine lv_iload_n hx hb dX0_delete_49 rfl (lv_at hl 1 rfl) ?_
    refine z_zald hx hb hK hP 3 rfl (zix_nI (by first | assumption | omega) (by decide)) dX0_delete_50 ?_
    refine z_tv (v := (upd iT r (if de ≠ 2 then (1 : Int32) else 0)) r) (rfl) ?_
    refine z_tv (v := if de ≠ 2 then (1 : Int32) else 0) (pk_us) ?_
    exact W.zret (ty := .boolean) hx hb hr (z_nb _) (fun t ht hW => ⟨rfl, ⟨by rw [ht]; exact hP, hD⟩, hS.F ht⟩) hS.2.2 dX0_delete_51
  refine lv_aload_n hx hb dX0_delete_13 rfl (lv_at hl 0 rfl) ?_
  refine va_get (D := (dC, dI)) (ci := 0) (v := .int de) (C := RX0) (T := TX0) (N := 6) hx hb hts hiX0 hown hK hP 0 rfl rfl 5 (by decide) l33 (fun _ h9 => h9) rfl dX0_delete_14 ?_
  refine lv_iconst (v := 2) hx hb dX0_delete_17 (by decide) ?_
  refine lv_icmp_eq (tgt := 25) hx hb dX0_delete_18 (by decide) (fun c_18 => ?_) (fun c_18 => ?_)
  · skip
    refine lv_iconst (v := 0) hx hb dX0_delete_25 (by decide) ?_
    refine z_tv (v := if de ≠ 2 then (1 : Int32) else 0) (by simp [c_18]) ?_
    exact J26_1 _ (lv_sub hl [0, 1, 2] rfl)
  · skip
    refine lv_iconst (v := 1) hx hb dX0_delete_21 (by decide) ?_
    refine lv_goto (tgt := 26) hx hb dX0_delete_22 (by decide) ?_
    refine z_tv (v := if de ≠ 2 then (1 : Int32) else 0) (by simp [c_18]) ?_
    exact J26_1 _ (lv_sub hl [0, 1, 2] rfl)
set_option maxHeartbeats 4000000 in
set_option maxRecDepth 100000 in
/-- FarCatalogue.forgetToldDeletes -/
theorem kX0_forgetToldDeletes (l : Launch) (dC : Nat → ClassId) (dI : Nat → Nat → Nat) (cI cZ cH cJ : ClassId) (g0 : Nat) (b0 : Nat) (gI : Nat) (gS : Nat) (gD : Nat) (un : Int32) (de : Int32) (iT : zI) (rD : zI) (today : Int32) (sz : Nat) : Met l yX0_forgetToldDeletes wsX0_forgetToldDeletes ({ frames := 0, cells := 0, slots := 0, locals := 0 }) (zPc dC dI (zTy cI cZ cH cJ) [.ref g0, .int today] sz ([(g0, .inr (0, [.ref b0, .ref gI, .ref gS, .ref gD, .int un, .int de])), (gI, .inl (cZ, 20, .inl iT)), (gD, .inl (cI, 20, .inl rD))])) (zQv dC dI ([(g0, .inr (0, [.ref b0, .ref gI, .ref gS, .ref gD, .int un, .int de])), (gI, .inl (cZ, 20, .inl (zfg iT rD de today 20))), (gD, .inl (cI, 20, .inl rD))]) (va_A ([(g0, .inr (0, [.ref b0, .ref gI, .ref gS, .ref gD, .int un, .int de])), (gI, .inl (cZ, 20, .inl iT)), (gD, .inl (cI, 20, .inl rD))]) sz)) 0 0 (va_A ([(g0, .inr (0, [.ref b0, .ref gI, .ref gS, .ref gD, .int un, .int de])), (gI, .inl (cZ, 20, .inl iT)), (gD, .inl (cI, 20, .inl rD))]) sz) := by
  refine Met.ofW (cc := cX0_forgetToldDeletes) (maxL := 4) (ret := none) (by decide) rfl ?_
  intro p e s m args below meth c s₁ B hml hv
  obtain ⟨rfl, hsz, hP, hK, hD0⟩ := hv
  have hx := B.exec
  have hb := B.bytes
  have hr := B.returns
  have hts := atoms_spec (ws := wsX0_forgetToldDeletes) B.pre
  have hown : s.vm.findClass RX0 = some m.cls := findClass_of_methodNamed B.named
  have hlocks := B.notSynchronized
  subst hsz
  have hD := hD0.self (sz := s.heap.size)
  generalize hAe : va_A ([(g0, .inr (0, [.ref b0, .ref gI, .ref gS, .ref gD, .int un, .int de])), (gI, .inl (cZ, 20, .inl iT)), (gD, .inl (cI, 20, .inl rD))]) s.heap.size = A at hD ⊢
  have hA : ∀ q : Nat, s.heap.size ≤ q → A q := fun q h => by rw [← hAe]; exact Or.inr h
  have hS : va_S A s.heap s.heap [] := va_S.rf
  have hl := lv_entry ([.ref g0, .int today]) (n := 4) (Nat.le_of_ble_eq_true rfl)
  rw [lg_entry_eq]
  generalize (lg_sl ([.ref g0, .int today]) ++ List.replicate (4 - (lg_sl ([.ref g0, .int today])).length) Slot.unset).toArray = ls at hl ⊢
  have hl : lv_has ls 4 [(0, .ref g0), (1, .int today)] := hl
  have hiX0 : ∀ w ∈ wsX00, w ∈ wsX0_forgetToldDeletes := by decide +kernel
  have l18 := hts (.fieldLink RX0 18 "CatalogueHarvester$FarCatalogue" "isTold" "[Z") (by decide +kernel)
  have l26 := hts (.fieldLink RX0 26 "CatalogueHarvester$FarCatalogue" "removalDays" "[I") (by decide +kernel)
  have l33 := hts (.fieldLink RX0 33 "CatalogueHarvester$FarCatalogue" "deletes" "I") (by decide +kernel)
  refine lv_iconst (v := 0) hx hb dX0_forgetToldDeletes_0 (by decide) ?_
  refine lv_istore_n (lv' := [(2, .int 0), (0, .ref g0), (1, .int today)]) hx hb dX0_forgetToldDeletes_1 rfl hl (by decide) rfl (fun ls hl => ?_)
  have LOOP1 : ∀ (n i : Nat), i ≤ 20 → 20 < i + n → ∀ (H : Heap) (locs : List Loc), va_P (dC, dI) vwCl ([(g0, .inr (0, [.ref b0, .ref gI, .ref gS, .ref gD, .int un, .int de])), (gI, .inl (cZ, 20, .inl (zfg iT rD de today i))), (gD, .inl (cI, 20, .inl rD))]) H → va_D A ([(g0, .inr (0, [.ref b0, .ref gI, .ref gS, .ref gD, .int un, .int de])), (gI, .inl (cZ, 20, .inl (zfg iT rD de today i))), (gD, .inl (cI, 20, .inl rD))]) → va_S A s.heap H locs → ∀ (ls : Array Slot), lv_has ls 4 [(0, .ref g0), (1, .int today), (2, .int (nI i))] → W p l e (headSpec wsX0_forgetToldDeletes ({ frames := 0, cells := 0, slots := 0, locals := 0 })).room s m ([.ref g0, .int today] : List Value).toArray below meth c H locs 0 0 (MQ below (zQv dC dI ([(g0, .inr (0, [.ref b0, .ref gI, .ref gS, .ref gD, .int un, .int de])), (gI, .inl (cZ, 20, .inl (zfg iT rD de today 20))), (gD, .inl (cI, 20, .inl rD))]) A) ([.ref g0, .int today] : List Value).toArray s 0 0 A) (F0 m 2 ls []) := by
    intro n
    induction n with
    | zero => intro i h1 h2; exact absurd h2 (by omega)
    | succ n ih =>
      intro i hi hin  H locs hP hD hS ls hl
      refine lv_iload_n hx hb dX0_forgetToldDeletes_2 rfl (lv_at hl 2 rfl) ?_
      refine lv_bipush (v := 20) hx hb dX0_forgetToldDeletes_3 (by decide) ?_
      refine lv_icmp_ge (tgt := 60) hx hb dX0_forgetToldDeletes_5 (by decide) (fun c_5 => ?_) (fun c_5 => ?_)
      · skip
        have e20 : i = 20 := z_ge (n := 20) hi (by decide) c_5
        subst e20
        exact W.vret hx hb hr (fun t ht hW => ⟨rfl, ⟨by rw [ht]; exact hP, hD⟩, hS.F ht⟩) hS.2.2 dX0_forgetToldDeletes_60
      · skip
        have hlt : i < 20 := z_lt (n := 20) hi (by decide) c_5
        have J26_2 : ∀ (ls : Array Slot), lv_has ls 4 [(0, .ref g0), (1, .int today), (2, .int (nI i))] → W p l e (headSpec wsX0_forgetToldDeletes ({ frames := 0, cells := 0, slots := 0, locals := 0 })).room s m ([.ref g0, .int today] : List Value).toArray below meth c H locs 0 0 (MQ below (zQv dC dI ([(g0, .inr (0, [.ref b0, .ref gI, .ref gS, .ref gD, .int un, .int de])), (gI, .inl (cZ, 20, .inl (zfg iT rD de today 20))), (gD, .inl (cI, 20, .inl rD))]) A) ([.ref g0, .int today] : List Value).toArray s 0 0 A) (F0 m 26 ls [.int (if today - rD i < 10 then (0 : Int32) else 1)]) := by
          intro ls hl
          refine lv_istore_n (lv' := [(3, .int (if today - rD i < 10 then (0 : Int32) else 1)), (0, .ref g0), (1, .int today), (2, .int (nI i))]) hx hb dX0_forgetToldDeletes_26 rfl hl (by decide) rfl (fun ls hl => ?_)
          refine lv_aload_n hx hb dX0_forgetToldDeletes_27 rfl (lv_at hl 1 rfl) ?_
          refine va_get (D := (dC, dI)) (ci := 0) (v := .int de) (C := RX0) (T := TX0) (N := 6) hx hb hts hiX0 hown hK hP 0 rfl rfl 5 (by decide) l33 (fun _ h9 => h9) rfl dX0_forgetToldDeletes_28 ?_
          refine lv_iconst (v := 2) hx hb dX0_forgetToldDeletes_31 (by decide) ?_
          refine lv_icmp_eq (tgt := 47) hx hb dX0_forgetToldDeletes_32 (by decide) (fun c_32 => ?_) (fun c_32 => ?_)
          · skip
            refine lv_aload_n hx hb dX0_forgetToldDeletes_47 rfl (lv_at hl 1 rfl) ?_
            refine va_get (D := (dC, dI)) (ci := 0) (v := .ref gI) (C := RX0) (T := TX0) (N := 6) hx hb hts hiX0 hown hK hP 0 rfl rfl 1 (by decide) l18 (fun _ h9 => h9) rfl dX0_forgetToldDeletes_48 ?_
            refine lv_iload_n hx hb dX0_forgetToldDeletes_51 rfl (lv_at hl 3 rfl) ?_
            refine lv_iconst (v := 0) hx hb dX0_forgetToldDeletes_52 (by decide) ?_
            refine z_zast (v := 0) hx hb hK hP hD hS 1 rfl (zix_nI (by first | assumption | omega) (by decide)) (rfl) dX0_forgetToldDeletes_53 (fun H locs hP hD hS => ?_)
            have hP : va_P (dC, dI) vwCl ([(g0, .inr (0, [.ref b0, .ref gI, .ref gS, .ref gD, .int un, .int de])), (gI, .inl (cZ, 20, .inl (upd (zfg iT rD de today i) i 0))), (gD, .inl (cI, 20, .inl rD))]) H := hP
            have hD : va_D A ([(g0, .inr (0, [.ref b0, .ref gI, .ref gS, .ref gD, .int un, .int de])), (gI, .inl (cZ, 20, .inl (upd (zfg iT rD de today i) i 0))), (gD, .inl (cI, 20, .inl rD))]) := hD
            refine lv_iinc (v := nI (i + 1)) (lv' := [(2, .int (nI (i + 1))), (3, .int (if today - rD i < 10 then (0 : Int32) else 1)), (0, .ref g0), (1, .int today)]) hx hb dX0_forgetToldDeletes_54 hl (k := 3) rfl (z_1) (by decide) rfl (fun ls hl => ?_)
            refine lv_goto (tgt := 2) hx hb dX0_forgetToldDeletes_57 (by decide) ?_
            exact ih (i + 1) (by omega) (by omega)  _ _ (zP_eq hP (zw_k (zw_a (by first | exact zfg_y (by grind) | exact zfg_n (by grind)) (zw_k (rfl))))) (zD_eq hD (zw_k (zw_a (by first | exact zfg_y (by grind) | exact zfg_n (by grind)) (zw_k (rfl))))) hS _ (lv_sub hl [2, 3, 0] rfl)
          · skip
            refine lv_aload_n hx hb dX0_forgetToldDeletes_35 rfl (lv_at hl 1 rfl) ?_
            refine va_get (D := (dC, dI)) (ci := 0) (v := .int de) (C := RX0) (T := TX0) (N := 6) hx hb hts hiX0 hown hK hP 0 rfl rfl 5 (by decide) l33 (fun _ h9 => h9) rfl dX0_forgetToldDeletes_36 ?_
            refine lv_iconst (v := 1) hx hb dX0_forgetToldDeletes_39 (by decide) ?_
            refine lv_icmp_ne (tgt := 54) hx hb dX0_forgetToldDeletes_40 (by decide) (fun c_40 => ?_) (fun c_40 => ?_)
            · skip
              refine lv_iinc (v := nI (i + 1)) (lv' := [(2, .int (nI (i + 1))), (3, .int (if today - rD i < 10 then (0 : Int32) else 1)), (0, .ref g0), (1, .int today)]) hx hb dX0_forgetToldDeletes_54 hl (k := 3) rfl (z_1) (by decide) rfl (fun ls hl => ?_)
              refine lv_goto (tgt := 2) hx hb dX0_forgetToldDeletes_57 (by decide) ?_
              exact ih (i + 1) (by omega) (by omega)  _ _ (zP_eq hP (zw_k (zw_a (by first | exact zfg_y (by grind) | exact zfg_n (by grind)) (zw_k (rfl))))) (zD_eq hD (zw_k (zw_a (by first | exact zfg_y (by grind) | exact zfg_n (by grind)) (zw_k (rfl))))) hS _ (lv_sub hl [2, 3, 0] rfl)
            · skip
              refine lv_iload_n hx hb dX0_forgetToldDeletes_43 rfl (lv_at hl 0 rfl) ?_
              refine lv_if_eq (tgt := 54) hx hb dX0_forgetToldDeletes_44 (by decide) (fun c_44 => ?_) (fun c_44 => ?_)
              · skip
                refine lv_iinc (v := nI (i + 1)) (lv' := [(2, .int (nI (i + 1))), (3, .int (if today - rD i < 10 then (0 : Int32) else 1)), (0, .ref g0), (1, .int today)]) hx hb dX0_forgetToldDeletes_54 hl (k := 3) rfl (z_1) (by decide) rfl (fun ls hl => ?_)
                refine lv_goto (tgt := 2) hx hb dX0_forgetToldDeletes_57 (by decide) ?_
                exact ih (i + 1) (by omega) (by omega)  _ _ (zP_eq hP (zw_k (zw_a (by first | exact zfg_y (by grind) | exact zfg_n (by grind)) (zw_k (rfl))))) (zD_eq hD (zw_k (zw_a (by first | exact zfg_y (by grind) | exact zfg_n (by grind)) (zw_k (rfl))))) hS _ (lv_sub hl [2, 3, 0] rfl)
              · skip
                refine lv_aload_n hx hb dX0_forgetToldDeletes_47 rfl (lv_at hl 1 rfl) ?_
                refine va_get (D := (dC, dI)) (ci := 0) (v := .ref gI) (C := RX0) (T := TX0) (N := 6) hx hb hts hiX0 hown hK hP 0 rfl rfl 1 (by decide) l18 (fun _ h9 => h9) rfl dX0_forgetToldDeletes_48 ?_
                refine lv_iload_n hx hb dX0_forgetToldDeletes_51 rfl (lv_at hl 3 rfl) ?_
                refine lv_iconst (v := 0) hx hb dX0_forgetToldDeletes_52 (by decide) ?_
                refine z_zast (v := 0) hx hb hK hP hD hS 1 rfl (zix_nI (by first | assumption | omega) (by decide)) (rfl) dX0_forgetToldDeletes_53 (fun H locs hP hD hS => ?_)
                have hP : va_P (dC, dI) vwCl ([(g0, .inr (0, [.ref b0, .ref gI, .ref gS, .ref gD, .int un, .int de])), (gI, .inl (cZ, 20, .inl (upd (zfg iT rD de today i) i 0))), (gD, .inl (cI, 20, .inl rD))]) H := hP
                have hD : va_D A ([(g0, .inr (0, [.ref b0, .ref gI, .ref gS, .ref gD, .int un, .int de])), (gI, .inl (cZ, 20, .inl (upd (zfg iT rD de today i) i 0))), (gD, .inl (cI, 20, .inl rD))]) := hD
                refine lv_iinc (v := nI (i + 1)) (lv' := [(2, .int (nI (i + 1))), (3, .int (if today - rD i < 10 then (0 : Int32) else 1)), (0, .ref g0), (1, .int today)]) hx hb dX0_forgetToldDeletes_54 hl (k := 3) rfl (z_1) (by decide) rfl (fun ls hl => ?_)
                refine lv_goto (tgt := 2) hx hb dX0_forgetToldDeletes_57 (by decide) ?_
                exact ih (i + 1) (by omega) (by omega)  _ _ (zP_eq hP (zw_k (zw_a (by first | exact zfg_y (by grind) | exact zfg_n (by grind)) (zw_k (rfl))))) (zD_eq hD (zw_k (zw_a (by first | exact zfg_y (by grind) | exact zfg_n (by grind)) (zw_k (rfl))))) hS _ (lv_sub hl [2, 3, 0] rfl)
        refine lv_iload_n hx hb dX0_forgetToldDeletes_8 rfl (lv_at hl 1 rfl) ?_
        refine lv_aload_n hx hb dX0_forgetToldDeletes_9 rfl (lv_at hl 0 rfl) ?_
        refine va_get (D := (dC, dI)) (ci := 0) (v := .ref gD) (C := RX0) (T := TX0) (N := 6) hx hb hts hiX0 hown hK hP 0 rfl rfl 3 (by decide) l26 (fun _ h9 => h9) rfl dX0_forgetToldDeletes_10 ?_
        refine lv_iload_n hx hb dX0_forgetToldDeletes_13 rfl (lv_at hl 2 rfl) ?_
        refine z_iald hx hb hK hP 2 rfl (zix_nI (by first | assumption | omega) (by decide)) dX0_forgetToldDeletes_14 ?_
        refine z_tv (v := rD i) (rfl) ?_
        refine lv_isub hx hb dX0_forgetToldDeletes_15 ?_
        refine lv_bipush (v := 10) hx hb dX0_forgetToldDeletes_16 (by decide) ?_
        refine lv_icmp_lt (tgt := 25) hx hb dX0_forgetToldDeletes_18 (by decide) (fun c_18 => ?_) (fun c_18 => ?_)
        · skip
          refine lv_iconst (v := 0) hx hb dX0_forgetToldDeletes_25 (by decide) ?_
          refine z_tv (v := if today - rD i < 10 then (0 : Int32) else 1) (by simp [c_18]) ?_
          exact J26_2 _ (lv_sub hl [0, 1, 2] rfl)
        · skip
          refine lv_iconst (v := 1) hx hb dX0_forgetToldDeletes_21 (by decide) ?_
          refine lv_goto (tgt := 26) hx hb dX0_forgetToldDeletes_22 (by decide) ?_
          refine z_tv (v := if today - rD i < 10 then (0 : Int32) else 1) (by simp [c_18]) ?_
          exact J26_2 _ (lv_sub hl [0, 1, 2] rfl)
  exact LOOP1 (20 + 1) 0 (by omega) (by omega)  _ _ (zP_eq hP (zw_k (zw_a (zfg_0) (zw_k (rfl))))) (zD_eq hD (zw_k (zw_a (zfg_0) (zw_k (rfl))))) hS _ (lv_cg (lv_sub (l' := [(0, .ref g0), (1, .int today), (2, .int 0)]) hl [1, 2, 0] rfl) (zl_k (zl_k (zl_c (rfl) (rfl)))))
set_option maxHeartbeats 4000000 in
set_option maxRecDepth 100000 in
/-- FarCatalogue.countTold -/
theorem kX0_countTold (l : Launch) (dC : Nat → ClassId) (dI : Nat → Nat → Nat) (cI cZ cH cJ : ClassId) (g0 : Nat) (b0 : Nat) (gI : Nat) (gS : Nat) (gD : Nat) (un : Int32) (de : Int32) (iT : zI) : Met l yX0_countTold wsX0_countTold ({ frames := 0, cells := 0, slots := 0, locals := 0 }) (zRc dC dI (zTy cI cZ cH cJ) [.ref g0] ([(g0, .inr (0, [.ref b0, .ref gI, .ref gS, .ref gD, .int un, .int de])), (gI, .inl (cZ, 20, .inl iT))])) (zSi (zcnt iT 20)) 0 0 (fun _ => False) := by
  refine Met.ofW (cc := cX0_countTold) (maxL := 3) (ret := (some .int)) (by decide) rfl ?_
  intro p e s m args below meth c s₁ B hml hv
  obtain ⟨rfl, hP, hK⟩ := hv
  have hx := B.exec
  have hb := B.bytes
  have hr := B.returns
  have hts := atoms_spec (ws := wsX0_countTold) B.pre
  have hown : s.vm.findClass RX0 = some m.cls := findClass_of_methodNamed B.named
  have hlocks := B.notSynchronized
  have hl := lv_entry ([.ref g0]) (n := 3) (Nat.le_of_ble_eq_true rfl)
  rw [lg_entry_eq]
  generalize (lg_sl ([.ref g0]) ++ List.replicate (3 - (lg_sl ([.ref g0])).length) Slot.unset).toArray = ls at hl ⊢
  have hl : lv_has ls 3 [(0, .ref g0)] := hl
  have hiX0 : ∀ w ∈ wsX00, w ∈ wsX0_countTold := by decide +kernel
  have l18 := hts (.fieldLink RX0 18 "CatalogueHarvester$FarCatalogue" "isTold" "[Z") (by decide +kernel)
  refine lv_iconst (v := 0) hx hb dX0_countTold_0 (by decide) ?_
  refine lv_istore_n (lv' := [(1, .int 0), (0, .ref g0)]) hx hb dX0_countTold_1 rfl hl (by decide) rfl (fun ls hl => ?_)
  refine lv_iconst (v := 0) hx hb dX0_countTold_2 (by decide) ?_
  refine lv_istore_n (lv' := [(2, .int 0), (1, .int 0), (0, .ref g0)]) hx hb dX0_countTold_3 rfl hl (by decide) rfl (fun ls hl => ?_)
  have LOOP1 : ∀ (n i : Nat), i ≤ 20 → 20 < i + n → ∀ (ls : Array Slot), lv_has ls 3 [(0, .ref g0), (1, .int (zcnt iT i)), (2, .int (nI i))] → W p l e (headSpec wsX0_countTold ({ frames := 0, cells := 0, slots := 0, locals := 0 })).room s m ([.ref g0] : List Value).toArray below meth c s.heap [] 0 0 (MQ below (zSi (zcnt iT 20)) ([.ref g0] : List Value).toArray s 0 0 (fun _ => False)) (F0 m 4 ls []) := by
    intro n
    induction n with
    | zero => intro i h1 h2; exact absurd h2 (by omega)
    | succ n ih =>
      intro i hi hin   ls hl
      refine lv_iload_n hx hb dX0_countTold_4 rfl (lv_at hl 2 rfl) ?_
      refine lv_bipush (v := 20) hx hb dX0_countTold_5 (by decide) ?_
      refine lv_icmp_ge (tgt := 28) hx hb dX0_countTold_7 (by decide) (fun c_7 => ?_) (fun c_7 => ?_)
      · skip
        have e20 : i = 20 := z_ge (n := 20) hi (by decide) c_7
        subst e20
        refine lv_iload_n hx hb dX0_countTold_28 rfl (lv_at hl 1 rfl) ?_
        exact W.iret hx hb hr (fun t ht hW => ⟨rfl, ht⟩) (fun _ h => nomatch h) dX0_countTold_29
      · skip
        have hlt : i < 20 := z_lt (n := 20) hi (by decide) c_7
        refine lv_aload_n hx hb dX0_countTold_10 rfl (lv_at hl 0 rfl) ?_
        refine va_get (D := (dC, dI)) (ci := 0) (v := .ref gI) (C := RX0) (T := TX0) (N := 6) hx hb hts hiX0 hown hK hP 0 rfl rfl 1 (by decide) l18 (fun _ h9 => h9) rfl dX0_countTold_11 ?_
        refine lv_iload_n hx hb dX0_countTold_14 rfl (lv_at hl 2 rfl) ?_
        refine z_zald hx hb hK hP 1 rfl (zix_nI (by first | assumption | omega) (by decide)) dX0_countTold_15 ?_
        refine z_tv (v := iT i) (rfl) ?_
        refine lv_if_eq (tgt := 22) hx hb dX0_countTold_16 (by decide) (fun c_16 => ?_) (fun c_16 => ?_)
        · skip
          refine lv_iinc (v := nI (i + 1)) (lv' := [(2, .int (nI (i + 1))), (0, .ref g0), (1, .int (zcnt iT i))]) hx hb dX0_countTold_22 hl (k := 2) rfl (z_1) (by decide) rfl (fun ls hl => ?_)
          refine lv_goto (tgt := 4) hx hb dX0_countTold_25 (by decide) ?_
          exact ih (i + 1) (by omega) (by omega)  _ (lv_cg (lv_sub (l' := [(0, .ref g0), (1, .int (zcnt iT i)), (2, .int (nI (i + 1)))]) hl [1, 2, 0] rfl) (zl_k (zl_c (by simp [zcnt, c_16]) (zl_k (rfl)))))
        · skip
          refine lv_iinc (v := (zcnt iT i) + 1) (lv' := [(1, .int ((zcnt iT i) + 1)), (0, .ref g0), (2, .int (nI i))]) hx hb dX0_countTold_19 hl (k := 1) rfl (rfl) (by decide) rfl (fun ls hl => ?_)
          refine lv_iinc (v := nI (i + 1)) (lv' := [(2, .int (nI (i + 1))), (1, .int ((zcnt iT i) + 1)), (0, .ref g0)]) hx hb dX0_countTold_22 hl (k := 2) rfl (z_1) (by decide) rfl (fun ls hl => ?_)
          refine lv_goto (tgt := 4) hx hb dX0_countTold_25 (by decide) ?_
          exact ih (i + 1) (by omega) (by omega)  _ (lv_cg (lv_sub (l' := [(0, .ref g0), (1, .int ((zcnt iT i) + 1)), (2, .int (nI (i + 1)))]) hl [2, 1, 0] rfl) (zl_k (zl_c (by simp [zcnt, c_16]) (zl_k (rfl)))))
  exact LOOP1 (20 + 1) 0 (by omega) (by omega)  _ (lv_cg (lv_sub (l' := [(0, .ref g0), (1, .int 0), (2, .int 0)]) hl [2, 1, 0] rfl) (zl_k (zl_c (rfl) (zl_c (rfl) (rfl)))))
set_option maxHeartbeats 4000000 in
set_option maxRecDepth 100000 in
/-- FarCatalogue.listedStamp -/
theorem kX0_listedStamp (l : Launch) (dC : Nat → ClassId) (dI : Nat → Nat → Nat) (cI cZ cH cJ : ClassId) (g0 : Nat) (b0 : Nat) (gI : Nat) (gS : Nat) (gD : Nat) (bT : Nat) (bW : Nat) (bV : Nat) (bS : Nat) (un : Int32) (de : Int32) (fT : zI) (fS : zI) (iT : zI) (tS : zI) (r : Nat) (hrr : r < 20) : Met l yX0_listedStamp wsX0_listedStamp ({ frames := 0, cells := 0, slots := 0, locals := 0 }) (zRc dC dI (zTy cI cZ cH cJ) [.ref g0, .int (nI r)] ([(g0, .inr (0, [.ref b0, .ref gI, .ref gS, .ref gD, .int un, .int de])), (b0, .inr (2, [.ref bT, .ref bW, .ref bV, .ref bS])), (bT, .inl (cZ, 20, .inl fT)), (bS, .inl (cI, 20, .inl fS)), (gI, .inl (cZ, 20, .inl iT)), (gS, .inl (cI, 20, .inl tS))])) (zSi (zls fT fS iT tS r)) 0 0 (fun _ => False) := by
  refine Met.ofW (cc := cX0_listedStamp) (maxL := 2) (ret := (some .int)) (by decide) rfl ?_
  intro p e s m args below meth c s₁ B hml hv
  obtain ⟨rfl, hP, hK⟩ := hv
  have hx := B.exec
  have hb := B.bytes
  have hr := B.returns
  have hts := atoms_spec (ws := wsX0_listedStamp) B.pre
  have hown : s.vm.findClass RX0 = some m.cls := findClass_of_methodNamed B.named
  have hlocks := B.notSynchronized
  have hl := lv_entry ([.ref g0, .int (nI r)]) (n := 2) (Nat.le_of_ble_eq_true rfl)
  rw [lg_entry_eq]
  generalize (lg_sl ([.ref g0, .int (nI r)]) ++ List.replicate (2 - (lg_sl ([.ref g0, .int (nI r)])).length) Slot.unset).toArray = ls at hl ⊢
  have hl : lv_has ls 2 [(0, .ref g0), (1, .int (nI r))] := hl
  have hiX0 : ∀ w ∈ wsX00, w ∈ wsX0_listedStamp := by decide +kernel
  have hiX2 : ∀ w ∈ wsX20, w ∈ wsX0_listedStamp := by decide +kernel
  have l12 := hts (.fieldLink RX0 12 "CatalogueHarvester$FarCatalogue" "records" "LCatalogueHarvester$Records;") (by decide +kernel)
  have l18 := hts (.fieldLink RX0 18 "CatalogueHarvester$FarCatalogue" "isTold" "[Z") (by decide +kernel)
  have l22 := hts (.fieldLink RX0 22 "CatalogueHarvester$FarCatalogue" "toldStamps" "[I") (by decide +kernel)
  have l48 := hts (.fieldLink RX0 48 "CatalogueHarvester$Records" "isThere" "[Z") (by decide +kernel)
  have l51 := hts (.fieldLink RX0 51 "CatalogueHarvester$Records" "stamps" "[I") (by decide +kernel)
  refine lv_aload_n hx hb dX0_listedStamp_0 rfl (lv_at hl 0 rfl) ?_
  refine va_get (D := (dC, dI)) (ci := 0) (v := .ref b0) (C := RX0) (T := TX0) (N := 6) hx hb hts hiX0 hown hK hP 0 rfl rfl 0 (by decide) l12 (fun _ h9 => h9) rfl dX0_listedStamp_1 ?_
  refine va_get (D := (dC, dI)) (ci := 2) (v := .ref bT) (C := RX2) (T := TX2) (N := 4) hx hb hts hiX2 hown hK hP 1 rfl rfl 0 (by decide) l48 (fun _ h9 => h9) rfl dX0_listedStamp_4 ?_
  refine lv_iload_n hx hb dX0_listedStamp_7 rfl (lv_at hl 1 rfl) ?_
  refine z_zald hx hb hK hP 2 rfl (zix_nI (by first | assumption | omega) (by decide)) dX0_listedStamp_8 ?_
  refine z_tv (v := fT r) (rfl) ?_
  refine lv_if_eq (tgt := 22) hx hb dX0_listedStamp_9 (by decide) (fun c_9 => ?_) (fun c_9 => ?_)
  · skip
    refine lv_aload_n hx hb dX0_listedStamp_22 rfl (lv_at hl 0 rfl) ?_
    refine va_get (D := (dC, dI)) (ci := 0) (v := .ref gI) (C := RX0) (T := TX0) (N := 6) hx hb hts hiX0 hown hK hP 0 rfl rfl 1 (by decide) l18 (fun _ h9 => h9) rfl dX0_listedStamp_23 ?_
    refine lv_iload_n hx hb dX0_listedStamp_26 rfl (lv_at hl 1 rfl) ?_
    refine z_zald hx hb hK hP 4 rfl (zix_nI (by first | assumption | omega) (by decide)) dX0_listedStamp_27 ?_
    refine z_tv (v := iT r) (rfl) ?_
    refine lv_if_eq (tgt := 40) hx hb dX0_listedStamp_28 (by decide) (fun c_28 => ?_) (fun c_28 => ?_)
    · skip
      refine lv_iconst (v := (-1)) hx hb dX0_listedStamp_40 (by decide) ?_
      refine z_tv (v := zls fT fS iT tS r) (by simp [zls, c_9, c_28]) ?_
      exact W.iret hx hb hr (fun t ht hW => ⟨rfl, ht⟩) (fun _ h => nomatch h) dX0_listedStamp_41
    · skip
      refine lv_aload_n hx hb dX0_listedStamp_31 rfl (lv_at hl 0 rfl) ?_
      refine va_get (D := (dC, dI)) (ci := 0) (v := .ref gS) (C := RX0) (T := TX0) (N := 6) hx hb hts hiX0 hown hK hP 0 rfl rfl 2 (by decide) l22 (fun _ h9 => h9) rfl dX0_listedStamp_32 ?_
      refine lv_iload_n hx hb dX0_listedStamp_35 rfl (lv_at hl 1 rfl) ?_
      refine z_iald hx hb hK hP 5 rfl (zix_nI (by first | assumption | omega) (by decide)) dX0_listedStamp_36 ?_
      refine z_tv (v := tS r) (rfl) ?_
      refine lv_goto (tgt := 41) hx hb dX0_listedStamp_37 (by decide) ?_
      refine z_tv (v := zls fT fS iT tS r) (by simp [zls, c_9, c_28]) ?_
      exact W.iret hx hb hr (fun t ht hW => ⟨rfl, ht⟩) (fun _ h => nomatch h) dX0_listedStamp_41
  · skip
    refine lv_aload_n hx hb dX0_listedStamp_12 rfl (lv_at hl 0 rfl) ?_
    refine va_get (D := (dC, dI)) (ci := 0) (v := .ref b0) (C := RX0) (T := TX0) (N := 6) hx hb hts hiX0 hown hK hP 0 rfl rfl 0 (by decide) l12 (fun _ h9 => h9) rfl dX0_listedStamp_13 ?_
    refine va_get (D := (dC, dI)) (ci := 2) (v := .ref bS) (C := RX2) (T := TX2) (N := 4) hx hb hts hiX2 hown hK hP 1 rfl rfl 3 (by decide) l51 (fun _ h9 => h9) rfl dX0_listedStamp_16 ?_
    refine lv_iload_n hx hb dX0_listedStamp_19 rfl (lv_at hl 1 rfl) ?_
    refine z_iald hx hb hK hP 3 rfl (zix_nI (by first | assumption | omega) (by decide)) dX0_listedStamp_20 ?_
    refine z_tv (v := fS r) (rfl) ?_
    refine z_tv (v := zls fT fS iT tS r) (by simp [zls, c_9]) ?_
    exact W.iret hx hb hr (fun t ht hW => ⟨rfl, ht⟩) (fun _ h => nomatch h) dX0_listedStamp_21
set_option maxHeartbeats 4000000 in
set_option maxRecDepth 100000 in
/-- FarCatalogue.nextListed -/
theorem kX0_nextListed (l : Launch) (dC : Nat → ClassId) (dI : Nat → Nat → Nat) (cI cZ cH cJ : ClassId) (g0 : Nat) (b0 : Nat) (gI : Nat) (gS : Nat) (gD : Nat) (bT : Nat) (bW : Nat) (bV : Nat) (bS : Nat) (un : Int32) (de : Int32) (fT : zI) (fS : zI) (iT : zI) (tS : zI) (first : Int32) (ps : Int32) (pr : Int32) : Met l yX0_nextListed wsX0_nextListed ({ frames := 1, cells := 0, slots := 0, locals := 21 }) (zRc dC dI (zTy cI cZ cH cJ) [.ref g0, .int first, .int ps, .int pr] ([(g0, .inr (0, [.ref b0, .ref gI, .ref gS, .ref gD, .int un, .int de])), (b0, .inr (2, [.ref bT, .ref bW, .ref bV, .ref bS])), (bT, .inl (cZ, 20, .inl fT)), (bS, .inl (cI, 20, .inl fS)), (gI, .inl (cZ, 20, .inl iT)), (gS, .inl (cI, 20, .inl tS))])) (zSi ((znx (zls fT fS iT tS) first ps pr 20).1)) 0 0 (fun _ => False) := by
  refine Met.ofW (cc := cX0_nextListed) (maxL := 10) (ret := (some .int)) (by decide) rfl ?_
  intro p e s m args below meth c s₁ B hml hv
  obtain ⟨rfl, hP, hK⟩ := hv
  have hx := B.exec
  have hb := B.bytes
  have hr := B.returns
  have hts := atoms_spec (ws := wsX0_nextListed) B.pre
  have hown : s.vm.findClass RX0 = some m.cls := findClass_of_methodNamed B.named
  have hlocks := B.notSynchronized
  have hl := lv_entry ([.ref g0, .int first, .int ps, .int pr]) (n := 10) (Nat.le_of_ble_eq_true rfl)
  rw [lg_entry_eq]
  generalize (lg_sl ([.ref g0, .int first, .int ps, .int pr]) ++ List.replicate (10 - (lg_sl ([.ref g0, .int first, .int ps, .int pr])).length) Slot.unset).toArray = ls at hl ⊢
  have hl : lv_has ls 10 [(0, .ref g0), (1, .int first), (2, .int ps), (3, .int pr)] := hl
  refine lv_iconst (v := (-1)) hx hb dX0_nextListed_0 (by decide) ?_
  refine lv_istore (lv' := [(4, .int (-1)), (0, .ref g0), (1, .int first), (2, .int ps), (3, .int pr)]) hx hb dX0_nextListed_1 hl (by decide) rfl (fun ls hl => ?_)
  refine lv_iconst (v := (-1)) hx hb dX0_nextListed_3 (by decide) ?_
  refine lv_istore (lv' := [(5, .int (-1)), (4, .int (-1)), (0, .ref g0), (1, .int first), (2, .int ps), (3, .int pr)]) hx hb dX0_nextListed_4 hl (by decide) rfl (fun ls hl => ?_)
  refine lv_iconst (v := 0) hx hb dX0_nextListed_6 (by decide) ?_
  refine lv_istore (lv' := [(6, .int 0), (5, .int (-1)), (4, .int (-1)), (0, .ref g0), (1, .int first), (2, .int ps), (3, .int pr)]) hx hb dX0_nextListed_7 hl (by decide) rfl (fun ls hl => ?_)
  have LOOP1 : ∀ (n i : Nat), i ≤ 20 → 20 < i + n → ∀ (ls : Array Slot), lv_has ls 10 [(0, .ref g0), (1, .int first), (2, .int ps), (3, .int pr), (4, .int ((znx (zls fT fS iT tS) first ps pr i).1)), (5, .int ((znx (zls fT fS iT tS) first ps pr i).2)), (6, .int (nI i))] → W p l e (headSpec wsX0_nextListed ({ frames := 1, cells := 0, slots := 0, locals := 21 })).room s m ([.ref g0, .int first, .int ps, .int pr] : List Value).toArray below meth c s.heap [] 0 0 (MQ below (zSi ((znx (zls fT fS iT tS) first ps pr 20).1)) ([.ref g0, .int first, .int ps, .int pr] : List Value).toArray s 0 0 (fun _ => False)) (F0 m 9 ls []) := by
    intro n
    induction n with
    | zero => intro i h1 h2; exact absurd h2 (by omega)
    | succ n ih =>
      intro i hi hin   ls hl
      refine lv_iload hx hb dX0_nextListed_9 (lv_at hl 6 rfl) ?_
      refine lv_bipush (v := 20) hx hb dX0_nextListed_11 (by decide) ?_
      refine lv_icmp_ge (tgt := 105) hx hb dX0_nextListed_13 (by decide) (fun c_13 => ?_) (fun c_13 => ?_)
      · skip
        have e20 : i = 20 := z_ge (n := 20) hi (by decide) c_13
        subst e20
        refine lv_iload hx hb dX0_nextListed_105 (lv_at hl 4 rfl) ?_
        exact W.iret hx hb hr (fun t ht hW => ⟨rfl, ht⟩) (fun _ h => nomatch h) dX0_nextListed_107
      · skip
        have hlt : i < 20 := z_lt (n := 20) hi (by decide) c_13
        refine lv_aload_n hx hb dX0_nextListed_16 rfl (lv_at hl 0 rfl) ?_
        refine lv_iload hx hb dX0_nextListed_17 (lv_at hl 6 rfl) ?_
        refine z_cRi (va_runV (As := [.int (nI i)]) (rest := []) ⟨hx, hb, hml, hown, hts⟩ (kX0_listedStamp l dC dI cI cZ cH cJ g0 b0 gI gS gD bT bW bV bS un de fT fS iT tS i (by first | assumption | omega)) (cwV 1 hts gX0_nextListed_X0_listedStamp rfl rfl rfl (by decide +kernel) ⟨Nat.le_of_ble_eq_true rfl, Nat.le_of_ble_eq_true rfl⟩) (zPreR (is := [0, 1, 2, 3, 4, 5]) hK hP rfl (va_recv hK hP (ci := 0) (q0 := 0) rfl rfl)) rfl rfl hl.1 rfl (lv_room (Nat.le_of_ble_eq_true rfl)) dX0_nextListed_19 ⟨Nat.le_of_ble_eq_true rfl, Nat.le_of_ble_eq_true rfl⟩) ?_
        refine z_tv (v := zls fT fS iT tS i) rfl ?_
        refine lv_istore (lv' := [(7, .int (zls fT fS iT tS i)), (0, .ref g0), (1, .int first), (2, .int ps), (3, .int pr), (4, .int ((znx (zls fT fS iT tS) first ps pr i).1)), (5, .int ((znx (zls fT fS iT tS) first ps pr i).2)), (6, .int (nI i))]) hx hb dX0_nextListed_22 hl (by decide) rfl (fun ls hl => ?_)
        have J47_2 : ∀ (ls : Array Slot), lv_has ls 10 [(7, .int (zls fT fS iT tS i)), (0, .ref g0), (1, .int first), (2, .int ps), (3, .int pr), (4, .int ((znx (zls fT fS iT tS) first ps pr i).1)), (5, .int ((znx (zls fT fS iT tS) first ps pr i).2)), (6, .int (nI i))] → W p l e (headSpec wsX0_nextListed ({ frames := 1, cells := 0, slots := 0, locals := 21 })).room s m ([.ref g0, .int first, .int ps, .int pr] : List Value).toArray below meth c s.heap [] 0 0 (MQ below (zSi ((znx (zls fT fS iT tS) first ps pr 20).1)) ([.ref g0, .int first, .int ps, .int pr] : List Value).toArray s 0 0 (fun _ => False)) (F0 m 47 ls [.int (if ps < zls fT fS iT tS i ∨ (zls fT fS iT tS i = ps ∧ ¬ nI i ≤ pr) then (1 : Int32) else 0)]) := by
          intro ls hl
          refine lv_istore (lv' := [(8, .int (if ps < zls fT fS iT tS i ∨ (zls fT fS iT tS i = ps ∧ ¬ nI i ≤ pr) then (1 : Int32) else 0)), (7, .int (zls fT fS iT tS i)), (0, .ref g0), (1, .int first), (2, .int ps), (3, .int pr), (4, .int ((znx (zls fT fS iT tS) first ps pr i).1)), (5, .int ((znx (zls fT fS iT tS) first ps pr i).2)), (6, .int (nI i))]) hx hb dX0_nextListed_47 hl (by decide) rfl (fun ls hl => ?_)
          have J67_3 : ∀ (ls : Array Slot), lv_has ls 10 [(8, .int (if ps < zls fT fS iT tS i ∨ (zls fT fS iT tS i = ps ∧ ¬ nI i ≤ pr) then (1 : Int32) else 0)), (7, .int (zls fT fS iT tS i)), (0, .ref g0), (1, .int first), (2, .int ps), (3, .int pr), (4, .int ((znx (zls fT fS iT tS) first ps pr i).1)), (5, .int ((znx (zls fT fS iT tS) first ps pr i).2)), (6, .int (nI i))] → W p l e (headSpec wsX0_nextListed ({ frames := 1, cells := 0, slots := 0, locals := 21 })).room s m ([.ref g0, .int first, .int ps, .int pr] : List Value).toArray below meth c s.heap [] 0 0 (MQ below (zSi ((znx (zls fT fS iT tS) first ps pr 20).1)) ([.ref g0, .int first, .int ps, .int pr] : List Value).toArray s 0 0 (fun _ => False)) (F0 m 67 ls [.int (if (znx (zls fT fS iT tS) first ps pr i).1 = -1 ∨ ¬ (znx (zls fT fS iT tS) first ps pr i).2 ≤ zls fT fS iT tS i then (1 : Int32) else 0)]) := by
            intro ls hl
            refine lv_istore (lv' := [(9, .int (if (znx (zls fT fS iT tS) first ps pr i).1 = -1 ∨ ¬ (znx (zls fT fS iT tS) first ps pr i).2 ≤ zls fT fS iT tS i then (1 : Int32) else 0)), (8, .int (if ps < zls fT fS iT tS i ∨ (zls fT fS iT tS i = ps ∧ ¬ nI i ≤ pr) then (1 : Int32) else 0)), (7, .int (zls fT fS iT tS i)), (0, .ref g0), (1, .int first), (2, .int ps), (3, .int pr), (4, .int ((znx (zls fT fS iT tS) first ps pr i).1)), (5, .int ((znx (zls fT fS iT tS) first ps pr i).2)), (6, .int (nI i))]) hx hb dX0_nextListed_67 hl (by decide) rfl (fun ls hl => ?_)
            refine lv_iload hx hb dX0_nextListed_69 (lv_at hl 2 rfl) ?_
            refine lv_iconst (v := (-1)) hx hb dX0_nextListed_71 (by decide) ?_
            refine lv_icmp_eq (tgt := 99) hx hb dX0_nextListed_72 (by decide) (fun c_72 => ?_) (fun c_72 => ?_)
            · skip
              refine lv_iinc (v := nI (i + 1)) (lv' := [(6, .int (nI (i + 1))), (9, .int (if (znx (zls fT fS iT tS) first ps pr i).1 = -1 ∨ ¬ (znx (zls fT fS iT tS) first ps pr i).2 ≤ zls fT fS iT tS i then (1 : Int32) else 0)), (8, .int (if ps < zls fT fS iT tS i ∨ (zls fT fS iT tS i = ps ∧ ¬ nI i ≤ pr) then (1 : Int32) else 0)), (7, .int (zls fT fS iT tS i)), (0, .ref g0), (1, .int first), (2, .int ps), (3, .int pr), (4, .int ((znx (zls fT fS iT tS) first ps pr i).1)), (5, .int ((znx (zls fT fS iT tS) first ps pr i).2))]) hx hb dX0_nextListed_99 hl (k := 9) rfl (z_1) (by decide) rfl (fun ls hl => ?_)
              refine lv_goto (tgt := 9) hx hb dX0_nextListed_102 (by decide) ?_
              exact ih (i + 1) (by omega) (by omega)  _ (lv_cg (lv_sub (l' := [(0, .ref g0), (1, .int first), (2, .int ps), (3, .int pr), (4, .int ((znx (zls fT fS iT tS) first ps pr i).1)), (5, .int ((znx (zls fT fS iT tS) first ps pr i).2)), (6, .int (nI (i + 1)))]) hl [4, 5, 6, 7, 8, 9, 0] rfl) (zl_k (zl_k (zl_k (zl_k (zl_c (by grind [znx]) (zl_c (by grind [znx]) (zl_k (rfl)))))))))
            · skip
              refine lv_iload hx hb dX0_nextListed_75 (lv_at hl 2 rfl) ?_
              refine lv_iload_n hx hb dX0_nextListed_77 rfl (lv_at hl 4 rfl) ?_
              refine lv_icmp_lt (tgt := 99) hx hb dX0_nextListed_78 (by decide) (fun c_78 => ?_) (fun c_78 => ?_)
              · skip
                refine lv_iinc (v := nI (i + 1)) (lv' := [(6, .int (nI (i + 1))), (9, .int (if (znx (zls fT fS iT tS) first ps pr i).1 = -1 ∨ ¬ (znx (zls fT fS iT tS) first ps pr i).2 ≤ zls fT fS iT tS i then (1 : Int32) else 0)), (8, .int (if ps < zls fT fS iT tS i ∨ (zls fT fS iT tS i = ps ∧ ¬ nI i ≤ pr) then (1 : Int32) else 0)), (7, .int (zls fT fS iT tS i)), (0, .ref g0), (1, .int first), (2, .int ps), (3, .int pr), (4, .int ((znx (zls fT fS iT tS) first ps pr i).1)), (5, .int ((znx (zls fT fS iT tS) first ps pr i).2))]) hx hb dX0_nextListed_99 hl (k := 9) rfl (z_1) (by decide) rfl (fun ls hl => ?_)
                refine lv_goto (tgt := 9) hx hb dX0_nextListed_102 (by decide) ?_
                exact ih (i + 1) (by omega) (by omega)  _ (lv_cg (lv_sub (l' := [(0, .ref g0), (1, .int first), (2, .int ps), (3, .int pr), (4, .int ((znx (zls fT fS iT tS) first ps pr i).1)), (5, .int ((znx (zls fT fS iT tS) first ps pr i).2)), (6, .int (nI (i + 1)))]) hl [4, 5, 6, 7, 8, 9, 0] rfl) (zl_k (zl_k (zl_k (zl_k (zl_c (by grind [znx]) (zl_c (by grind [znx]) (zl_k (rfl)))))))))
              · skip
                refine lv_iload hx hb dX0_nextListed_81 (lv_at hl 1 rfl) ?_
                refine lv_if_eq (tgt := 99) hx hb dX0_nextListed_83 (by decide) (fun c_83 => ?_) (fun c_83 => ?_)
                · skip
                  refine lv_iinc (v := nI (i + 1)) (lv' := [(6, .int (nI (i + 1))), (9, .int (if (znx (zls fT fS iT tS) first ps pr i).1 = -1 ∨ ¬ (znx (zls fT fS iT tS) first ps pr i).2 ≤ zls fT fS iT tS i then (1 : Int32) else 0)), (8, .int (if ps < zls fT fS iT tS i ∨ (zls fT fS iT tS i = ps ∧ ¬ nI i ≤ pr) then (1 : Int32) else 0)), (7, .int (zls fT fS iT tS i)), (0, .ref g0), (1, .int first), (2, .int ps), (3, .int pr), (4, .int ((znx (zls fT fS iT tS) first ps pr i).1)), (5, .int ((znx (zls fT fS iT tS) first ps pr i).2))]) hx hb dX0_nextListed_99 hl (k := 9) rfl (z_1) (by decide) rfl (fun ls hl => ?_)
                  refine lv_goto (tgt := 9) hx hb dX0_nextListed_102 (by decide) ?_
                  exact ih (i + 1) (by omega) (by omega)  _ (lv_cg (lv_sub (l' := [(0, .ref g0), (1, .int first), (2, .int ps), (3, .int pr), (4, .int ((znx (zls fT fS iT tS) first ps pr i).1)), (5, .int ((znx (zls fT fS iT tS) first ps pr i).2)), (6, .int (nI (i + 1)))]) hl [4, 5, 6, 7, 8, 9, 0] rfl) (zl_k (zl_k (zl_k (zl_k (zl_c (by grind [znx]) (zl_c (by grind [znx]) (zl_k (rfl)))))))))
                · skip
                  refine lv_iload hx hb dX0_nextListed_86 (lv_at hl 0 rfl) ?_
                  refine lv_if_eq (tgt := 99) hx hb dX0_nextListed_88 (by decide) (fun c_88 => ?_) (fun c_88 => ?_)
                  · skip
                    refine lv_iinc (v := nI (i + 1)) (lv' := [(6, .int (nI (i + 1))), (9, .int (if (znx (zls fT fS iT tS) first ps pr i).1 = -1 ∨ ¬ (znx (zls fT fS iT tS) first ps pr i).2 ≤ zls fT fS iT tS i then (1 : Int32) else 0)), (8, .int (if ps < zls fT fS iT tS i ∨ (zls fT fS iT tS i = ps ∧ ¬ nI i ≤ pr) then (1 : Int32) else 0)), (7, .int (zls fT fS iT tS i)), (0, .ref g0), (1, .int first), (2, .int ps), (3, .int pr), (4, .int ((znx (zls fT fS iT tS) first ps pr i).1)), (5, .int ((znx (zls fT fS iT tS) first ps pr i).2))]) hx hb dX0_nextListed_99 hl (k := 9) rfl (z_1) (by decide) rfl (fun ls hl => ?_)
                    refine lv_goto (tgt := 9) hx hb dX0_nextListed_102 (by decide) ?_
                    exact ih (i + 1) (by omega) (by omega)  _ (lv_cg (lv_sub (l' := [(0, .ref g0), (1, .int first), (2, .int ps), (3, .int pr), (4, .int ((znx (zls fT fS iT tS) first ps pr i).1)), (5, .int ((znx (zls fT fS iT tS) first ps pr i).2)), (6, .int (nI (i + 1)))]) hl [4, 5, 6, 7, 8, 9, 0] rfl) (zl_k (zl_k (zl_k (zl_k (zl_c (by grind [znx]) (zl_c (by grind [znx]) (zl_k (rfl)))))))))
                  · skip
                    refine lv_iload hx hb dX0_nextListed_91 (lv_at hl 9 rfl) ?_
                    refine lv_istore (lv' := [(4, .int (nI i)), (9, .int (if (znx (zls fT fS iT tS) first ps pr i).1 = -1 ∨ ¬ (znx (zls fT fS iT tS) first ps pr i).2 ≤ zls fT fS iT tS i then (1 : Int32) else 0)), (8, .int (if ps < zls fT fS iT tS i ∨ (zls fT fS iT tS i = ps ∧ ¬ nI i ≤ pr) then (1 : Int32) else 0)), (7, .int (zls fT fS iT tS i)), (0, .ref g0), (1, .int first), (2, .int ps), (3, .int pr), (5, .int ((znx (zls fT fS iT tS) first ps pr i).2)), (6, .int (nI i))]) hx hb dX0_nextListed_93 hl (by decide) rfl (fun ls hl => ?_)
                    refine lv_iload hx hb dX0_nextListed_95 (lv_at hl 3 rfl) ?_
                    refine lv_istore (lv' := [(5, .int (zls fT fS iT tS i)), (4, .int (nI i)), (9, .int (if (znx (zls fT fS iT tS) first ps pr i).1 = -1 ∨ ¬ (znx (zls fT fS iT tS) first ps pr i).2 ≤ zls fT fS iT tS i then (1 : Int32) else 0)), (8, .int (if ps < zls fT fS iT tS i ∨ (zls fT fS iT tS i = ps ∧ ¬ nI i ≤ pr) then (1 : Int32) else 0)), (7, .int (zls fT fS iT tS i)), (0, .ref g0), (1, .int first), (2, .int ps), (3, .int pr), (6, .int (nI i))]) hx hb dX0_nextListed_97 hl (by decide) rfl (fun ls hl => ?_)
                    refine lv_iinc (v := nI (i + 1)) (lv' := [(6, .int (nI (i + 1))), (5, .int (zls fT fS iT tS i)), (4, .int (nI i)), (9, .int (if (znx (zls fT fS iT tS) first ps pr i).1 = -1 ∨ ¬ (znx (zls fT fS iT tS) first ps pr i).2 ≤ zls fT fS iT tS i then (1 : Int32) else 0)), (8, .int (if ps < zls fT fS iT tS i ∨ (zls fT fS iT tS i = ps ∧ ¬ nI i ≤ pr) then (1 : Int32) else 0)), (7, .int (zls fT fS iT tS i)), (0, .ref g0), (1, .int first), (2, .int ps), (3, .int pr)]) hx hb dX0_nextListed_99 hl (k := 9) rfl (z_1) (by decide) rfl (fun ls hl => ?_)
                    refine lv_goto (tgt := 9) hx hb dX0_nextListed_102 (by decide) ?_
                    exact ih (i + 1) (by omega) (by omega)  _ (lv_cg (lv_sub (l' := [(0, .ref g0), (1, .int first), (2, .int ps), (3, .int pr), (4, .int (nI i)), (5, .int (zls fT fS iT tS i)), (6, .int (nI (i + 1)))]) hl [6, 7, 8, 9, 2, 1, 0] rfl) (zl_k (zl_k (zl_k (zl_k (zl_c (by grind [znx]) (zl_c (by grind [znx]) (zl_k (rfl)))))))))
          refine lv_iload hx hb dX0_nextListed_49 (lv_at hl 6 rfl) ?_
          refine lv_iconst (v := (-1)) hx hb dX0_nextListed_51 (by decide) ?_
          refine lv_icmp_eq (tgt := 62) hx hb dX0_nextListed_52 (by decide) (fun c_52 => ?_) (fun c_52 => ?_)
          · skip
            refine lv_iconst (v := 1) hx hb dX0_nextListed_62 (by decide) ?_
            refine lv_goto (tgt := 67) hx hb dX0_nextListed_63 (by decide) ?_
            refine z_tv (v := if (znx (zls fT fS iT tS) first ps pr i).1 = -1 ∨ ¬ (znx (zls fT fS iT tS) first ps pr i).2 ≤ zls fT fS iT tS i then (1 : Int32) else 0) (by grind) ?_
            exact J67_3 _ (lv_sub hl [0, 1, 2, 3, 4, 5, 6, 7, 8] rfl)
          · skip
            refine lv_iload hx hb dX0_nextListed_55 (lv_at hl 1 rfl) ?_
            refine lv_iload hx hb dX0_nextListed_57 (lv_at hl 7 rfl) ?_
            refine lv_icmp_ge (tgt := 66) hx hb dX0_nextListed_59 (by decide) (fun c_59 => ?_) (fun c_59 => ?_)
            · skip
              refine lv_iconst (v := 0) hx hb dX0_nextListed_66 (by decide) ?_
              refine z_tv (v := if (znx (zls fT fS iT tS) first ps pr i).1 = -1 ∨ ¬ (znx (zls fT fS iT tS) first ps pr i).2 ≤ zls fT fS iT tS i then (1 : Int32) else 0) (by grind) ?_
              exact J67_3 _ (lv_sub hl [0, 1, 2, 3, 4, 5, 6, 7, 8] rfl)
            · skip
              refine lv_iconst (v := 1) hx hb dX0_nextListed_62 (by decide) ?_
              refine lv_goto (tgt := 67) hx hb dX0_nextListed_63 (by decide) ?_
              refine z_tv (v := if (znx (zls fT fS iT tS) first ps pr i).1 = -1 ∨ ¬ (znx (zls fT fS iT tS) first ps pr i).2 ≤ zls fT fS iT tS i then (1 : Int32) else 0) (by grind) ?_
              exact J67_3 _ (lv_sub hl [0, 1, 2, 3, 4, 5, 6, 7, 8] rfl)
        refine lv_iload hx hb dX0_nextListed_24 (lv_at hl 0 rfl) ?_
        refine lv_iload_n hx hb dX0_nextListed_26 rfl (lv_at hl 3 rfl) ?_
        refine lv_icmp_gt (tgt := 42) hx hb dX0_nextListed_27 (by decide) (fun c_27 => ?_) (fun c_27 => ?_)
        · skip
          refine lv_iconst (v := 1) hx hb dX0_nextListed_42 (by decide) ?_
          refine lv_goto (tgt := 47) hx hb dX0_nextListed_43 (by decide) ?_
          refine z_tv (v := if ps < zls fT fS iT tS i ∨ (zls fT fS iT tS i = ps ∧ ¬ nI i ≤ pr) then (1 : Int32) else 0) (by grind) ?_
          exact J47_2 _ (lv_sub hl [0, 1, 2, 3, 4, 5, 6, 7] rfl)
        · skip
          refine lv_iload hx hb dX0_nextListed_30 (lv_at hl 0 rfl) ?_
          refine lv_iload_n hx hb dX0_nextListed_32 rfl (lv_at hl 3 rfl) ?_
          refine lv_icmp_ne (tgt := 46) hx hb dX0_nextListed_33 (by decide) (fun c_33 => ?_) (fun c_33 => ?_)
          · skip
            refine lv_iconst (v := 0) hx hb dX0_nextListed_46 (by decide) ?_
            refine z_tv (v := if ps < zls fT fS iT tS i ∨ (zls fT fS iT tS i = ps ∧ ¬ nI i ≤ pr) then (1 : Int32) else 0) (by grind) ?_
            exact J47_2 _ (lv_sub hl [0, 1, 2, 3, 4, 5, 6, 7] rfl)
          · skip
            refine lv_iload hx hb dX0_nextListed_36 (lv_at hl 7 rfl) ?_
            refine lv_iload_n hx hb dX0_nextListed_38 rfl (lv_at hl 4 rfl) ?_
            refine lv_icmp_le (tgt := 46) hx hb dX0_nextListed_39 (by decide) (fun c_39 => ?_) (fun c_39 => ?_)
            · skip
              refine lv_iconst (v := 0) hx hb dX0_nextListed_46 (by decide) ?_
              refine z_tv (v := if ps < zls fT fS iT tS i ∨ (zls fT fS iT tS i = ps ∧ ¬ nI i ≤ pr) then (1 : Int32) else 0) (by grind) ?_
              exact J47_2 _ (lv_sub hl [0, 1, 2, 3, 4, 5, 6, 7] rfl)
            · skip
              refine lv_iconst (v := 1) hx hb dX0_nextListed_42 (by decide) ?_
              refine lv_goto (tgt := 47) hx hb dX0_nextListed_43 (by decide) ?_
              refine z_tv (v := if ps < zls fT fS iT tS i ∨ (zls fT fS iT tS i = ps ∧ ¬ nI i ≤ pr) then (1 : Int32) else 0) (by grind) ?_
              exact J47_2 _ (lv_sub hl [0, 1, 2, 3, 4, 5, 6, 7] rfl)
  exact LOOP1 (20 + 1) 0 (by omega) (by omega)  _ (lv_cg (lv_sub (l' := [(0, .ref g0), (1, .int first), (2, .int ps), (3, .int pr), (4, .int (-1)), (5, .int (-1)), (6, .int 0)]) hl [3, 4, 5, 6, 2, 1, 0] rfl) (zl_k (zl_k (zl_k (zl_k (zl_c (rfl) (zl_c (rfl) (zl_c (rfl) (rfl)))))))))
end
section
set_option maxHeartbeats 4000000 in
set_option maxRecDepth 100000 in
/-- Harvest.begin -/
theorem kX1_begin (l : Launch) (dC : Nat → ClassId) (dI : Nat → Nat → Nat) (cI cZ cH cJ : ClassId) (h0 : Nat) (g0 : Nat) (o0 : Nat) (kT : Nat) (mk : Int32) (ho : Int32) (fl : Int32) (od : Int32) (td : Int32) (ps : Int32) (pr : Int32) (tk : zI) (full : Int32) (hff : full = 0 ∨ full = 1) (today : Int32) (sz : Nat) : Met l yX1_begin wsX1_begin ({ frames := 0, cells := 0, slots := 0, locals := 0 }) (zPc dC dI (zTy cI cZ cH cJ) [.ref h0, .int full, .int today] sz ([(h0, .inr (1, [.ref g0, .ref o0, .int mk, .int ho, .int fl, .int od, .int td, .int ps, .int pr, .ref kT])), (kT, .inl (cZ, 20, .inl tk))])) (zQv dC dI ([(h0, .inr (1, [.ref g0, .ref o0, .int mk, .int 1, .int full, .int today, .int today, .int (-1), .int (-1), .ref kT])), (kT, .inl (cZ, 20, .inl (zclr tk 20)))]) (va_A ([(h0, .inr (1, [.ref g0, .ref o0, .int mk, .int ho, .int fl, .int od, .int td, .int ps, .int pr, .ref kT])), (kT, .inl (cZ, 20, .inl tk))]) sz)) 0 0 (va_A ([(h0, .inr (1, [.ref g0, .ref o0, .int mk, .int ho, .int fl, .int od, .int td, .int ps, .int pr, .ref kT])), (kT, .inl (cZ, 20, .inl tk))]) sz) := by
  refine Met.ofW (cc := cX1_begin) (maxL := 4) (ret := none) (by decide) rfl ?_
  intro p e s m args below meth c s₁ B hml hv
  obtain ⟨rfl, hsz, hP, hK, hD0⟩ := hv
  have hx := B.exec
  have hb := B.bytes
  have hr := B.returns
  have hts := atoms_spec (ws := wsX1_begin) B.pre
  have hown : s.vm.findClass RX1 = some m.cls := findClass_of_methodNamed B.named
  have hlocks := B.notSynchronized
  subst hsz
  have hD := hD0.self (sz := s.heap.size)
  generalize hAe : va_A ([(h0, .inr (1, [.ref g0, .ref o0, .int mk, .int ho, .int fl, .int od, .int td, .int ps, .int pr, .ref kT])), (kT, .inl (cZ, 20, .inl tk))]) s.heap.size = A at hD ⊢
  have hA : ∀ q : Nat, s.heap.size ≤ q → A q := fun q h => by rw [← hAe]; exact Or.inr h
  have hS : va_S A s.heap s.heap [] := va_S.rf
  have hl := lv_entry ([.ref h0, .int full, .int today]) (n := 4) (Nat.le_of_ble_eq_true rfl)
  rw [lg_entry_eq]
  generalize (lg_sl ([.ref h0, .int full, .int today]) ++ List.replicate (4 - (lg_sl ([.ref h0, .int full, .int today])).length) Slot.unset).toArray = ls at hl ⊢
  have hl : lv_has ls 4 [(0, .ref h0), (1, .int full), (2, .int today)] := hl
  have hiX1 : ∀ w ∈ wsX10, w ∈ wsX1_begin := by decide +kernel
  have l29 := hts (.fieldLink RX1 29 "CatalogueHarvester$Harvest" "hasOpenList" "Z") (by decide +kernel)
  have l33 := hts (.fieldLink RX1 33 "CatalogueHarvester$Harvest" "isFullList" "Z") (by decide +kernel)
  have l36 := hts (.fieldLink RX1 36 "CatalogueHarvester$Harvest" "openingDay" "I") (by decide +kernel)
  have l39 := hts (.fieldLink RX1 39 "CatalogueHarvester$Harvest" "tokenDay" "I") (by decide +kernel)
  have l42 := hts (.fieldLink RX1 42 "CatalogueHarvester$Harvest" "placeStamp" "I") (by decide +kernel)
  have l45 := hts (.fieldLink RX1 45 "CatalogueHarvester$Harvest" "placeRecord" "I") (by decide +kernel)
  have l48 := hts (.fieldLink RX1 48 "CatalogueHarvester$Harvest" "isTakenOver" "[Z") (by decide +kernel)
  refine lv_aload_n hx hb dX1_begin_0 rfl (lv_at hl 0 rfl) ?_
  refine lv_iconst (v := 1) hx hb dX1_begin_1 (by decide) ?_
  refine va_put (D := (dC, dI)) (ci := 1) (v := .int 1) (ty := .boolean) (C := RX1) (T := TX1) (N := 10) hx hb hts hiX1 tyX1 tyX1_ok nmX1 hown hK hP hD hS 0 rfl rfl 3 (by decide) l29 (fun _ h9 => h9) rfl (by decide +kernel) (rfl) (rfl) (Nat.le_of_ble_eq_true rfl) dX1_begin_2 (fun H locs hP hD hS => ?_)
  have hP : va_P (dC, dI) vwCl ([(h0, .inr (1, [.ref g0, .ref o0, .int mk, .int 1, .int fl, .int od, .int td, .int ps, .int pr, .ref kT])), (kT, .inl (cZ, 20, .inl tk))]) H := hP
  have hD : va_D A ([(h0, .inr (1, [.ref g0, .ref o0, .int mk, .int 1, .int fl, .int od, .int td, .int ps, .int pr, .ref kT])), (kT, .inl (cZ, 20, .inl tk))]) := hD
  refine lv_aload_n hx hb dX1_begin_5 rfl (lv_at hl 0 rfl) ?_
  refine lv_iload_n hx hb dX1_begin_6 rfl (lv_at hl 1 rfl) ?_
  refine va_put (D := (dC, dI)) (ci := 1) (v := .int full) (ty := .boolean) (C := RX1) (T := TX1) (N := 10) hx hb hts hiX1 tyX1 tyX1_ok nmX1 hown hK hP hD hS 0 rfl rfl 4 (by decide) l33 (fun _ h9 => h9) rfl (by decide +kernel) (z_nf hff) (z_ff hff) (Nat.le_of_ble_eq_true rfl) dX1_begin_7 (fun H locs hP hD hS => ?_)
  have hP : va_P (dC, dI) vwCl ([(h0, .inr (1, [.ref g0, .ref o0, .int mk, .int 1, .int full, .int od, .int td, .int ps, .int pr, .ref kT])), (kT, .inl (cZ, 20, .inl tk))]) H := hP
  have hD : va_D A ([(h0, .inr (1, [.ref g0, .ref o0, .int mk, .int 1, .int full, .int od, .int td, .int ps, .int pr, .ref kT])), (kT, .inl (cZ, 20, .inl tk))]) := hD
  refine lv_aload_n hx hb dX1_begin_10 rfl (lv_at hl 0 rfl) ?_
  refine lv_iload_n hx hb dX1_begin_11 rfl (lv_at hl 2 rfl) ?_
  refine va_put (D := (dC, dI)) (ci := 1) (v := .int today) (ty := .int) (C := RX1) (T := TX1) (N := 10) hx hb hts hiX1 tyX1 tyX1_ok nmX1 hown hK hP hD hS 0 rfl rfl 5 (by decide) l36 (fun _ h9 => h9) rfl (by decide +kernel) (rfl) (rfl) (Nat.le_of_ble_eq_true rfl) dX1_begin_12 (fun H locs hP hD hS => ?_)
  have hP : va_P (dC, dI) vwCl ([(h0, .inr (1, [.ref g0, .ref o0, .int mk, .int 1, .int full, .int today, .int td, .int ps, .int pr, .ref kT])), (kT, .inl (cZ, 20, .inl tk))]) H := hP
  have hD : va_D A ([(h0, .inr (1, [.ref g0, .ref o0, .int mk, .int 1, .int full, .int today, .int td, .int ps, .int pr, .ref kT])), (kT, .inl (cZ, 20, .inl tk))]) := hD
  refine lv_aload_n hx hb dX1_begin_15 rfl (lv_at hl 0 rfl) ?_
  refine lv_iload_n hx hb dX1_begin_16 rfl (lv_at hl 2 rfl) ?_
  refine va_put (D := (dC, dI)) (ci := 1) (v := .int today) (ty := .int) (C := RX1) (T := TX1) (N := 10) hx hb hts hiX1 tyX1 tyX1_ok nmX1 hown hK hP hD hS 0 rfl rfl 6 (by decide) l39 (fun _ h9 => h9) rfl (by decide +kernel) (rfl) (rfl) (Nat.le_of_ble_eq_true rfl) dX1_begin_17 (fun H locs hP hD hS => ?_)
  have hP : va_P (dC, dI) vwCl ([(h0, .inr (1, [.ref g0, .ref o0, .int mk, .int 1, .int full, .int today, .int today, .int ps, .int pr, .ref kT])), (kT, .inl (cZ, 20, .inl tk))]) H := hP
  have hD : va_D A ([(h0, .inr (1, [.ref g0, .ref o0, .int mk, .int 1, .int full, .int today, .int today, .int ps, .int pr, .ref kT])), (kT, .inl (cZ, 20, .inl tk))]) := hD
  refine lv_aload_n hx hb dX1_begin_20 rfl (lv_at hl 0 rfl) ?_
  refine lv_iconst (v := (-1)) hx hb dX1_begin_21 (by decide) ?_
  refine va_put (D := (dC, dI)) (ci := 1) (v := .int (-1)) (ty := .int) (C := RX1) (T := TX1) (N := 10) hx hb hts hiX1 tyX1 tyX1_ok nmX1 hown hK hP hD hS 0 rfl rfl 7 (by decide) l42 (fun _ h9 => h9) rfl (by decide +kernel) (rfl) (rfl) (Nat.le_of_ble_eq_true rfl) dX1_begin_22 (fun H locs hP hD hS => ?_)
  have hP : va_P (dC, dI) vwCl ([(h0, .inr (1, [.ref g0, .ref o0, .int mk, .int 1, .int full, .int today, .int today, .int (-1), .int pr, .ref kT])), (kT, .inl (cZ, 20, .inl tk))]) H := hP
  have hD : va_D A ([(h0, .inr (1, [.ref g0, .ref o0, .int mk, .int 1, .int full, .int today, .int today, .int (-1), .int pr, .ref kT])), (kT, .inl (cZ, 20, .inl tk))]) := hD
  refine lv_aload_n hx hb dX1_begin_25 rfl (lv_at hl 0 rfl) ?_
  refine lv_iconst (v := (-1)) hx hb dX1_begin_26 (by decide) ?_
  refine va_put (D := (dC, dI)) (ci := 1) (v := .int (-1)) (ty := .int) (C := RX1) (T := TX1) (N := 10) hx hb hts hiX1 tyX1 tyX1_ok nmX1 hown hK hP hD hS 0 rfl rfl 8 (by decide) l45 (fun _ h9 => h9) rfl (by decide +kernel) (rfl) (rfl) (Nat.le_of_ble_eq_true rfl) dX1_begin_27 (fun H locs hP hD hS => ?_)
  have hP : va_P (dC, dI) vwCl ([(h0, .inr (1, [.ref g0, .ref o0, .int mk, .int 1, .int full, .int today, .int today, .int (-1), .int (-1), .ref kT])), (kT, .inl (cZ, 20, .inl tk))]) H := hP
  have hD : va_D A ([(h0, .inr (1, [.ref g0, .ref o0, .int mk, .int 1, .int full, .int today, .int today, .int (-1), .int (-1), .ref kT])), (kT, .inl (cZ, 20, .inl tk))]) := hD
  refine lv_iconst (v := 0) hx hb dX1_begin_30 (by decide) ?_
  refine lv_istore_n (lv' := [(3, .int 0), (0, .ref h0), (1, .int full), (2, .int today)]) hx hb dX1_begin_31 rfl hl (by decide) rfl (fun ls hl => ?_)
  have LOOP1 : ∀ (n i : Nat), i ≤ 20 → 20 < i + n → ∀ (H : Heap) (locs : List Loc), va_P (dC, dI) vwCl ([(h0, .inr (1, [.ref g0, .ref o0, .int mk, .int 1, .int full, .int today, .int today, .int (-1), .int (-1), .ref kT])), (kT, .inl (cZ, 20, .inl (zclr tk i)))]) H → va_D A ([(h0, .inr (1, [.ref g0, .ref o0, .int mk, .int 1, .int full, .int today, .int today, .int (-1), .int (-1), .ref kT])), (kT, .inl (cZ, 20, .inl (zclr tk i)))]) → va_S A s.heap H locs → ∀ (ls : Array Slot), lv_has ls 4 [(0, .ref h0), (1, .int full), (2, .int today), (3, .int (nI i))] → W p l e (headSpec wsX1_begin ({ frames := 0, cells := 0, slots := 0, locals := 0 })).room s m ([.ref h0, .int full, .int today] : List Value).toArray below meth c H locs 0 0 (MQ below (zQv dC dI ([(h0, .inr (1, [.ref g0, .ref o0, .int mk, .int 1, .int full, .int today, .int today, .int (-1), .int (-1), .ref kT])), (kT, .inl (cZ, 20, .inl (zclr tk 20)))]) A) ([.ref h0, .int full, .int today] : List Value).toArray s 0 0 A) (F0 m 32 ls []) := by
    intro n
    induction n with
    | zero => intro i h1 h2; exact absurd h2 (by omega)
    | succ n ih =>
      intro i hi hin  H locs hP hD hS ls hl
      refine lv_iload_n hx hb dX1_begin_32 rfl (lv_at hl 3 rfl) ?_
      refine lv_bipush (v := 20) hx hb dX1_begin_33 (by decide) ?_
      refine lv_icmp_ge (tgt := 51) hx hb dX1_begin_35 (by decide) (fun c_35 => ?_) (fun c_35 => ?_)
      · skip
        have e20 : i = 20 := z_ge (n := 20) hi (by decide) c_35
        subst e20
        exact W.vret hx hb hr (fun t ht hW => ⟨rfl, ⟨by rw [ht]; exact hP, hD⟩, hS.F ht⟩) hS.2.2 dX1_begin_51
      · skip
        have hlt : i < 20 := z_lt (n := 20) hi (by decide) c_35
        refine lv_aload_n hx hb dX1_begin_38 rfl (lv_at hl 0 rfl) ?_
        refine va_get (D := (dC, dI)) (ci := 1) (v := .ref kT) (C := RX1) (T := TX1) (N := 10) hx hb hts hiX1 hown hK hP 0 rfl rfl 9 (by decide) l48 (fun _ h9 => h9) rfl dX1_begin_39 ?_
        refine lv_iload_n hx hb dX1_begin_42 rfl (lv_at hl 3 rfl) ?_
        refine lv_iconst (v := 0) hx hb dX1_begin_43 (by decide) ?_
        refine z_zast (v := 0) hx hb hK hP hD hS 1 rfl (zix_nI (by first | assumption | omega) (by decide)) (rfl) dX1_begin_44 (fun H locs hP hD hS => ?_)
        have hP : va_P (dC, dI) vwCl ([(h0, .inr (1, [.ref g0, .ref o0, .int mk, .int 1, .int full, .int today, .int today, .int (-1), .int (-1), .ref kT])), (kT, .inl (cZ, 20, .inl (upd (zclr tk i) i 0)))]) H := hP
        have hD : va_D A ([(h0, .inr (1, [.ref g0, .ref o0, .int mk, .int 1, .int full, .int today, .int today, .int (-1), .int (-1), .ref kT])), (kT, .inl (cZ, 20, .inl (upd (zclr tk i) i 0)))]) := hD
        refine lv_iinc (v := nI (i + 1)) (lv' := [(3, .int (nI (i + 1))), (0, .ref h0), (1, .int full), (2, .int today)]) hx hb dX1_begin_45 hl (k := 3) rfl (z_1) (by decide) rfl (fun ls hl => ?_)
        refine lv_goto (tgt := 32) hx hb dX1_begin_48 (by decide) ?_
        exact ih (i + 1) (by omega) (by omega)  _ _ (zP_eq hP (zw_k (zw_a (zclr_s) (rfl)))) (zD_eq hD (zw_k (zw_a (zclr_s) (rfl)))) hS _ (lv_sub hl [1, 2, 3, 0] rfl)
  exact LOOP1 (20 + 1) 0 (by omega) (by omega)  _ _ (zP_eq hP (zw_k (zw_a (zclr_0) (rfl)))) (zD_eq hD (zw_k (zw_a (zclr_0) (rfl)))) hS _ (lv_cg (lv_sub (l' := [(0, .ref h0), (1, .int full), (2, .int today), (3, .int 0)]) hl [1, 2, 3, 0] rfl) (zl_k (zl_k (zl_k (zl_c (rfl) (rfl))))))
set_option maxHeartbeats 4000000 in
set_option maxRecDepth 100000 in
/-- Harvest.firstStamp -/
theorem kX1_firstStamp (l : Launch) (dC : Nat → ClassId) (dI : Nat → Nat → Nat) (cI cZ cH cJ : ClassId) (h0 : Nat) (g0 : Nat) (o0 : Nat) (kT : Nat) (mk : Int32) (ho : Int32) (fl : Int32) (od : Int32) (td : Int32) (ps : Int32) (pr : Int32) : Met l yX1_firstStamp wsX1_firstStamp ({ frames := 0, cells := 0, slots := 0, locals := 0 }) (zRc dC dI (zTy cI cZ cH cJ) [.ref h0] ([(h0, .inr (1, [.ref g0, .ref o0, .int mk, .int ho, .int fl, .int od, .int td, .int ps, .int pr, .ref kT]))])) (zSi (if fl = 0 then mk else 0)) 0 0 (fun _ => False) := by
  refine Met.ofW (cc := cX1_firstStamp) (maxL := 1) (ret := (some .int)) (by decide) rfl ?_
  intro p e s m args below meth c s₁ B hml hv
  obtain ⟨rfl, hP, hK⟩ := hv
  have hx := B.exec
  have hb := B.bytes
  have hr := B.returns
  have hts := atoms_spec (ws := wsX1_firstStamp) B.pre
  have hown : s.vm.findClass RX1 = some m.cls := findClass_of_methodNamed B.named
  have hlocks := B.notSynchronized
  have hl := lv_entry ([.ref h0]) (n := 1) (Nat.le_of_ble_eq_true rfl)
  rw [lg_entry_eq]
  generalize (lg_sl ([.ref h0]) ++ List.replicate (1 - (lg_sl ([.ref h0])).length) Slot.unset).toArray = ls at hl ⊢
  have hl : lv_has ls 1 [(0, .ref h0)] := hl
  have hiX1 : ∀ w ∈ wsX10, w ∈ wsX1_firstStamp := by decide +kernel
  have l25 := hts (.fieldLink RX1 25 "CatalogueHarvester$Harvest" "mark" "I") (by decide +kernel)
  have l33 := hts (.fieldLink RX1 33 "CatalogueHarvester$Harvest" "isFullList" "Z") (by decide +kernel)
  refine lv_aload_n hx hb dX1_firstStamp_0 rfl (lv_at hl 0 rfl) ?_
  refine va_get (D := (dC, dI)) (ci := 1) (v := .int fl) (C := RX1) (T := TX1) (N := 10) hx hb hts hiX1 hown hK hP 0 rfl rfl 4 (by decide) l33 (fun _ h9 => h9) rfl dX1_firstStamp_1 ?_
  refine lv_if_eq (tgt := 11) hx hb dX1_firstStamp_4 (by decide) (fun c_4 => ?_) (fun c_4 => ?_)
  · skip
    refine lv_aload_n hx hb dX1_firstStamp_11 rfl (lv_at hl 0 rfl) ?_
    refine va_get (D := (dC, dI)) (ci := 1) (v := .int mk) (C := RX1) (T := TX1) (N := 10) hx hb hts hiX1 hown hK hP 0 rfl rfl 2 (by decide) l25 (fun _ h9 => h9) rfl dX1_firstStamp_12 ?_
    refine z_tv (v := if fl = 0 then mk else 0) (by simp [c_4]) ?_
    exact W.iret hx hb hr (fun t ht hW => ⟨rfl, ht⟩) (fun _ h => nomatch h) dX1_firstStamp_15
  · skip
    refine lv_iconst (v := 0) hx hb dX1_firstStamp_7 (by decide) ?_
    refine lv_goto (tgt := 15) hx hb dX1_firstStamp_8 (by decide) ?_
    refine z_tv (v := if fl = 0 then mk else 0) (by simp [c_4]) ?_
    exact W.iret hx hb hr (fun t ht hW => ⟨rfl, ht⟩) (fun _ h => nomatch h) dX1_firstStamp_15
set_option maxHeartbeats 4000000 in
set_option maxRecDepth 100000 in
/-- Harvest.nextOfList -/
theorem kX1_nextOfList (l : Launch) (dC : Nat → ClassId) (dI : Nat → Nat → Nat) (cI cZ cH cJ : ClassId) (h0 : Nat) (g0 : Nat) (o0 : Nat) (kT : Nat) (mk : Int32) (ho : Int32) (fl : Int32) (od : Int32) (td : Int32) (ps : Int32) (pr : Int32) (b0 : Nat) (gI : Nat) (gS : Nat) (gD : Nat) (bT : Nat) (bW : Nat) (bV : Nat) (bS : Nat) (un : Int32) (de : Int32) (fT : zI) (fS : zI) (iT : zI) (tS : zI) : Met l yX1_nextOfList wsX1_nextOfList ({ frames := 2, cells := 0, slots := 0, locals := 50 }) (zRc dC dI (zTy cI cZ cH cJ) [.ref h0] ([(h0, .inr (1, [.ref g0, .ref o0, .int mk, .int ho, .int fl, .int od, .int td, .int ps, .int pr, .ref kT])), (g0, .inr (0, [.ref b0, .ref gI, .ref gS, .ref gD, .int un, .int de])), (b0, .inr (2, [.ref bT, .ref bW, .ref bV, .ref bS])), (bT, .inl (cZ, 20, .inl fT)), (bS, .inl (cI, 20, .inl fS)), (gI, .inl (cZ, 20, .inl iT)), (gS, .inl (cI, 20, .inl tS))])) (zSi ((znx (zls fT fS iT tS) (if fl = 0 then mk else 0) ps pr 20).1)) 0 0 (fun _ => False) := by
  refine Met.ofW (cc := cX1_nextOfList) (maxL := 1) (ret := (some .int)) (by decide) rfl ?_
  intro p e s m args below meth c s₁ B hml hv
  obtain ⟨rfl, hP, hK⟩ := hv
  have hx := B.exec
  have hb := B.bytes
  have hr := B.returns
  have hts := atoms_spec (ws := wsX1_nextOfList) B.pre
  have hown : s.vm.findClass RX1 = some m.cls := findClass_of_methodNamed B.named
  have hlocks := B.notSynchronized
  have hl := lv_entry ([.ref h0]) (n := 1) (Nat.le_of_ble_eq_true rfl)
  rw [lg_entry_eq]
  generalize (lg_sl ([.ref h0]) ++ List.replicate (1 - (lg_sl ([.ref h0])).length) Slot.unset).toArray = ls at hl ⊢
  have hl : lv_has ls 1 [(0, .ref h0)] := hl
  have hiX1 : ∀ w ∈ wsX10, w ∈ wsX1_nextOfList := by decide +kernel
  have l12 := hts (.fieldLink RX1 12 "CatalogueHarvester$Harvest" "far" "LCatalogueHarvester$FarCatalogue;") (by decide +kernel)
  have l42 := hts (.fieldLink RX1 42 "CatalogueHarvester$Harvest" "placeStamp" "I") (by decide +kernel)
  have l45 := hts (.fieldLink RX1 45 "CatalogueHarvester$Harvest" "placeRecord" "I") (by decide +kernel)
  refine lv_aload_n hx hb dX1_nextOfList_0 rfl (lv_at hl 0 rfl) ?_
  refine va_get (D := (dC, dI)) (ci := 1) (v := .ref g0) (C := RX1) (T := TX1) (N := 10) hx hb hts hiX1 hown hK hP 0 rfl rfl 0 (by decide) l12 (fun _ h9 => h9) rfl dX1_nextOfList_1 ?_
  refine lv_aload_n hx hb dX1_nextOfList_4 rfl (lv_at hl 0 rfl) ?_
  refine z_cRi (va_runV (As := []) (rest := [.ref g0]) ⟨hx, hb, hml, hown, hts⟩ (kX1_firstStamp l dC dI cI cZ cH cJ h0 g0 o0 kT mk ho fl od td ps pr) (cwV 0 hts gX1_nextOfList_X1_firstStamp rfl rfl rfl (by decide +kernel) ⟨Nat.le_of_ble_eq_true rfl, Nat.le_of_ble_eq_true rfl⟩) (zPreR (is := [0]) hK hP rfl (va_recv hK hP (ci := 1) (q0 := 0) rfl rfl)) rfl rfl hl.1 rfl (lv_room (Nat.le_of_ble_eq_true rfl)) dX1_nextOfList_5 ⟨Nat.le_of_ble_eq_true rfl, Nat.le_of_ble_eq_true rfl⟩) ?_
  refine z_tv (v := if fl = 0 then mk else 0) rfl ?_
  refine lv_aload_n hx hb dX1_nextOfList_8 rfl (lv_at hl 0 rfl) ?_
  refine va_get (D := (dC, dI)) (ci := 1) (v := .int ps) (C := RX1) (T := TX1) (N := 10) hx hb hts hiX1 hown hK hP 0 rfl rfl 7 (by decide) l42 (fun _ h9 => h9) rfl dX1_nextOfList_9 ?_
  refine lv_aload_n hx hb dX1_nextOfList_12 rfl (lv_at hl 0 rfl) ?_
  refine va_get (D := (dC, dI)) (ci := 1) (v := .int pr) (C := RX1) (T := TX1) (N := 10) hx hb hts hiX1 hown hK hP 0 rfl rfl 8 (by decide) l45 (fun _ h9 => h9) rfl dX1_nextOfList_13 ?_
  refine z_cRi (va_runV (As := [.int (if fl = 0 then mk else 0), .int ps, .int pr]) (rest := []) ⟨hx, hb, hml, hown, hts⟩ (kX0_nextListed l dC dI cI cZ cH cJ g0 b0 gI gS gD bT bW bV bS un de fT fS iT tS (if fl = 0 then mk else 0) ps pr) (cwV 3 hts gX1_nextOfList_X0_nextListed rfl rfl rfl (by decide +kernel) ⟨Nat.le_of_ble_eq_true rfl, Nat.le_of_ble_eq_true rfl⟩) (zPreR (is := [1, 2, 3, 4, 5, 6]) hK hP rfl (va_recv hK hP (ci := 0) (q0 := 1) rfl rfl)) rfl rfl hl.1 rfl (lv_room (Nat.le_of_ble_eq_true rfl)) dX1_nextOfList_16 ⟨Nat.le_of_ble_eq_true rfl, Nat.le_of_ble_eq_true rfl⟩) ?_
  refine z_tv (v := (znx (zls fT fS iT tS) (if fl = 0 then mk else 0) ps pr 20).1) rfl ?_
  exact W.iret hx hb hr (fun t ht hW => ⟨rfl, ht⟩) (fun _ h => nomatch h) dX1_nextOfList_19
set_option maxHeartbeats 4000000 in
set_option maxRecDepth 100000 in
/-- Harvest.takeOver -/
theorem kX1_takeOver (l : Launch) (dC : Nat → ClassId) (dI : Nat → Nat → Nat) (cI cZ cH cJ : ClassId) (h0 : Nat) (g0 : Nat) (o0 : Nat) (kT : Nat) (mk : Int32) (ho : Int32) (fl : Int32) (od : Int32) (td : Int32) (ps : Int32) (pr : Int32) (b0 : Nat) (gI : Nat) (gS : Nat) (gD : Nat) (bT : Nat) (bW : Nat) (bV : Nat) (bS : Nat) (oT : Nat) (oW : Nat) (oV : Nat) (oS : Nat) (un : Int32) (de : Int32) (fT : zI) (fW : zI) (fV : zI) (fS : zI) (iT : zI) (tS : zI) (sT : zI) (sW : zI) (sV : zI) (sS : zI) (tk : zI) (r : Nat) (hrr : r < 20) (sz : Nat) : Met l yX1_takeOver wsX1_takeOver ({ frames := 1, cells := 0, slots := 0, locals := 24 }) (zPc dC dI (zTy cI cZ cH cJ) [.ref h0, .int (nI r)] sz ([(h0, .inr (1, [.ref g0, .ref o0, .int mk, .int ho, .int fl, .int od, .int td, .int ps, .int pr, .ref kT])), (g0, .inr (0, [.ref b0, .ref gI, .ref gS, .ref gD, .int un, .int de])), (b0, .inr (2, [.ref bT, .ref bW, .ref bV, .ref bS])), (bT, .inl (cZ, 20, .inl fT)), (bW, .inl (cI, 20, .inl fW)), (bV, .inl (cI, 20, .inl fV)), (bS, .inl (cI, 20, .inl fS)), (gI, .inl (cZ, 20, .inl iT)), (gS, .inl (cI, 20, .inl tS)), (o0, .inr (2, [.ref oT, .ref oW, .ref oV, .ref oS])), (oT, .inl (cZ, 20, .inl sT)), (oW, .inl (cI, 20, .inl sW)), (oV, .inl (cI, 20, .inl sV)), (oS, .inl (cI, 20, .inl sS)), (kT, .inl (cZ, 20, .inl tk))])) (zQv dC dI ([(h0, .inr (1, [.ref g0, .ref o0, .int mk, .int ho, .int fl, .int od, .int td, .int (zls fT fS iT tS r), .int (nI r), .ref kT])), (g0, .inr (0, [.ref b0, .ref gI, .ref gS, .ref gD, .int un, .int de])), (b0, .inr (2, [.ref bT, .ref bW, .ref bV, .ref bS])), (bT, .inl (cZ, 20, .inl fT)), (bW, .inl (cI, 20, .inl fW)), (bV, .inl (cI, 20, .inl fV)), (bS, .inl (cI, 20, .inl fS)), (gI, .inl (cZ, 20, .inl iT)), (gS, .inl (cI, 20, .inl tS)), (o0, .inr (2, [.ref oT, .ref oW, .ref oV, .ref oS])), (oT, .inl (cZ, 20, .inl (upd sT r (if fT r = 0 then 0 else 1)))), (oW, .inl (cI, 20, .inl (if fT r = 0 then sW else upd sW r (fW r)))), (oV, .inl (cI, 20, .inl (if fT r = 0 then sV else upd sV r (fV r)))), (oS, .inl (cI, 20, .inl (if fT r = 0 then sS else upd sS r (fS r)))), (kT, .inl (cZ, 20, .inl (if fT r = 0 then tk else upd tk r 1)))]) (va_A ([(h0, .inr (1, [.ref g0, .ref o0, .int mk, .int ho, .int fl, .int od, .int td, .int ps, .int pr, .ref kT])), (g0, .inr (0, [.ref b0, .ref gI, .ref gS, .ref gD, .int un, .int de])), (b0, .inr (2, [.ref bT, .ref bW, .ref bV, .ref bS])), (bT, .inl (cZ, 20, .inl fT)), (bW, .inl (cI, 20, .inl fW)), (bV, .inl (cI, 20, .inl fV)), (bS, .inl (cI, 20, .inl fS)), (gI, .inl (cZ, 20, .inl iT)), (gS, .inl (cI, 20, .inl tS)), (o0, .inr (2, [.ref oT, .ref oW, .ref oV, .ref oS])), (oT, .inl (cZ, 20, .inl sT)), (oW, .inl (cI, 20, .inl sW)), (oV, .inl (cI, 20, .inl sV)), (oS, .inl (cI, 20, .inl sS)), (kT, .inl (cZ, 20, .inl tk))]) sz)) 0 0 (va_A ([(h0, .inr (1, [.ref g0, .ref o0, .int mk, .int ho, .int fl, .int od, .int td, .int ps, .int pr, .ref kT])), (g0, .inr (0, [.ref b0, .ref gI, .ref gS, .ref gD, .int un, .int de])), (b0, .inr (2, [.ref bT, .ref bW, .ref bV, .ref bS])), (bT, .inl (cZ, 20, .inl fT)), (bW, .inl (cI, 20, .inl fW)), (bV, .inl (cI, 20, .inl fV)), (bS, .inl (cI, 20, .inl fS)), (gI, .inl (cZ, 20, .inl iT)), (gS, .inl (cI, 20, .inl tS)), (o0, .inr (2, [.ref oT, .ref oW, .ref oV, .ref oS])), (oT, .inl (cZ, 20, .inl sT)), (oW, .inl (cI, 20, .inl sW)), (oV, .inl (cI, 20, .inl sV)), (oS, .inl (cI, 20, .inl sS)), (kT, .inl (cZ, 20, .inl tk))]) sz) := by
  refine Met.ofW (cc := cX1_takeOver) (maxL := 3) (ret := none) (by decide) rfl ?_
  intro p e s m args below meth c s₁ B hml hv
  obtain ⟨rfl, hsz, hP, hK, hD0⟩ := hv
  have hx := B.exec
  have hb := B.bytes
  have hr := B.returns
  have hts := atoms_spec (ws := wsX1_takeOver) B.pre
  have hown : s.vm.findClass RX1 = some m.cls := findClass_of_methodNamed B.named
  have hlocks := B.notSynchronized
  subst hsz
  have hD := hD0.self (sz := s.heap.size)
  generalize hAe : va_A ([(h0, .inr (1, [.ref g0, .ref o0, .int mk, .int ho, .int fl, .int od, .int td, .int ps, .int pr, .ref kT])), (g0, .inr (0, [.ref b0, .ref gI, .ref gS, .ref gD, .int un, .int de])), (b0, .inr (2, [.ref bT, .ref bW, .ref bV, .ref bS])), (bT, .inl (cZ, 20, .inl fT)), (bW, .inl (cI, 20, .inl fW)), (bV, .inl (cI, 20, .inl fV)), (bS, .inl (cI, 20, .inl fS)), (gI, .inl (cZ, 20, .inl iT)), (gS, .inl (cI, 20, .inl tS)), (o0, .inr (2, [.ref oT, .ref oW, .ref oV, .ref oS])), (oT, .inl (cZ, 20, .inl sT)), (oW, .inl (cI, 20, .inl sW)), (oV, .inl (cI, 20, .inl sV)), (oS, .inl (cI, 20, .inl sS)), (kT, .inl (cZ, 20, .inl tk))]) s.heap.size = A at hD ⊢
  have hA : ∀ q : Nat, s.heap.size ≤ q → A q := fun q h => by rw [← hAe]; exact Or.inr h
  have hS : va_S A s.heap s.heap [] := va_S.rf
  have hl := lv_entry ([.ref h0, .int (nI r)]) (n := 3) (Nat.le_of_ble_eq_true rfl)
  rw [lg_entry_eq]
  generalize (lg_sl ([.ref h0, .int (nI r)]) ++ List.replicate (3 - (lg_sl ([.ref h0, .int (nI r)])).length) Slot.unset).toArray = ls at hl ⊢
  have hl : lv_has ls 3 [(0, .ref h0), (1, .int (nI r))] := hl
  have hiX0 : ∀ w ∈ wsX00, w ∈ wsX1_takeOver := by decide +kernel
  have hiX1 : ∀ w ∈ wsX10, w ∈ wsX1_takeOver := by decide +kernel
  have hiX2 : ∀ w ∈ wsX20, w ∈ wsX1_takeOver := by decide +kernel
  have l12 := hts (.fieldLink RX1 12 "CatalogueHarvester$Harvest" "far" "LCatalogueHarvester$FarCatalogue;") (by decide +kernel)
  have l21 := hts (.fieldLink RX1 21 "CatalogueHarvester$Harvest" "store" "LCatalogueHarvester$Records;") (by decide +kernel)
  have l42 := hts (.fieldLink RX1 42 "CatalogueHarvester$Harvest" "placeStamp" "I") (by decide +kernel)
  have l45 := hts (.fieldLink RX1 45 "CatalogueHarvester$Harvest" "placeRecord" "I") (by decide +kernel)
  have l48 := hts (.fieldLink RX1 48 "CatalogueHarvester$Harvest" "isTakenOver" "[Z") (by decide +kernel)
  have l78 := hts (.fieldLink RX1 78 "CatalogueHarvester$FarCatalogue" "records" "LCatalogueHarvester$Records;") (by decide +kernel)
  have l81 := hts (.fieldLink RX1 81 "CatalogueHarvester$Records" "isThere" "[Z") (by decide +kernel)
  have l84 := hts (.fieldLink RX1 84 "CatalogueHarvester$Records" "works" "[I") (by decide +kernel)
  have l88 := hts (.fieldLink RX1 88 "CatalogueHarvester$Records" "values" "[I") (by decide +kernel)
  have l91 := hts (.fieldLink RX1 91 "CatalogueHarvester$Records" "stamps" "[I") (by decide +kernel)
  refine lv_aload_n hx hb dX1_takeOver_0 rfl (lv_at hl 0 rfl) ?_
  refine lv_aload_n hx hb dX1_takeOver_1 rfl (lv_at hl 0 rfl) ?_
  refine va_get (D := (dC, dI)) (ci := 1) (v := .ref g0) (C := RX1) (T := TX1) (N := 10) hx hb hts hiX1 hown hK hP 0 rfl rfl 0 (by decide) l12 (fun _ h9 => h9) rfl dX1_takeOver_2 ?_
  refine lv_iload_n hx hb dX1_takeOver_5 rfl (lv_at hl 1 rfl) ?_
  refine z_cRi (va_runV (As := [.int (nI r)]) (rest := [.ref h0]) ⟨hx, hb, hml, hown, hts⟩ (kX0_listedStamp l dC dI cI cZ cH cJ g0 b0 gI gS gD bT bW bV bS un de fT fS iT tS r (by first | assumption | omega)) (cwV 1 hts gX1_takeOver_X0_listedStamp rfl rfl rfl (by decide +kernel) ⟨Nat.le_of_ble_eq_true rfl, Nat.le_of_ble_eq_true rfl⟩) (zPreR (is := [1, 2, 3, 6, 7, 8]) hK hP rfl (va_recv hK hP (ci := 0) (q0 := 1) rfl rfl)) rfl rfl hl.1 rfl (lv_room (Nat.le_of_ble_eq_true rfl)) dX1_takeOver_6 ⟨Nat.le_of_ble_eq_true rfl, Nat.le_of_ble_eq_true rfl⟩) ?_
  refine z_tv (v := zls fT fS iT tS r) rfl ?_
  refine va_put (D := (dC, dI)) (ci := 1) (v := .int (zls fT fS iT tS r)) (ty := .int) (C := RX1) (T := TX1) (N := 10) hx hb hts hiX1 tyX1 tyX1_ok nmX1 hown hK hP hD hS 0 rfl rfl 7 (by decide) l42 (fun _ h9 => h9) rfl (by decide +kernel) (rfl) (rfl) (Nat.le_of_ble_eq_true rfl) dX1_takeOver_9 (fun H locs hP hD hS => ?_)
  have hP : va_P (dC, dI) vwCl ([(h0, .inr (1, [.ref g0, .ref o0, .int mk, .int ho, .int fl, .int od, .int td, .int (zls fT fS iT tS r), .int pr, .ref kT])), (g0, .inr (0, [.ref b0, .ref gI, .ref gS, .ref gD, .int un, .int de])), (b0, .inr (2, [.ref bT, .ref bW, .ref bV, .ref bS])), (bT, .inl (cZ, 20, .inl fT)), (bW, .inl (cI, 20, .inl fW)), (bV, .inl (cI, 20, .inl fV)), (bS, .inl (cI, 20, .inl fS)), (gI, .inl (cZ, 20, .inl iT)), (gS, .inl (cI, 20, .inl tS)), (o0, .inr (2, [.ref oT, .ref oW, .ref oV, .ref oS])), (oT, .inl (cZ, 20, .inl sT)), (oW, .inl (cI, 20, .inl sW)), (oV, .inl (cI, 20, .inl sV)), (oS, .inl (cI, 20, .inl sS)), (kT, .inl (cZ, 20, .inl tk))]) H := hP
  have hD : va_D A ([(h0, .inr (1, [.ref g0, .ref o0, .int mk, .int ho, .int fl, .int od, .int td, .int (zls fT fS iT tS r), .int pr, .ref kT])), (g0, .inr (0, [.ref b0, .ref gI, .ref gS, .ref gD, .int un, .int de])), (b0, .inr (2, [.ref bT, .ref bW, .ref bV, .ref bS])), (bT, .inl (cZ, 20, .inl fT)), (bW, .inl (cI, 20, .inl fW)), (bV, .inl (cI, 20, .inl fV)), (bS, .inl (cI, 20, .inl fS)), (gI, .inl (cZ, 20, .inl iT)), (gS, .inl (cI, 20, .inl tS)), (o0, .inr (2, [.ref oT, .ref oW, .ref oV, .ref oS])), (oT, .inl (cZ, 20, .inl sT)), (oW, .inl (cI, 20, .inl sW)), (oV, .inl (cI, 20, .inl sV)), (oS, .inl (cI, 20, .inl sS)), (kT, .inl (cZ, 20, .inl tk))]) := hD
  refine lv_aload_n hx hb dX1_takeOver_12 rfl (lv_at hl 0 rfl) ?_
  refine lv_iload_n hx hb dX1_takeOver_13 rfl (lv_at hl 1 rfl) ?_
  refine va_put (D := (dC, dI)) (ci := 1) (v := .int (nI r)) (ty := .int) (C := RX1) (T := TX1) (N := 10) hx hb hts hiX1 tyX1 tyX1_ok nmX1 hown hK hP hD hS 0 rfl rfl 8 (by decide) l45 (fun _ h9 => h9) rfl (by decide +kernel) (rfl) (rfl) (Nat.le_of_ble_eq_true rfl) dX1_takeOver_14 (fun H locs hP hD hS => ?_)
  have hP : va_P (dC, dI) vwCl ([(h0, .inr (1, [.ref g0, .ref o0, .int mk, .int ho, .int fl, .int od, .int td, .int (zls fT fS iT tS r), .int (nI r), .ref kT])), (g0, .inr (0, [.ref b0, .ref gI, .ref gS, .ref gD, .int un, .int de])), (b0, .inr (2, [.ref bT, .ref bW, .ref bV, .ref bS])), (bT, .inl (cZ, 20, .inl fT)), (bW, .inl (cI, 20, .inl fW)), (bV, .inl (cI, 20, .inl fV)), (bS, .inl (cI, 20, .inl fS)), (gI, .inl (cZ, 20, .inl iT)), (gS, .inl (cI, 20, .inl tS)), (o0, .inr (2, [.ref oT, .ref oW, .ref oV, .ref oS])), (oT, .inl (cZ, 20, .inl sT)), (oW, .inl (cI, 20, .inl sW)), (oV, .inl (cI, 20, .inl sV)), (oS, .inl (cI, 20, .inl sS)), (kT, .inl (cZ, 20, .inl tk))]) H := hP
  have hD : va_D A ([(h0, .inr (1, [.ref g0, .ref o0, .int mk, .int ho, .int fl, .int od, .int td, .int (zls fT fS iT tS r), .int (nI r), .ref kT])), (g0, .inr (0, [.ref b0, .ref gI, .ref gS, .ref gD, .int un, .int de])), (b0, .inr (2, [.ref bT, .ref bW, .ref bV, .ref bS])), (bT, .inl (cZ, 20, .inl fT)), (bW, .inl (cI, 20, .inl fW)), (bV, .inl (cI, 20, .inl fV)), (bS, .inl (cI, 20, .inl fS)), (gI, .inl (cZ, 20, .inl iT)), (gS, .inl (cI, 20, .inl tS)), (o0, .inr (2, [.ref oT, .ref oW, .ref oV, .ref oS])), (oT, .inl (cZ, 20, .inl sT)), (oW, .inl (cI, 20, .inl sW)), (oV, .inl (cI, 20, .inl sV)), (oS, .inl (cI, 20, .inl sS)), (kT, .inl (cZ, 20, .inl tk))]) := hD
  refine lv_aload_n hx hb dX1_takeOver_17 rfl (lv_at hl 0 rfl) ?_
  refine va_get (D := (dC, dI)) (ci := 1) (v := .ref g0) (C := RX1) (T := TX1) (N := 10) hx hb hts hiX1 hown hK hP 0 rfl rfl 0 (by decide) l12 (fun _ h9 => h9) rfl dX1_takeOver_18 ?_
  refine va_get (D := (dC, dI)) (ci := 0) (v := .ref b0) (C := RX0) (T := TX0) (N := 6) hx hb hts hiX0 hown hK hP 1 rfl rfl 0 (by decide) l78 (fun _ h9 => h9) rfl dX1_takeOver_21 ?_
  refine lv_astore_n (lv' := [(2, .ref b0), (0, .ref h0), (1, .int (nI r))]) hx hb dX1_takeOver_24 rfl hl (by decide) rfl (fun ls hl => ?_)
  refine lv_aload_n hx hb dX1_takeOver_25 rfl (lv_at hl 0 rfl) ?_
  refine va_get (D := (dC, dI)) (ci := 2) (v := .ref bT) (C := RX2) (T := TX2) (N := 4) hx hb hts hiX2 hown hK hP 2 rfl rfl 0 (by decide) l81 (fun _ h9 => h9) rfl dX1_takeOver_26 ?_
  refine lv_iload_n hx hb dX1_takeOver_29 rfl (lv_at hl 2 rfl) ?_
  refine z_zald hx hb hK hP 3 rfl (zix_nI (by first | assumption | omega) (by decide)) dX1_takeOver_30 ?_
  refine z_tv (v := fT r) (rfl) ?_
  refine lv_if_eq (tgt := 70) hx hb dX1_takeOver_31 (by decide) (fun c_31 => ?_) (fun c_31 => ?_)
  · skip
    refine lv_aload_n hx hb dX1_takeOver_70 rfl (lv_at hl 1 rfl) ?_
    refine va_get (D := (dC, dI)) (ci := 1) (v := .ref o0) (C := RX1) (T := TX1) (N := 10) hx hb hts hiX1 hown hK hP 0 rfl rfl 1 (by decide) l21 (fun _ h9 => h9) rfl dX1_takeOver_71 ?_
    refine lv_iload_n hx hb dX1_takeOver_74 rfl (lv_at hl 2 rfl) ?_
    refine z_cMv (is := [9, 10]) (va_runV (As := [.int (nI r)]) (rest := []) ⟨hx, hb, hml, hown, hts⟩ (kX2_drop l dC dI cI cZ cH cJ o0 oT oW oV oS sT r (by first | assumption | omega) H.size) (cwV 1 hts gX1_takeOver_X2_drop rfl rfl rfl (by decide +kernel) ⟨Nat.le_of_ble_eq_true rfl, Nat.le_of_ble_eq_true rfl⟩) (zPreV (is := [9, 10]) hK hP hD (by decide) rfl (va_recv hK hP (ci := 2) (q0 := 9) rfl rfl)) rfl rfl hl.1 rfl (lv_room (Nat.le_of_ble_eq_true rfl)) dX1_takeOver_75 ⟨Nat.le_of_ble_eq_true rfl, Nat.le_of_ble_eq_true rfl⟩) hP hD hS hA rfl (by decide) rfl (fun H locs hP hD hS => ?_)
    have hP : va_P (dC, dI) vwCl ([(h0, .inr (1, [.ref g0, .ref o0, .int mk, .int ho, .int fl, .int od, .int td, .int (zls fT fS iT tS r), .int (nI r), .ref kT])), (g0, .inr (0, [.ref b0, .ref gI, .ref gS, .ref gD, .int un, .int de])), (b0, .inr (2, [.ref bT, .ref bW, .ref bV, .ref bS])), (bT, .inl (cZ, 20, .inl fT)), (bW, .inl (cI, 20, .inl fW)), (bV, .inl (cI, 20, .inl fV)), (bS, .inl (cI, 20, .inl fS)), (gI, .inl (cZ, 20, .inl iT)), (gS, .inl (cI, 20, .inl tS)), (o0, .inr (2, [.ref oT, .ref oW, .ref oV, .ref oS])), (oT, .inl (cZ, 20, .inl (upd sT r 0))), (oW, .inl (cI, 20, .inl sW)), (oV, .inl (cI, 20, .inl sV)), (oS, .inl (cI, 20, .inl sS)), (kT, .inl (cZ, 20, .inl tk))]) H := hP
    have hD : va_D A ([(h0, .inr (1, [.ref g0, .ref o0, .int mk, .int ho, .int fl, .int od, .int td, .int (zls fT fS iT tS r), .int (nI r), .ref kT])), (g0, .inr (0, [.ref b0, .ref gI, .ref gS, .ref gD, .int un, .int de])), (b0, .inr (2, [.ref bT, .ref bW, .ref bV, .ref bS])), (bT, .inl (cZ, 20, .inl fT)), (bW, .inl (cI, 20, .inl fW)), (bV, .inl (cI, 20, .inl fV)), (bS, .inl (cI, 20, .inl fS)), (gI, .inl (cZ, 20, .inl iT)), (gS, .inl (cI, 20, .inl tS)), (o0, .inr (2, [.ref oT, .ref oW, .ref oV, .ref oS])), (oT, .inl (cZ, 20, .inl (upd sT r 0))), (oW, .inl (cI, 20, .inl sW)), (oV, .inl (cI, 20, .inl sV)), (oS, .inl (cI, 20, .inl sS)), (kT, .inl (cZ, 20, .inl tk))]) := hD
    have hP := zP_eq (ws' := [(h0, .inr (1, [.ref g0, .ref o0, .int mk, .int ho, .int fl, .int od, .int td, .int (zls fT fS iT tS r), .int (nI r), .ref kT])), (g0, .inr (0, [.ref b0, .ref gI, .ref gS, .ref gD, .int un, .int de])), (b0, .inr (2, [.ref bT, .ref bW, .ref bV, .ref bS])), (bT, .inl (cZ, 20, .inl fT)), (bW, .inl (cI, 20, .inl fW)), (bV, .inl (cI, 20, .inl fV)), (bS, .inl (cI, 20, .inl fS)), (gI, .inl (cZ, 20, .inl iT)), (gS, .inl (cI, 20, .inl tS)), (o0, .inr (2, [.ref oT, .ref oW, .ref oV, .ref oS])), (oT, .inl (cZ, 20, .inl (upd sT r (if fT r = 0 then 0 else 1)))), (oW, .inl (cI, 20, .inl (if fT r = 0 then sW else upd sW r (fW r)))), (oV, .inl (cI, 20, .inl (if fT r = 0 then sV else upd sV r (fV r)))), (oS, .inl (cI, 20, .inl (if fT r = 0 then sS else upd sS r (fS r)))), (kT, .inl (cZ, 20, .inl (if fT r = 0 then tk else upd tk r 1)))]) hP (zw_k (zw_k (zw_k (zw_k (zw_k (zw_k (zw_k (zw_k (zw_k (zw_k (zw_a (by simp [c_31]) (zw_a (by simp [c_31]) (zw_a (by simp [c_31]) (zw_a (by simp [c_31]) (zw_a (by simp [c_31]) (rfl))))))))))))))))
    have hD := zD_eq (ws' := [(h0, .inr (1, [.ref g0, .ref o0, .int mk, .int ho, .int fl, .int od, .int td, .int (zls fT fS iT tS r), .int (nI r), .ref kT])), (g0, .inr (0, [.ref b0, .ref gI, .ref gS, .ref gD, .int un, .int de])), (b0, .inr (2, [.ref bT, .ref bW, .ref bV, .ref bS])), (bT, .inl (cZ, 20, .inl fT)), (bW, .inl (cI, 20, .inl fW)), (bV, .inl (cI, 20, .inl fV)), (bS, .inl (cI, 20, .inl fS)), (gI, .inl (cZ, 20, .inl iT)), (gS, .inl (cI, 20, .inl tS)), (o0, .inr (2, [.ref oT, .ref oW, .ref oV, .ref oS])), (oT, .inl (cZ, 20, .inl (upd sT r (if fT r = 0 then 0 else 1)))), (oW, .inl (cI, 20, .inl (if fT r = 0 then sW else upd sW r (fW r)))), (oV, .inl (cI, 20, .inl (if fT r = 0 then sV else upd sV r (fV r)))), (oS, .inl (cI, 20, .inl (if fT r = 0 then sS else upd sS r (fS r)))), (kT, .inl (cZ, 20, .inl (if fT r = 0 then tk else upd tk r 1)))]) hD (zw_k (zw_k (zw_k (zw_k (zw_k (zw_k (zw_k (zw_k (zw_k (zw_k (zw_a (by simp [c_31]) (zw_a (by simp [c_31]) (zw_a (by simp [c_31]) (zw_a (by simp [c_31]) (zw_a (by simp [c_31]) (rfl))))))))))))))))
    exact W.vret hx hb hr (fun t ht hW => ⟨rfl, ⟨by rw [ht]; exact hP, hD⟩, hS.F ht⟩) hS.2.2 dX1_takeOver_78
  · skip
    refine lv_aload_n hx hb dX1_takeOver_34 rfl (lv_at hl 1 rfl) ?_
    refine va_get (D := (dC, dI)) (ci := 1) (v := .ref o0) (C := RX1) (T := TX1) (N := 10) hx hb hts hiX1 hown hK hP 0 rfl rfl 1 (by decide) l21 (fun _ h9 => h9) rfl dX1_takeOver_35 ?_
    refine lv_iload_n hx hb dX1_takeOver_38 rfl (lv_at hl 2 rfl) ?_
    refine lv_aload_n hx hb dX1_takeOver_39 rfl (lv_at hl 0 rfl) ?_
    refine va_get (D := (dC, dI)) (ci := 2) (v := .ref bW) (C := RX2) (T := TX2) (N := 4) hx hb hts hiX2 hown hK hP 2 rfl rfl 1 (by decide) l84 (fun _ h9 => h9) rfl dX1_takeOver_40 ?_
    refine lv_iload_n hx hb dX1_takeOver_43 rfl (lv_at hl 2 rfl) ?_
    refine z_iald hx hb hK hP 4 rfl (zix_nI (by first | assumption | omega) (by decide)) dX1_takeOver_44 ?_
    refine z_tv (v := fW r) (rfl) ?_
    refine lv_aload_n hx hb dX1_takeOver_45 rfl (lv_at hl 0 rfl) ?_
    refine va_get (D := (dC, dI)) (ci := 2) (v := .ref bV) (C := RX2) (T := TX2) (N := 4) hx hb hts hiX2 hown hK hP 2 rfl rfl 2 (by decide) l88 (fun _ h9 => h9) rfl dX1_takeOver_46 ?_
    refine lv_iload_n hx hb dX1_takeOver_49 rfl (lv_at hl 2 rfl) ?_
    refine z_iald hx hb hK hP 5 rfl (zix_nI (by first | assumption | omega) (by decide)) dX1_takeOver_50 ?_
    refine z_tv (v := fV r) (rfl) ?_
    refine lv_aload_n hx hb dX1_takeOver_51 rfl (lv_at hl 0 rfl) ?_
    refine va_get (D := (dC, dI)) (ci := 2) (v := .ref bS) (C := RX2) (T := TX2) (N := 4) hx hb hts hiX2 hown hK hP 2 rfl rfl 3 (by decide) l91 (fun _ h9 => h9) rfl dX1_takeOver_52 ?_
    refine lv_iload_n hx hb dX1_takeOver_55 rfl (lv_at hl 2 rfl) ?_
    refine z_iald hx hb hK hP 6 rfl (zix_nI (by first | assumption | omega) (by decide)) dX1_takeOver_56 ?_
    refine z_tv (v := fS r) (rfl) ?_
    refine z_cMv (is := [9, 10, 11, 12, 13]) (va_runV (As := [.int (nI r), .int (fW r), .int (fV r), .int (fS r)]) (rest := []) ⟨hx, hb, hml, hown, hts⟩ (kX2_keep l dC dI cI cZ cH cJ o0 oT oW oV oS sT sW sV sS r (by first | assumption | omega) (fW r) (fV r) (fS r) H.size) (cwV 4 hts gX1_takeOver_X2_keep rfl rfl rfl (by decide +kernel) ⟨Nat.le_of_ble_eq_true rfl, Nat.le_of_ble_eq_true rfl⟩) (zPreV (is := [9, 10, 11, 12, 13]) hK hP hD (by decide) rfl (va_recv hK hP (ci := 2) (q0 := 9) rfl rfl)) rfl rfl hl.1 rfl (lv_room (Nat.le_of_ble_eq_true rfl)) dX1_takeOver_57 ⟨Nat.le_of_ble_eq_true rfl, Nat.le_of_ble_eq_true rfl⟩) hP hD hS hA rfl (by decide) rfl (fun H locs hP hD hS => ?_)
    have hP : va_P (dC, dI) vwCl ([(h0, .inr (1, [.ref g0, .ref o0, .int mk, .int ho, .int fl, .int od, .int td, .int (zls fT fS iT tS r), .int (nI r), .ref kT])), (g0, .inr (0, [.ref b0, .ref gI, .ref gS, .ref gD, .int un, .int de])), (b0, .inr (2, [.ref bT, .ref bW, .ref bV, .ref bS])), (bT, .inl (cZ, 20, .inl fT)), (bW, .inl (cI, 20, .inl fW)), (bV, .inl (cI, 20, .inl fV)), (bS, .inl (cI, 20, .inl fS)), (gI, .inl (cZ, 20, .inl iT)), (gS, .inl (cI, 20, .inl tS)), (o0, .inr (2, [.ref oT, .ref oW, .ref oV, .ref oS])), (oT, .inl (cZ, 20, .inl (upd sT r 1))), (oW, .inl (cI, 20, .inl (upd sW r (fW r)))), (oV, .inl (cI, 20, .inl (upd sV r (fV r)))), (oS, .inl (cI, 20, .inl (upd sS r (fS r)))), (kT, .inl (cZ, 20, .inl tk))]) H := hP
    have hD : va_D A ([(h0, .inr (1, [.ref g0, .ref o0, .int mk, .int ho, .int fl, .int od, .int td, .int (zls fT fS iT tS r), .int (nI r), .ref kT])), (g0, .inr (0, [.ref b0, .ref gI, .ref gS, .ref gD, .int un, .int de])), (b0, .inr (2, [.ref bT, .ref bW, .ref bV, .ref bS])), (bT, .inl (cZ, 20, .inl fT)), (bW, .inl (cI, 20, .inl fW)), (bV, .inl (cI, 20, .inl fV)), (bS, .inl (cI, 20, .inl fS)), (gI, .inl (cZ, 20, .inl iT)), (gS, .inl (cI, 20, .inl tS)), (o0, .inr (2, [.ref oT, .ref oW, .ref oV, .ref oS])), (oT, .inl (cZ, 20, .inl (upd sT r 1))), (oW, .inl (cI, 20, .inl (upd sW r (fW r)))), (oV, .inl (cI, 20, .inl (upd sV r (fV r)))), (oS, .inl (cI, 20, .inl (upd sS r (fS r)))), (kT, .inl (cZ, 20, .inl tk))]) := hD
    refine lv_aload_n hx hb dX1_takeOver_60 rfl (lv_at hl 1 rfl) ?_
    refine va_get (D := (dC, dI)) (ci := 1) (v := .ref kT) (C := RX1) (T := TX1) (N := 10) hx hb hts hiX1 hown hK hP 0 rfl rfl 9 (by decide) l48 (fun _ h9 => h9) rfl dX1_takeOver_61 ?_
    refine lv_iload_n hx hb dX1_takeOver_64 rfl (lv_at hl 2 rfl) ?_
    refine lv_iconst (v := 1) hx hb dX1_takeOver_65 (by decide) ?_
    refine z_zast (v := 1) hx hb hK hP hD hS 14 rfl (zix_nI (by first | assumption | omega) (by decide)) (rfl) dX1_takeOver_66 (fun H locs hP hD hS => ?_)
    have hP : va_P (dC, dI) vwCl ([(h0, .inr (1, [.ref g0, .ref o0, .int mk, .int ho, .int fl, .int od, .int td, .int (zls fT fS iT tS r), .int (nI r), .ref kT])), (g0, .inr (0, [.ref b0, .ref gI, .ref gS, .ref gD, .int un, .int de])), (b0, .inr (2, [.ref bT, .ref bW, .ref bV, .ref bS])), (bT, .inl (cZ, 20, .inl fT)), (bW, .inl (cI, 20, .inl fW)), (bV, .inl (cI, 20, .inl fV)), (bS, .inl (cI, 20, .inl fS)), (gI, .inl (cZ, 20, .inl iT)), (gS, .inl (cI, 20, .inl tS)), (o0, .inr (2, [.ref oT, .ref oW, .ref oV, .ref oS])), (oT, .inl (cZ, 20, .inl (upd sT r 1))), (oW, .inl (cI, 20, .inl (upd sW r (fW r)))), (oV, .inl (cI, 20, .inl (upd sV r (fV r)))), (oS, .inl (cI, 20, .inl (upd sS r (fS r)))), (kT, .inl (cZ, 20, .inl (upd tk r 1)))]) H := hP
    have hD : va_D A ([(h0, .inr (1, [.ref g0, .ref o0, .int mk, .int ho, .int fl, .int od, .int td, .int (zls fT fS iT tS r), .int (nI r), .ref kT])), (g0, .inr (0, [.ref b0, .ref gI, .ref gS, .ref gD, .int un, .int de])), (b0, .inr (2, [.ref bT, .ref bW, .ref bV, .ref bS])), (bT, .inl (cZ, 20, .inl fT)), (bW, .inl (cI, 20, .inl fW)), (bV, .inl (cI, 20, .inl fV)), (bS, .inl (cI, 20, .inl fS)), (gI, .inl (cZ, 20, .inl iT)), (gS, .inl (cI, 20, .inl tS)), (o0, .inr (2, [.ref oT, .ref oW, .ref oV, .ref oS])), (oT, .inl (cZ, 20, .inl (upd sT r 1))), (oW, .inl (cI, 20, .inl (upd sW r (fW r)))), (oV, .inl (cI, 20, .inl (upd sV r (fV r)))), (oS, .inl (cI, 20, .inl (upd sS r (fS r)))), (kT, .inl (cZ, 20, .inl (upd tk r 1)))]) := hD
    refine lv_goto (tgt := 78) hx hb dX1_takeOver_67 (by decide) ?_
    have hP := zP_eq (ws' := [(h0, .inr (1, [.ref g0, .ref o0, .int mk, .int ho, .int fl, .int od, .int td, .int (zls fT fS iT tS r), .int (nI r), .ref kT])), (g0, .inr (0, [.ref b0, .ref gI, .ref gS, .ref gD, .int un, .int de])), (b0, .inr (2, [.ref bT, .ref bW, .ref bV, .ref bS])), (bT, .inl (cZ, 20, .inl fT)), (bW, .inl (cI, 20, .inl fW)), (bV, .inl (cI, 20, .inl fV)), (bS, .inl (cI, 20, .inl fS)), (gI, .inl (cZ, 20, .inl iT)), (gS, .inl (cI, 20, .inl tS)), (o0, .inr (2, [.ref oT, .ref oW, .ref oV, .ref oS])), (oT, .inl (cZ, 20, .inl (upd sT r (if fT r = 0 then 0 else 1)))), (oW, .inl (cI, 20, .inl (if fT r = 0 then sW else upd sW r (fW r)))), (oV, .inl (cI, 20, .inl (if fT r = 0 then sV else upd sV r (fV r)))), (oS, .inl (cI, 20, .inl (if fT r = 0 then sS else upd sS r (fS r)))), (kT, .inl (cZ, 20, .inl (if fT r = 0 then tk else upd tk r 1)))]) hP (zw_k (zw_k (zw_k (zw_k (zw_k (zw_k (zw_k (zw_k (zw_k (zw_k (zw_a (by simp [c_31]) (zw_a (by simp [c_31]) (zw_a (by simp [c_31]) (zw_a (by simp [c_31]) (zw_a (by simp [c_31]) (rfl))))))))))))))))
    have hD := zD_eq (ws' := [(h0, .inr (1, [.ref g0, .ref o0, .int mk, .int ho, .int fl, .int od, .int td, .int (zls fT fS iT tS r), .int (nI r), .ref kT])), (g0, .inr (0, [.ref b0, .ref gI, .ref gS, .ref gD, .int un, .int de])), (b0, .inr (2, [.ref bT, .ref bW, .ref bV, .ref bS])), (bT, .inl (cZ, 20, .inl fT)), (bW, .inl (cI, 20, .inl fW)), (bV, .inl (cI, 20, .inl fV)), (bS, .inl (cI, 20, .inl fS)), (gI, .inl (cZ, 20, .inl iT)), (gS, .inl (cI, 20, .inl tS)), (o0, .inr (2, [.ref oT, .ref oW, .ref oV, .ref oS])), (oT, .inl (cZ, 20, .inl (upd sT r (if fT r = 0 then 0 else 1)))), (oW, .inl (cI, 20, .inl (if fT r = 0 then sW else upd sW r (fW r)))), (oV, .inl (cI, 20, .inl (if fT r = 0 then sV else upd sV r (fV r)))), (oS, .inl (cI, 20, .inl (if fT r = 0 then sS else upd sS r (fS r)))), (kT, .inl (cZ, 20, .inl (if fT r = 0 then tk else upd tk r 1)))]) hD (zw_k (zw_k (zw_k (zw_k (zw_k (zw_k (zw_k (zw_k (zw_k (zw_k (zw_a (by simp [c_31]) (zw_a (by simp [c_31]) (zw_a (by simp [c_31]) (zw_a (by simp [c_31]) (zw_a (by simp [c_31]) (rfl))))))))))))))))
    exact W.vret hx hb hr (fun t ht hW => ⟨rfl, ⟨by rw [ht]; exact hP, hD⟩, hS.F ht⟩) hS.2.2 dX1_takeOver_78
set_option maxHeartbeats 4000000 in
set_option maxRecDepth 100000 in
/-- Harvest.dropWhatIsGone -/
theorem kX1_dropWhatIsGone (l : Launch) (dC : Nat → ClassId) (dI : Nat → Nat → Nat) (cI cZ cH cJ : ClassId) (h0 : Nat) (g0 : Nat) (o0 : Nat) (kT : Nat) (mk : Int32) (ho : Int32) (fl : Int32) (od : Int32) (td : Int32) (ps : Int32) (pr : Int32) (oT : Nat) (oW : Nat) (oV : Nat) (oS : Nat) (sT : zI) (tk : zI) (sz : Nat) : Met l yX1_dropWhatIsGone wsX1_dropWhatIsGone ({ frames := 1, cells := 0, slots := 0, locals := 21 }) (zPc dC dI (zTy cI cZ cH cJ) [.ref h0] sz ([(h0, .inr (1, [.ref g0, .ref o0, .int mk, .int ho, .int fl, .int od, .int td, .int ps, .int pr, .ref kT])), (o0, .inr (2, [.ref oT, .ref oW, .ref oV, .ref oS])), (oT, .inl (cZ, 20, .inl sT)), (kT, .inl (cZ, 20, .inl tk))])) (zQv dC dI ([(h0, .inr (1, [.ref g0, .ref o0, .int mk, .int ho, .int fl, .int od, .int td, .int ps, .int pr, .ref kT])), (o0, .inr (2, [.ref oT, .ref oW, .ref oV, .ref oS])), (oT, .inl (cZ, 20, .inl (zdrp sT tk 20))), (kT, .inl (cZ, 20, .inl tk))]) (va_A ([(h0, .inr (1, [.ref g0, .ref o0, .int mk, .int ho, .int fl, .int od, .int td, .int ps, .int pr, .ref kT])), (o0, .inr (2, [.ref oT, .ref oW, .ref oV, .ref oS])), (oT, .inl (cZ, 20, .inl sT)), (kT, .inl (cZ, 20, .inl tk))]) sz)) 0 0 (va_A ([(h0, .inr (1, [.ref g0, .ref o0, .int mk, .int ho, .int fl, .int od, .int td, .int ps, .int pr, .ref kT])), (o0, .inr (2, [.ref oT, .ref oW, .ref oV, .ref oS])), (oT, .inl (cZ, 20, .inl sT)), (kT, .inl (cZ, 20, .inl tk))]) sz) := by
  refine Met.ofW (cc := cX1_dropWhatIsGone) (maxL := 2) (ret := none) (by decide) rfl ?_
  intro p e s m args below meth c s₁ B hml hv
  obtain ⟨rfl, hsz, hP, hK, hD0⟩ := hv
  have hx := B.exec
  have hb := B.bytes
  have hr := B.returns
  have hts := atoms_spec (ws := wsX1_dropWhatIsGone) B.pre
  have hown : s.vm.findClass RX1 = some m.cls := findClass_of_methodNamed B.named
  have hlocks := B.notSynchronized
  subst hsz
  have hD := hD0.self (sz := s.heap.size)
  generalize hAe : va_A ([(h0, .inr (1, [.ref g0, .ref o0, .int mk, .int ho, .int fl, .int od, .int td, .int ps, .int pr, .ref kT])), (o0, .inr (2, [.ref oT, .ref oW, .ref oV, .ref oS])), (oT, .inl (cZ, 20, .inl sT)), (kT, .inl (cZ, 20, .inl tk))]) s.heap.size = A at hD ⊢
  have hA : ∀ q : Nat, s.heap.size ≤ q → A q := fun q h => by rw [← hAe]; exact Or.inr h
  have hS : va_S A s.heap s.heap [] := va_S.rf
  have hl := lv_entry ([.ref h0]) (n := 2) (Nat.le_of_ble_eq_true rfl)
  rw [lg_entry_eq]
  generalize (lg_sl ([.ref h0]) ++ List.replicate (2 - (lg_sl ([.ref h0])).length) Slot.unset).toArray = ls at hl ⊢
  have hl : lv_has ls 2 [(0, .ref h0)] := hl
  have hiX1 : ∀ w ∈ wsX10, w ∈ wsX1_dropWhatIsGone := by decide +kernel
  have l21 := hts (.fieldLink RX1 21 "CatalogueHarvester$Harvest" "store" "LCatalogueHarvester$Records;") (by decide +kernel)
  have l48 := hts (.fieldLink RX1 48 "CatalogueHarvester$Harvest" "isTakenOver" "[Z") (by decide +kernel)
  refine lv_iconst (v := 0) hx hb dX1_dropWhatIsGone_0 (by decide) ?_
  refine lv_istore_n (lv' := [(1, .int 0), (0, .ref h0)]) hx hb dX1_dropWhatIsGone_1 rfl hl (by decide) rfl (fun ls hl => ?_)
  have LOOP1 : ∀ (n i : Nat), i ≤ 20 → 20 < i + n → ∀ (H : Heap) (locs : List Loc), va_P (dC, dI) vwCl ([(h0, .inr (1, [.ref g0, .ref o0, .int mk, .int ho, .int fl, .int od, .int td, .int ps, .int pr, .ref kT])), (o0, .inr (2, [.ref oT, .ref oW, .ref oV, .ref oS])), (oT, .inl (cZ, 20, .inl (zdrp sT tk i))), (kT, .inl (cZ, 20, .inl tk))]) H → va_D A ([(h0, .inr (1, [.ref g0, .ref o0, .int mk, .int ho, .int fl, .int od, .int td, .int ps, .int pr, .ref kT])), (o0, .inr (2, [.ref oT, .ref oW, .ref oV, .ref oS])), (oT, .inl (cZ, 20, .inl (zdrp sT tk i))), (kT, .inl (cZ, 20, .inl tk))]) → va_S A s.heap H locs → ∀ (ls : Array Slot), lv_has ls 2 [(0, .ref h0), (1, .int (nI i))] → W p l e (headSpec wsX1_dropWhatIsGone ({ frames := 1, cells := 0, slots := 0, locals := 21 })).room s m ([.ref h0] : List Value).toArray below meth c H locs 0 0 (MQ below (zQv dC dI ([(h0, .inr (1, [.ref g0, .ref o0, .int mk, .int ho, .int fl, .int od, .int td, .int ps, .int pr, .ref kT])), (o0, .inr (2, [.ref oT, .ref oW, .ref oV, .ref oS])), (oT, .inl (cZ, 20, .inl (zdrp sT tk 20))), (kT, .inl (cZ, 20, .inl tk))]) A) ([.ref h0] : List Value).toArray s 0 0 A) (F0 m 2 ls []) := by
    intro n
    induction n with
    | zero => intro i h1 h2; exact absurd h2 (by omega)
    | succ n ih =>
      intro i hi hin  H locs hP hD hS ls hl
      refine lv_iload_n hx hb dX1_dropWhatIsGone_2 rfl (lv_at hl 1 rfl) ?_
      refine lv_bipush (v := 20) hx hb dX1_dropWhatIsGone_3 (by decide) ?_
      refine lv_icmp_ge (tgt := 31) hx hb dX1_dropWhatIsGone_5 (by decide) (fun c_5 => ?_) (fun c_5 => ?_)
      · skip
        have e20 : i = 20 := z_ge (n := 20) hi (by decide) c_5
        subst e20
        exact W.vret hx hb hr (fun t ht hW => ⟨rfl, ⟨by rw [ht]; exact hP, hD⟩, hS.F ht⟩) hS.2.2 dX1_dropWhatIsGone_31
      · skip
        have hlt : i < 20 := z_lt (n := 20) hi (by decide) c_5
        refine lv_aload_n hx hb dX1_dropWhatIsGone_8 rfl (lv_at hl 0 rfl) ?_
        refine va_get (D := (dC, dI)) (ci := 1) (v := .ref kT) (C := RX1) (T := TX1) (N := 10) hx hb hts hiX1 hown hK hP 0 rfl rfl 9 (by decide) l48 (fun _ h9 => h9) rfl dX1_dropWhatIsGone_9 ?_
        refine lv_iload_n hx hb dX1_dropWhatIsGone_12 rfl (lv_at hl 1 rfl) ?_
        refine z_zald hx hb hK hP 3 rfl (zix_nI (by first | assumption | omega) (by decide)) dX1_dropWhatIsGone_13 ?_
        refine z_tv (v := tk i) (rfl) ?_
        refine lv_if_ne (tgt := 25) hx hb dX1_dropWhatIsGone_14 (by decide) (fun c_14 => ?_) (fun c_14 => ?_)
        · skip
          refine lv_iinc (v := nI (i + 1)) (lv' := [(1, .int (nI (i + 1))), (0, .ref h0)]) hx hb dX1_dropWhatIsGone_25 hl (k := 1) rfl (z_1) (by decide) rfl (fun ls hl => ?_)
          refine lv_goto (tgt := 2) hx hb dX1_dropWhatIsGone_28 (by decide) ?_
          exact ih (i + 1) (by omega) (by omega)  _ _ (zP_eq hP (zw_k (zw_k (zw_a (by first | exact zdrp_n c_14 | exact zdrp_y (by grind)) (zw_k (rfl)))))) (zD_eq hD (zw_k (zw_k (zw_a (by first | exact zdrp_n c_14 | exact zdrp_y (by grind)) (zw_k (rfl)))))) hS _ (lv_sub hl [1, 0] rfl)
        · skip
          refine lv_aload_n hx hb dX1_dropWhatIsGone_17 rfl (lv_at hl 0 rfl) ?_
          refine va_get (D := (dC, dI)) (ci := 1) (v := .ref o0) (C := RX1) (T := TX1) (N := 10) hx hb hts hiX1 hown hK hP 0 rfl rfl 1 (by decide) l21 (fun _ h9 => h9) rfl dX1_dropWhatIsGone_18 ?_
          refine lv_iload_n hx hb dX1_dropWhatIsGone_21 rfl (lv_at hl 1 rfl) ?_
          refine z_cMv (is := [1, 2]) (va_runV (As := [.int (nI i)]) (rest := []) ⟨hx, hb, hml, hown, hts⟩ (kX2_drop l dC dI cI cZ cH cJ o0 oT oW oV oS (zdrp sT tk i) i (by first | assumption | omega) H.size) (cwV 1 hts gX1_dropWhatIsGone_X2_drop rfl rfl rfl (by decide +kernel) ⟨Nat.le_of_ble_eq_true rfl, Nat.le_of_ble_eq_true rfl⟩) (zPreV (is := [1, 2]) hK hP hD (by decide) rfl (va_recv hK hP (ci := 2) (q0 := 1) rfl rfl)) rfl rfl hl.1 rfl (lv_room (Nat.le_of_ble_eq_true rfl)) dX1_dropWhatIsGone_22 ⟨Nat.le_of_ble_eq_true rfl, Nat.le_of_ble_eq_true rfl⟩) hP hD hS hA rfl (by decide) rfl (fun H locs hP hD hS => ?_)
          have hP : va_P (dC, dI) vwCl ([(h0, .inr (1, [.ref g0, .ref o0, .int mk, .int ho, .int fl, .int od, .int td, .int ps, .int pr, .ref kT])), (o0, .inr (2, [.ref oT, .ref oW, .ref oV, .ref oS])), (oT, .inl (cZ, 20, .inl (upd (zdrp sT tk i) i 0))), (kT, .inl (cZ, 20, .inl tk))]) H := hP
          have hD : va_D A ([(h0, .inr (1, [.ref g0, .ref o0, .int mk, .int ho, .int fl, .int od, .int td, .int ps, .int pr, .ref kT])), (o0, .inr (2, [.ref oT, .ref oW, .ref oV, .ref oS])), (oT, .inl (cZ, 20, .inl (upd (zdrp sT tk i) i 0))), (kT, .inl (cZ, 20, .inl tk))]) := hD
          refine lv_iinc (v := nI (i + 1)) (lv' := [(1, .int (nI (i + 1))), (0, .ref h0)]) hx hb dX1_dropWhatIsGone_25 hl (k := 1) rfl (z_1) (by decide) rfl (fun ls hl => ?_)
          refine lv_goto (tgt := 2) hx hb dX1_dropWhatIsGone_28 (by decide) ?_
          exact ih (i + 1) (by omega) (by omega)  _ _ (zP_eq hP (zw_k (zw_k (zw_a (by first | exact zdrp_n c_14 | exact zdrp_y (by grind)) (zw_k (rfl)))))) (zD_eq hD (zw_k (zw_k (zw_a (by first | exact zdrp_n c_14 | exact zdrp_y (by grind)) (zw_k (rfl)))))) hS _ (lv_sub hl [1, 0] rfl)
  exact LOOP1 (20 + 1) 0 (by omega) (by omega)  _ _ (zP_eq hP (zw_k (zw_k (zw_a (zdrp_0) (zw_k (rfl)))))) (zD_eq hD (zw_k (zw_k (zw_a (zdrp_0) (zw_k (rfl)))))) hS _ (lv_cg (lv_sub (l' := [(0, .ref h0), (1, .int 0)]) hl [1, 0] rfl) (zl_k (zl_c (rfl) (rfl))))
set_option maxHeartbeats 4000000 in
set_option maxRecDepth 100000 in
/-- Harvest.finish -/
theorem kX1_finish (l : Launch) (dC : Nat → ClassId) (dI : Nat → Nat → Nat) (cI cZ cH cJ : ClassId) (h0 : Nat) (g0 : Nat) (o0 : Nat) (kT : Nat) (mk : Int32) (ho : Int32) (fl : Int32) (od : Int32) (td : Int32) (ps : Int32) (pr : Int32) (b0 : Nat) (gI : Nat) (gS : Nat) (gD : Nat) (oT : Nat) (oW : Nat) (oV : Nat) (oS : Nat) (un : Int32) (de : Int32) (sT : zI) (tk : zI) (sz : Nat) : Met l yX1_finish wsX1_finish ({ frames := 2, cells := 0, slots := 0, locals := 42 }) (zPc dC dI (zTy cI cZ cH cJ) [.ref h0] sz ([(h0, .inr (1, [.ref g0, .ref o0, .int mk, .int ho, .int fl, .int od, .int td, .int ps, .int pr, .ref kT])), (g0, .inr (0, [.ref b0, .ref gI, .ref gS, .ref gD, .int un, .int de])), (o0, .inr (2, [.ref oT, .ref oW, .ref oV, .ref oS])), (oT, .inl (cZ, 20, .inl sT)), (kT, .inl (cZ, 20, .inl tk))])) (zQv dC dI ([(h0, .inr (1, [.ref g0, .ref o0, .int (zst un od), .int 0, .int fl, .int od, .int td, .int ps, .int pr, .ref kT])), (g0, .inr (0, [.ref b0, .ref gI, .ref gS, .ref gD, .int un, .int de])), (o0, .inr (2, [.ref oT, .ref oW, .ref oV, .ref oS])), (oT, .inl (cZ, 20, .inl (if fl = 0 then sT else zdrp sT tk 20))), (kT, .inl (cZ, 20, .inl tk))]) (va_A ([(h0, .inr (1, [.ref g0, .ref o0, .int mk, .int ho, .int fl, .int od, .int td, .int ps, .int pr, .ref kT])), (g0, .inr (0, [.ref b0, .ref gI, .ref gS, .ref gD, .int un, .int de])), (o0, .inr (2, [.ref oT, .ref oW, .ref oV, .ref oS])), (oT, .inl (cZ, 20, .inl sT)), (kT, .inl (cZ, 20, .inl tk))]) sz)) 0 0 (va_A ([(h0, .inr (1, [.ref g0, .ref o0, .int mk, .int ho, .int fl, .int od, .int td, .int ps, .int pr, .ref kT])), (g0, .inr (0, [.ref b0, .ref gI, .ref gS, .ref gD, .int un, .int de])), (o0, .inr (2, [.ref oT, .ref oW, .ref oV, .ref oS])), (oT, .inl (cZ, 20, .inl sT)), (kT, .inl (cZ, 20, .inl tk))]) sz) := by
  refine Met.ofW (cc := cX1_finish) (maxL := 1) (ret := none) (by decide) rfl ?_
  intro p e s m args below meth c s₁ B hml hv
  obtain ⟨rfl, hsz, hP, hK, hD0⟩ := hv
  have hx := B.exec
  have hb := B.bytes
  have hr := B.returns
  have hts := atoms_spec (ws := wsX1_finish) B.pre
  have hown : s.vm.findClass RX1 = some m.cls := findClass_of_methodNamed B.named
  have hlocks := B.notSynchronized
  subst hsz
  have hD := hD0.self (sz := s.heap.size)
  generalize hAe : va_A ([(h0, .inr (1, [.ref g0, .ref o0, .int mk, .int ho, .int fl, .int od, .int td, .int ps, .int pr, .ref kT])), (g0, .inr (0, [.ref b0, .ref gI, .ref gS, .ref gD, .int un, .int de])), (o0, .inr (2, [.ref oT, .ref oW, .ref oV, .ref oS])), (oT, .inl (cZ, 20, .inl sT)), (kT, .inl (cZ, 20, .inl tk))]) s.heap.size = A at hD ⊢
  have hA : ∀ q : Nat, s.heap.size ≤ q → A q := fun q h => by rw [← hAe]; exact Or.inr h
  have hS : va_S A s.heap s.heap [] := va_S.rf
  have hl := lv_entry ([.ref h0]) (n := 1) (Nat.le_of_ble_eq_true rfl)
  rw [lg_entry_eq]
  generalize (lg_sl ([.ref h0]) ++ List.replicate (1 - (lg_sl ([.ref h0])).length) Slot.unset).toArray = ls at hl ⊢
  have hl : lv_has ls 1 [(0, .ref h0)] := hl
  have hiX1 : ∀ w ∈ wsX10, w ∈ wsX1_finish := by decide +kernel
  have l12 := hts (.fieldLink RX1 12 "CatalogueHarvester$Harvest" "far" "LCatalogueHarvester$FarCatalogue;") (by decide +kernel)
  have l25 := hts (.fieldLink RX1 25 "CatalogueHarvester$Harvest" "mark" "I") (by decide +kernel)
  have l29 := hts (.fieldLink RX1 29 "CatalogueHarvester$Harvest" "hasOpenList" "Z") (by decide +kernel)
  have l33 := hts (.fieldLink RX1 33 "CatalogueHarvester$Harvest" "isFullList" "Z") (by decide +kernel)
  have l36 := hts (.fieldLink RX1 36 "CatalogueHarvester$Harvest" "openingDay" "I") (by decide +kernel)
  refine lv_aload_n hx hb dX1_finish_0 rfl (lv_at hl 0 rfl) ?_
  refine lv_iconst (v := 0) hx hb dX1_finish_1 (by decide) ?_
  refine va_put (D := (dC, dI)) (ci := 1) (v := .int 0) (ty := .boolean) (C := RX1) (T := TX1) (N := 10) hx hb hts hiX1 tyX1 tyX1_ok nmX1 hown hK hP hD hS 0 rfl rfl 3 (by decide) l29 (fun _ h9 => h9) rfl (by decide +kernel) (rfl) (rfl) (Nat.le_of_ble_eq_true rfl) dX1_finish_2 (fun H locs hP hD hS => ?_)
  have hP : va_P (dC, dI) vwCl ([(h0, .inr (1, [.ref g0, .ref o0, .int mk, .int 0, .int fl, .int od, .int td, .int ps, .int pr, .ref kT])), (g0, .inr (0, [.ref b0, .ref gI, .ref gS, .ref gD, .int un, .int de])), (o0, .inr (2, [.ref oT, .ref oW, .ref oV, .ref oS])), (oT, .inl (cZ, 20, .inl sT)), (kT, .inl (cZ, 20, .inl tk))]) H := hP
  have hD : va_D A ([(h0, .inr (1, [.ref g0, .ref o0, .int mk, .int 0, .int fl, .int od, .int td, .int ps, .int pr, .ref kT])), (g0, .inr (0, [.ref b0, .ref gI, .ref gS, .ref gD, .int un, .int de])), (o0, .inr (2, [.ref oT, .ref oW, .ref oV, .ref oS])), (oT, .inl (cZ, 20, .inl sT)), (kT, .inl (cZ, 20, .inl tk))]) := hD
  refine lv_aload_n hx hb dX1_finish_5 rfl (lv_at hl 0 rfl) ?_
  refine lv_aload_n hx hb dX1_finish_6 rfl (lv_at hl 0 rfl) ?_
  refine va_get (D := (dC, dI)) (ci := 1) (v := .ref g0) (C := RX1) (T := TX1) (N := 10) hx hb hts hiX1 hown hK hP 0 rfl rfl 0 (by decide) l12 (fun _ h9 => h9) rfl dX1_finish_7 ?_
  refine lv_aload_n hx hb dX1_finish_10 rfl (lv_at hl 0 rfl) ?_
  refine va_get (D := (dC, dI)) (ci := 1) (v := .int od) (C := RX1) (T := TX1) (N := 10) hx hb hts hiX1 hown hK hP 0 rfl rfl 5 (by decide) l36 (fun _ h9 => h9) rfl dX1_finish_11 ?_
  refine z_cRi (va_runV (As := [.int od]) (rest := [.ref h0]) ⟨hx, hb, hml, hown, hts⟩ (kX0_stampOfDay l dC dI cI cZ cH cJ g0 b0 gI gS gD un de od) (cwV 1 hts gX1_finish_X0_stampOfDay rfl rfl rfl (by decide +kernel) ⟨Nat.le_of_ble_eq_true rfl, Nat.le_of_ble_eq_true rfl⟩) (zPreR (is := [1]) hK hP rfl (va_recv hK hP (ci := 0) (q0 := 1) rfl rfl)) rfl rfl hl.1 rfl (lv_room (Nat.le_of_ble_eq_true rfl)) dX1_finish_14 ⟨Nat.le_of_ble_eq_true rfl, Nat.le_of_ble_eq_true rfl⟩) ?_
  refine z_tv (v := zst un od) rfl ?_
  refine va_put (D := (dC, dI)) (ci := 1) (v := .int (zst un od)) (ty := .int) (C := RX1) (T := TX1) (N := 10) hx hb hts hiX1 tyX1 tyX1_ok nmX1 hown hK hP hD hS 0 rfl rfl 2 (by decide) l25 (fun _ h9 => h9) rfl (by decide +kernel) (rfl) (rfl) (Nat.le_of_ble_eq_true rfl) dX1_finish_17 (fun H locs hP hD hS => ?_)
  have hP : va_P (dC, dI) vwCl ([(h0, .inr (1, [.ref g0, .ref o0, .int (zst un od), .int 0, .int fl, .int od, .int td, .int ps, .int pr, .ref kT])), (g0, .inr (0, [.ref b0, .ref gI, .ref gS, .ref gD, .int un, .int de])), (o0, .inr (2, [.ref oT, .ref oW, .ref oV, .ref oS])), (oT, .inl (cZ, 20, .inl sT)), (kT, .inl (cZ, 20, .inl tk))]) H := hP
  have hD : va_D A ([(h0, .inr (1, [.ref g0, .ref o0, .int (zst un od), .int 0, .int fl, .int od, .int td, .int ps, .int pr, .ref kT])), (g0, .inr (0, [.ref b0, .ref gI, .ref gS, .ref gD, .int un, .int de])), (o0, .inr (2, [.ref oT, .ref oW, .ref oV, .ref oS])), (oT, .inl (cZ, 20, .inl sT)), (kT, .inl (cZ, 20, .inl tk))]) := hD
  refine lv_aload_n hx hb dX1_finish_20 rfl (lv_at hl 0 rfl) ?_
  refine va_get (D := (dC, dI)) (ci := 1) (v := .int fl) (C := RX1) (T := TX1) (N := 10) hx hb hts hiX1 hown hK hP 0 rfl rfl 4 (by decide) l33 (fun _ h9 => h9) rfl dX1_finish_21 ?_
  refine lv_if_eq (tgt := 31) hx hb dX1_finish_24 (by decide) (fun c_24 => ?_) (fun c_24 => ?_)
  · skip
    have hP := zP_eq (ws' := [(h0, .inr (1, [.ref g0, .ref o0, .int (zst un od), .int 0, .int fl, .int od, .int td, .int ps, .int pr, .ref kT])), (g0, .inr (0, [.ref b0, .ref gI, .ref gS, .ref gD, .int un, .int de])), (o0, .inr (2, [.ref oT, .ref oW, .ref oV, .ref oS])), (oT, .inl (cZ, 20, .inl (if fl = 0 then sT else zdrp sT tk 20))), (kT, .inl (cZ, 20, .inl tk))]) hP (zw_k (zw_k (zw_k (zw_a (by simp [c_24]) (zw_k (rfl))))))
    have hD := zD_eq (ws' := [(h0, .inr (1, [.ref g0, .ref o0, .int (zst un od), .int 0, .int fl, .int od, .int td, .int ps, .int pr, .ref kT])), (g0, .inr (0, [.ref b0, .ref gI, .ref gS, .ref gD, .int un, .int de])), (o0, .inr (2, [.ref oT, .ref oW, .ref oV, .ref oS])), (oT, .inl (cZ, 20, .inl (if fl = 0 then sT else zdrp sT tk 20))), (kT, .inl (cZ, 20, .inl tk))]) hD (zw_k (zw_k (zw_k (zw_a (by simp [c_24]) (zw_k (rfl))))))
    exact W.vret hx hb hr (fun t ht hW => ⟨rfl, ⟨by rw [ht]; exact hP, hD⟩, hS.F ht⟩) hS.2.2 dX1_finish_31
  · skip
    refine lv_aload_n hx hb dX1_finish_27 rfl (lv_at hl 0 rfl) ?_
    refine z_cMv (is := [0, 2, 3, 4]) (va_runV (As := []) (rest := []) ⟨hx, hb, hml, hown, hts⟩ (kX1_dropWhatIsGone l dC dI cI cZ cH cJ h0 g0 o0 kT (zst un od) 0 fl od td ps pr oT oW oV oS sT tk H.size) (cwV 0 hts gX1_finish_X1_dropWhatIsGone rfl rfl rfl (by decide +kernel) ⟨Nat.le_of_ble_eq_true rfl, Nat.le_of_ble_eq_true rfl⟩) (zPreV (is := [0, 2, 3, 4]) hK hP hD (by decide) rfl (va_recv hK hP (ci := 1) (q0 := 0) rfl rfl)) rfl rfl hl.1 rfl (lv_room (Nat.le_of_ble_eq_true rfl)) dX1_finish_28 ⟨Nat.le_of_ble_eq_true rfl, Nat.le_of_ble_eq_true rfl⟩) hP hD hS hA rfl (by decide) rfl (fun H locs hP hD hS => ?_)
    have hP : va_P (dC, dI) vwCl ([(h0, .inr (1, [.ref g0, .ref o0, .int (zst un od), .int 0, .int fl, .int od, .int td, .int ps, .int pr, .ref kT])), (g0, .inr (0, [.ref b0, .ref gI, .ref gS, .ref gD, .int un, .int de])), (o0, .inr (2, [.ref oT, .ref oW, .ref oV, .ref oS])), (oT, .inl (cZ, 20, .inl (zdrp sT tk 20))), (kT, .inl (cZ, 20, .inl tk))]) H := hP
    have hD : va_D A ([(h0, .inr (1, [.ref g0, .ref o0, .int (zst un od), .int 0, .int fl, .int od, .int td, .int ps, .int pr, .ref kT])), (g0, .inr (0, [.ref b0, .ref gI, .ref gS, .ref gD, .int un, .int de])), (o0, .inr (2, [.ref oT, .ref oW, .ref oV, .ref oS])), (oT, .inl (cZ, 20, .inl (zdrp sT tk 20))), (kT, .inl (cZ, 20, .inl tk))]) := hD
    have hP := zP_eq (ws' := [(h0, .inr (1, [.ref g0, .ref o0, .int (zst un od), .int 0, .int fl, .int od, .int td, .int ps, .int pr, .ref kT])), (g0, .inr (0, [.ref b0, .ref gI, .ref gS, .ref gD, .int un, .int de])), (o0, .inr (2, [.ref oT, .ref oW, .ref oV, .ref oS])), (oT, .inl (cZ, 20, .inl (if fl = 0 then sT else zdrp sT tk 20))), (kT, .inl (cZ, 20, .inl tk))]) hP (zw_k (zw_k (zw_k (zw_a (by simp [c_24]) (zw_k (rfl))))))
    have hD := zD_eq (ws' := [(h0, .inr (1, [.ref g0, .ref o0, .int (zst un od), .int 0, .int fl, .int od, .int td, .int ps, .int pr, .ref kT])), (g0, .inr (0, [.ref b0, .ref gI, .ref gS, .ref gD, .int un, .int de])), (o0, .inr (2, [.ref oT, .ref oW, .ref oV, .ref oS])), (oT, .inl (cZ, 20, .inl (if fl = 0 then sT else zdrp sT tk 20))), (kT, .inl (cZ, 20, .inl tk))]) hD (zw_k (zw_k (zw_k (zw_a (by simp [c_24]) (zw_k (rfl))))))
    exact W.vret hx hb hr (fun t ht hW => ⟨rfl, ⟨by rw [ht]; exact hP, hD⟩, hS.F ht⟩) hS.2.2 dX1_finish_31
set_option maxHeartbeats 4000000 in
set_option maxRecDepth 100000 in
/-- Harvest.takePage -/
theorem kX1_takePage (l : Launch) (dC : Nat → ClassId) (dI : Nat → Nat → Nat) (cI cZ cH cJ : ClassId) (h0 : Nat) (g0 : Nat) (o0 : Nat) (kT : Nat) (mk : Int32) (ho : Int32) (fl : Int32) (od : Int32) (td : Int32) (ps : Int32) (pr : Int32) (b0 : Nat) (gI : Nat) (gS : Nat) (gD : Nat) (bT : Nat) (bW : Nat) (bV : Nat) (bS : Nat) (oT : Nat) (oW : Nat) (oV : Nat) (oS : Nat) (un : Int32) (de : Int32) (fT : zI) (fW : zI) (fV : zI) (fS : zI) (iT : zI) (tS : zI) (sT : zI) (sW : zI) (sV : zI) (sS : zI) (tk : zI) (today : Int32) (hff : fl = 0 ∨ fl = 1) (res' : Int32) (mk' : Int32) (ho' : Int32) (od' : Int32) (ps' : Int32) (pr' : Int32) (sT' : zI) (sW' : zI) (sV' : zI) (sS' : zI) (tk' : zI) (hsp : ztp fT fW fV fS (zls fT fS iT tS) un today mk ho fl od td (ps, pr, sT, sW, sV, sS, tk) = (res', mk', ho', od', ps', pr', sT', sW', sV', sS', tk')) (sz : Nat) : Met l yX1_takePage wsX1_takePage ({ frames := 3, cells := 0, slots := 0, locals := 70 }) (zPc dC dI (zTy cI cZ cH cJ) [.ref h0, .int today] sz ([(h0, .inr (1, [.ref g0, .ref o0, .int mk, .int ho, .int fl, .int od, .int td, .int ps, .int pr, .ref kT])), (g0, .inr (0, [.ref b0, .ref gI, .ref gS, .ref gD, .int un, .int de])), (b0, .inr (2, [.ref bT, .ref bW, .ref bV, .ref bS])), (bT, .inl (cZ, 20, .inl fT)), (bW, .inl (cI, 20, .inl fW)), (bV, .inl (cI, 20, .inl fV)), (bS, .inl (cI, 20, .inl fS)), (gI, .inl (cZ, 20, .inl iT)), (gS, .inl (cI, 20, .inl tS)), (o0, .inr (2, [.ref oT, .ref oW, .ref oV, .ref oS])), (oT, .inl (cZ, 20, .inl sT)), (oW, .inl (cI, 20, .inl sW)), (oV, .inl (cI, 20, .inl sV)), (oS, .inl (cI, 20, .inl sS)), (kT, .inl (cZ, 20, .inl tk))])) (zQi dC dI res' ([(h0, .inr (1, [.ref g0, .ref o0, .int mk', .int ho', .int fl, .int od', .int today, .int ps', .int pr', .ref kT])), (g0, .inr (0, [.ref b0, .ref gI, .ref gS, .ref gD, .int un, .int de])), (b0, .inr (2, [.ref bT, .ref bW, .ref bV, .ref bS])), (bT, .inl (cZ, 20, .inl fT)), (bW, .inl (cI, 20, .inl fW)), (bV, .inl (cI, 20, .inl fV)), (bS, .inl (cI, 20, .inl fS)), (gI, .inl (cZ, 20, .inl iT)), (gS, .inl (cI, 20, .inl tS)), (o0, .inr (2, [.ref oT, .ref oW, .ref oV, .ref oS])), (oT, .inl (cZ, 20, .inl sT')), (oW, .inl (cI, 20, .inl sW')), (oV, .inl (cI, 20, .inl sV')), (oS, .inl (cI, 20, .inl sS')), (kT, .inl (cZ, 20, .inl tk'))]) (va_A ([(h0, .inr (1, [.ref g0, .ref o0, .int mk, .int ho, .int fl, .int od, .int td, .int ps, .int pr, .ref kT])), (g0, .inr (0, [.ref b0, .ref gI, .ref gS, .ref gD, .int un, .int de])), (b0, .inr (2, [.ref bT, .ref bW, .ref bV, .ref bS])), (bT, .inl (cZ, 20, .inl fT)), (bW, .inl (cI, 20, .inl fW)), (bV, .inl (cI, 20, .inl fV)), (bS, .inl (cI, 20, .inl fS)), (gI, .inl (cZ, 20, .inl iT)), (gS, .inl (cI, 20, .inl tS)), (o0, .inr (2, [.ref oT, .ref oW, .ref oV, .ref oS])), (oT, .inl (cZ, 20, .inl sT)), (oW, .inl (cI, 20, .inl sW)), (oV, .inl (cI, 20, .inl sV)), (oS, .inl (cI, 20, .inl sS)), (kT, .inl (cZ, 20, .inl tk))]) sz)) 0 0 (va_A ([(h0, .inr (1, [.ref g0, .ref o0, .int mk, .int ho, .int fl, .int od, .int td, .int ps, .int pr, .ref kT])), (g0, .inr (0, [.ref b0, .ref gI, .ref gS, .ref gD, .int un, .int de])), (b0, .inr (2, [.ref bT, .ref bW, .ref bV, .ref bS])), (bT, .inl (cZ, 20, .inl fT)), (bW, .inl (cI, 20, .inl fW)), (bV, .inl (cI, 20, .inl fV)), (bS, .inl (cI, 20, .inl fS)), (gI, .inl (cZ, 20, .inl iT)), (gS, .inl (cI, 20, .inl tS)), (o0, .inr (2, [.ref oT, .ref oW, .ref oV, .ref oS])), (oT, .inl (cZ, 20, .inl sT)), (oW, .inl (cI, 20, .inl sW)), (oV, .inl (cI, 20, .inl sV)), (oS, .inl (cI, 20, .inl sS)), (kT, .inl (cZ, 20, .inl tk))]) sz) := by
  refine Met.ofW (cc := cX1_takePage) (maxL := 4) (ret := (some .int)) (by decide) rfl ?_
  intro p e s m args below meth c s₁ B hml hv
  obtain ⟨rfl, hsz, hP, hK, hD0⟩ := hv
  have hx := B.exec
  have hb := B.bytes
  have hr := B.returns
  have hts := atoms_spec (ws := wsX1_takePage) B.pre
  have hown : s.vm.findClass RX1 = some m.cls := findClass_of_methodNamed B.named
  have hlocks := B.notSynchronized
  subst hsz
  have hD := hD0.self (sz := s.heap.size)
  generalize hAe : va_A ([(h0, .inr (1, [.ref g0, .ref o0, .int mk, .int ho, .int fl, .int od, .int td, .int ps, .int pr, .ref kT])), (g0, .inr (0, [.ref b0, .ref gI, .ref gS, .ref gD, .int un, .int de])), (b0, .inr (2, [.ref bT, .ref bW, .ref bV, .ref bS])), (bT, .inl (cZ, 20, .inl fT)), (bW, .inl (cI, 20, .inl fW)), (bV, .inl (cI, 20, .inl fV)), (bS, .inl (cI, 20, .inl fS)), (gI, .inl (cZ, 20, .inl iT)), (gS, .inl (cI, 20, .inl tS)), (o0, .inr (2, [.ref oT, .ref oW, .ref oV, .ref oS])), (oT, .inl (cZ, 20, .inl sT)), (oW, .inl (cI, 20, .inl sW)), (oV, .inl (cI, 20, .inl sV)), (oS, .inl (cI, 20, .inl sS)), (kT, .inl (cZ, 20, .inl tk))]) s.heap.size = A at hD ⊢
  have hA : ∀ q : Nat, s.heap.size ≤ q → A q := fun q h => by rw [← hAe]; exact Or.inr h
  have hS : va_S A s.heap s.heap [] := va_S.rf
  have hl := lv_entry ([.ref h0, .int today]) (n := 4) (Nat.le_of_ble_eq_true rfl)
  rw [lg_entry_eq]
  generalize (lg_sl ([.ref h0, .int today]) ++ List.replicate (4 - (lg_sl ([.ref h0, .int today])).length) Slot.unset).toArray = ls at hl ⊢
  have hl : lv_has ls 4 [(0, .ref h0), (1, .int today)] := hl
  have hiX1 : ∀ w ∈ wsX10, w ∈ wsX1_takePage := by decide +kernel
  have l33 := hts (.fieldLink RX1 33 "CatalogueHarvester$Harvest" "isFullList" "Z") (by decide +kernel)
  have l39 := hts (.fieldLink RX1 39 "CatalogueHarvester$Harvest" "tokenDay" "I") (by decide +kernel)
  refine lv_iload_n hx hb dX1_takePage_0 rfl (lv_at hl 1 rfl) ?_
  refine lv_aload_n hx hb dX1_takePage_1 rfl (lv_at hl 0 rfl) ?_
  refine va_get (D := (dC, dI)) (ci := 1) (v := .int td) (C := RX1) (T := TX1) (N := 10) hx hb hts hiX1 hown hK hP 0 rfl rfl 6 (by decide) l39 (fun _ h9 => h9) rfl dX1_takePage_2 ?_
  refine lv_isub hx hb dX1_takePage_5 ?_
  refine lv_iconst (v := 5) hx hb dX1_takePage_6 (by decide) ?_
  refine lv_icmp_le (tgt := 19) hx hb dX1_takePage_7 (by decide) (fun c_7 => ?_) (fun c_7 => ?_)
  · skip
    rw [ztp, if_pos c_7] at hsp
    refine lv_aload_n hx hb dX1_takePage_19 rfl (lv_at hl 0 rfl) ?_
    refine lv_iload_n hx hb dX1_takePage_20 rfl (lv_at hl 1 rfl) ?_
    refine va_put (D := (dC, dI)) (ci := 1) (v := .int today) (ty := .int) (C := RX1) (T := TX1) (N := 10) hx hb hts hiX1 tyX1 tyX1_ok nmX1 hown hK hP hD hS 0 rfl rfl 6 (by decide) l39 (fun _ h9 => h9) rfl (by decide +kernel) (rfl) (rfl) (Nat.le_of_ble_eq_true rfl) dX1_takePage_21 (fun H locs hP hD hS => ?_)
    have hP : va_P (dC, dI) vwCl ([(h0, .inr (1, [.ref g0, .ref o0, .int mk, .int ho, .int fl, .int od, .int today, .int ps, .int pr, .ref kT])), (g0, .inr (0, [.ref b0, .ref gI, .ref gS, .ref gD, .int un, .int de])), (b0, .inr (2, [.ref bT, .ref bW, .ref bV, .ref bS])), (bT, .inl (cZ, 20, .inl fT)), (bW, .inl (cI, 20, .inl fW)), (bV, .inl (cI, 20, .inl fV)), (bS, .inl (cI, 20, .inl fS)), (gI, .inl (cZ, 20, .inl iT)), (gS, .inl (cI, 20, .inl tS)), (o0, .inr (2, [.ref oT, .ref oW, .ref oV, .ref oS])), (oT, .inl (cZ, 20, .inl sT)), (oW, .inl (cI, 20, .inl sW)), (oV, .inl (cI, 20, .inl sV)), (oS, .inl (cI, 20, .inl sS)), (kT, .inl (cZ, 20, .inl tk))]) H := hP
    have hD : va_D A ([(h0, .inr (1, [.ref g0, .ref o0, .int mk, .int ho, .int fl, .int od, .int today, .int ps, .int pr, .ref kT])), (g0, .inr (0, [.ref b0, .ref gI, .ref gS, .ref gD, .int un, .int de])), (b0, .inr (2, [.ref bT, .ref bW, .ref bV, .ref bS])), (bT, .inl (cZ, 20, .inl fT)), (bW, .inl (cI, 20, .inl fW)), (bV, .inl (cI, 20, .inl fV)), (bS, .inl (cI, 20, .inl fS)), (gI, .inl (cZ, 20, .inl iT)), (gS, .inl (cI, 20, .inl tS)), (o0, .inr (2, [.ref oT, .ref oW, .ref oV, .ref oS])), (oT, .inl (cZ, 20, .inl sT)), (oW, .inl (cI, 20, .inl sW)), (oV, .inl (cI, 20, .inl sV)), (oS, .inl (cI, 20, .inl sS)), (kT, .inl (cZ, 20, .inl tk))]) := hD
    refine lv_iconst (v := 0) hx hb dX1_takePage_24 (by decide) ?_
    refine lv_istore_n (lv' := [(2, .int 0), (0, .ref h0), (1, .int today)]) hx hb dX1_takePage_25 rfl hl (by decide) rfl (fun ls hl => ?_)
    refine lv_aload_n hx hb dX1_takePage_26 rfl (lv_at hl 1 rfl) ?_
    refine z_cRi (va_runV (As := []) (rest := []) ⟨hx, hb, hml, hown, hts⟩ (kX1_nextOfList l dC dI cI cZ cH cJ h0 g0 o0 kT mk ho fl od today ps pr b0 gI gS gD bT bW bV bS un de fT fS iT tS) (cwV 0 hts gX1_takePage_X1_nextOfList rfl rfl rfl (by decide +kernel) ⟨Nat.le_of_ble_eq_true rfl, Nat.le_of_ble_eq_true rfl⟩) (zPreR (is := [0, 1, 2, 3, 6, 7, 8]) hK hP rfl (va_recv hK hP (ci := 1) (q0 := 0) rfl rfl)) rfl rfl hl.1 rfl (lv_room (Nat.le_of_ble_eq_true rfl)) dX1_takePage_27 ⟨Nat.le_of_ble_eq_true rfl, Nat.le_of_ble_eq_true rfl⟩) ?_
    refine z_tv (v := (znx (zls fT fS iT tS) (if fl = 0 then mk else 0) ps pr 20).1) rfl ?_
    refine lv_istore_n (lv' := [(3, .int ((znx (zls fT fS iT tS) (if fl = 0 then mk else 0) ps pr 20).1)), (2, .int 0), (0, .ref h0), (1, .int today)]) hx hb dX1_takePage_30 rfl hl (by decide) rfl (fun ls hl => ?_)
    have LOOP1 : ∀ (n i : Nat), i ≤ 3 → 3 < i + n → ∀ (ps pr : Int32) (sT sW sV sS tk : zI), zte (zls fT fS iT tS) (if fl = 0 then mk else 0) un mk ho fl od (zpg fT fW fV fS (zls fT fS iT tS) (if fl = 0 then mk else 0) (3 - i) (ps, pr, sT, sW, sV, sS, tk) (nI i)) = (res', mk', ho', od', ps', pr', sT', sW', sV', sS', tk') → ∀ (H : Heap) (locs : List Loc), va_P (dC, dI) vwCl ([(h0, .inr (1, [.ref g0, .ref o0, .int mk, .int ho, .int fl, .int od, .int today, .int ps, .int pr, .ref kT])), (g0, .inr (0, [.ref b0, .ref gI, .ref gS, .ref gD, .int un, .int de])), (b0, .inr (2, [.ref bT, .ref bW, .ref bV, .ref bS])), (bT, .inl (cZ, 20, .inl fT)), (bW, .inl (cI, 20, .inl fW)), (bV, .inl (cI, 20, .inl fV)), (bS, .inl (cI, 20, .inl fS)), (gI, .inl (cZ, 20, .inl iT)), (gS, .inl (cI, 20, .inl tS)), (o0, .inr (2, [.ref oT, .ref oW, .ref oV, .ref oS])), (oT, .inl (cZ, 20, .inl sT)), (oW, .inl (cI, 20, .inl sW)), (oV, .inl (cI, 20, .inl sV)), (oS, .inl (cI, 20, .inl sS)), (kT, .inl (cZ, 20, .inl tk))]) H → va_D A ([(h0, .inr (1, [.ref g0, .ref o0, .int mk, .int ho, .int fl, .int od, .int today, .int ps, .int pr, .ref kT])), (g0, .inr (0, [.ref b0, .ref gI, .ref gS, .ref gD, .int un, .int de])), (b0, .inr (2, [.ref bT, .ref bW, .ref bV, .ref bS])), (bT, .inl (cZ, 20, .inl fT)), (bW, .inl (cI, 20, .inl fW)), (bV, .inl (cI, 20, .inl fV)), (bS, .inl (cI, 20, .inl fS)), (gI, .inl (cZ, 20, .inl iT)), (gS, .inl (cI, 20, .inl tS)), (o0, .inr (2, [.ref oT, .ref oW, .ref oV, .ref oS])), (oT, .inl (cZ, 20, .inl sT)), (oW, .inl (cI, 20, .inl sW)), (oV, .inl (cI, 20, .inl sV)), (oS, .inl (cI, 20, .inl sS)), (kT, .inl (cZ, 20, .inl tk))]) → va_S A s.heap H locs → ∀ (ls : Array Slot), lv_has ls 4 [(0, .ref h0), (1, .int today), (2, .int (nI i)), (3, .int ((znx (zls fT fS iT tS) (if fl = 0 then mk else 0) ps pr 20).1))] → W p l e (headSpec wsX1_takePage ({ frames := 3, cells := 0, slots := 0, locals := 70 })).room s m ([.ref h0, .int today] : List Value).toArray below meth c H locs 0 0 (MQ below (zQi dC dI res' ([(h0, .inr (1, [.ref g0, .ref o0, .int mk', .int ho', .int fl, .int od', .int today, .int ps', .int pr', .ref kT])), (g0, .inr (0, [.ref b0, .ref gI, .ref gS, .ref gD, .int un, .int de])), (b0, .inr (2, [.ref bT, .ref bW, .ref bV, .ref bS])), (bT, .inl (cZ, 20, .inl fT)), (bW, .inl (cI, 20, .inl fW)), (bV, .inl (cI, 20, .inl fV)), (bS, .inl (cI, 20, .inl fS)), (gI, .inl (cZ, 20, .inl iT)), (gS, .inl (cI, 20, .inl tS)), (o0, .inr (2, [.ref oT, .ref oW, .ref oV, .ref oS])), (oT, .inl (cZ, 20, .inl sT')), (oW, .inl (cI, 20, .inl sW')), (oV, .inl (cI, 20, .inl sV')), (oS, .inl (cI, 20, .inl sS')), (kT, .inl (cZ, 20, .inl tk'))]) A) ([.ref h0, .int today] : List Value).toArray s 0 0 A) (F0 m 31 ls []) := by
      intro n
      induction n with
      | zero => intro i h1 h2; exact absurd h2 (by omega)
      | succ n ih =>
        intro i hi hin ps pr sT sW sV sS tk hz H locs hP hD hS ls hl
        refine lv_iload_n hx hb dX1_takePage_31 rfl (lv_at hl 3 rfl) ?_
        refine lv_iconst (v := (-1)) hx hb dX1_takePage_32 (by decide) ?_
        refine lv_icmp_eq (tgt := 57) hx hb dX1_takePage_33 (by decide) (fun c_33 => ?_) (fun c_33 => ?_)
        · skip
          rw [zpg_e (x := (ps, pr, sT, sW, sV, sS, tk)) c_33, zte, if_pos c_33] at hz
          simp only [Prod.mk.injEq] at hz
          obtain ⟨e1, e2, e3, e4, e5, e6, e7, e8, e9, e10, e11⟩ := hz
          refine lv_iload_n hx hb dX1_takePage_57 rfl (lv_at hl 3 rfl) ?_
          refine lv_iconst (v := (-1)) hx hb dX1_takePage_58 (by decide) ?_
          refine lv_icmp_ne (tgt := 66) hx hb dX1_takePage_59 (by decide) (fun c_59 => ?_) (fun c_59 => ?_)
          · exact absurd c_33 c_59
          · skip
            refine lv_aload_n hx hb dX1_takePage_62 rfl (lv_at hl 0 rfl) ?_
            refine z_cMv (is := [0, 1, 9, 10, 14]) (va_runV (As := []) (rest := []) ⟨hx, hb, hml, hown, hts⟩ (kX1_finish l dC dI cI cZ cH cJ h0 g0 o0 kT mk ho fl od today ps pr b0 gI gS gD oT oW oV oS un de sT tk H.size) (cwV 0 hts gX1_takePage_X1_finish rfl rfl rfl (by decide +kernel) ⟨Nat.le_of_ble_eq_true rfl, Nat.le_of_ble_eq_true rfl⟩) (zPreV (is := [0, 1, 9, 10, 14]) hK hP hD (by decide) rfl (va_recv hK hP (ci := 1) (q0 := 0) rfl rfl)) rfl rfl hl.1 rfl (lv_room (Nat.le_of_ble_eq_true rfl)) dX1_takePage_63 ⟨Nat.le_of_ble_eq_true rfl, Nat.le_of_ble_eq_true rfl⟩) hP hD hS hA rfl (by decide) rfl (fun H locs hP hD hS => ?_)
            have hP : va_P (dC, dI) vwCl ([(h0, .inr (1, [.ref g0, .ref o0, .int (zst un od), .int 0, .int fl, .int od, .int today, .int ps, .int pr, .ref kT])), (g0, .inr (0, [.ref b0, .ref gI, .ref gS, .ref gD, .int un, .int de])), (b0, .inr (2, [.ref bT, .ref bW, .ref bV, .ref bS])), (bT, .inl (cZ, 20, .inl fT)), (bW, .inl (cI, 20, .inl fW)), (bV, .inl (cI, 20, .inl fV)), (bS, .inl (cI, 20, .inl fS)), (gI, .inl (cZ, 20, .inl iT)), (gS, .inl (cI, 20, .inl tS)), (o0, .inr (2, [.ref oT, .ref oW, .ref oV, .ref oS])), (oT, .inl (cZ, 20, .inl (if fl = 0 then sT else zdrp sT tk 20))), (oW, .inl (cI, 20, .inl sW)), (oV, .inl (cI, 20, .inl sV)), (oS, .inl (cI, 20, .inl sS)), (kT, .inl (cZ, 20, .inl tk))]) H := hP
            have hD : va_D A ([(h0, .inr (1, [.ref g0, .ref o0, .int (zst un od), .int 0, .int fl, .int od, .int today, .int ps, .int pr, .ref kT])), (g0, .inr (0, [.ref b0, .ref gI, .ref gS, .ref gD, .int un, .int de])), (b0, .inr (2, [.ref bT, .ref bW, .ref bV, .ref bS])), (bT, .inl (cZ, 20, .inl fT)), (bW, .inl (cI, 20, .inl fW)), (bV, .inl (cI, 20, .inl fV)), (bS, .inl (cI, 20, .inl fS)), (gI, .inl (cZ, 20, .inl iT)), (gS, .inl (cI, 20, .inl tS)), (o0, .inr (2, [.ref oT, .ref oW, .ref oV, .ref oS])), (oT, .inl (cZ, 20, .inl (if fl = 0 then sT else zdrp sT tk 20))), (oW, .inl (cI, 20, .inl sW)), (oV, .inl (cI, 20, .inl sV)), (oS, .inl (cI, 20, .inl sS)), (kT, .inl (cZ, 20, .inl tk))]) := hD
            refine lv_iload_n hx hb dX1_takePage_66 rfl (lv_at hl 2 rfl) ?_
            refine z_tv (v := res') (e1) ?_
            have hP := zP_eq (ws' := [(h0, .inr (1, [.ref g0, .ref o0, .int mk', .int ho', .int fl, .int od', .int today, .int ps', .int pr', .ref kT])), (g0, .inr (0, [.ref b0, .ref gI, .ref gS, .ref gD, .int un, .int de])), (b0, .inr (2, [.ref bT, .ref bW, .ref bV, .ref bS])), (bT, .inl (cZ, 20, .inl fT)), (bW, .inl (cI, 20, .inl fW)), (bV, .inl (cI, 20, .inl fV)), (bS, .inl (cI, 20, .inl fS)), (gI, .inl (cZ, 20, .inl iT)), (gS, .inl (cI, 20, .inl tS)), (o0, .inr (2, [.ref oT, .ref oW, .ref oV, .ref oS])), (oT, .inl (cZ, 20, .inl sT')), (oW, .inl (cI, 20, .inl sW')), (oV, .inl (cI, 20, .inl sV')), (oS, .inl (cI, 20, .inl sS')), (kT, .inl (cZ, 20, .inl tk'))]) hP (zw_o (zv_k (zv_k (zv_c (e2) (zv_c (e3) (zv_k (zv_c (e4) (zv_k (zv_c (e5) (zv_c (e6) (zv_k (rfl))))))))))) (zw_k (zw_k (zw_k (zw_k (zw_k (zw_k (zw_k (zw_k (zw_k (zw_a (e7) (zw_a (e8) (zw_a (e9) (zw_a (e10) (zw_a (e11) (rfl))))))))))))))))
            have hD := zD_eq (ws' := [(h0, .inr (1, [.ref g0, .ref o0, .int mk', .int ho', .int fl, .int od', .int today, .int ps', .int pr', .ref kT])), (g0, .inr (0, [.ref b0, .ref gI, .ref gS, .ref gD, .int un, .int de])), (b0, .inr (2, [.ref bT, .ref bW, .ref bV, .ref bS])), (bT, .inl (cZ, 20, .inl fT)), (bW, .inl (cI, 20, .inl fW)), (bV, .inl (cI, 20, .inl fV)), (bS, .inl (cI, 20, .inl fS)), (gI, .inl (cZ, 20, .inl iT)), (gS, .inl (cI, 20, .inl tS)), (o0, .inr (2, [.ref oT, .ref oW, .ref oV, .ref oS])), (oT, .inl (cZ, 20, .inl sT')), (oW, .inl (cI, 20, .inl sW')), (oV, .inl (cI, 20, .inl sV')), (oS, .inl (cI, 20, .inl sS')), (kT, .inl (cZ, 20, .inl tk'))]) hD (zw_o (zv_k (zv_k (zv_c (e2) (zv_c (e3) (zv_k (zv_c (e4) (zv_k (zv_c (e5) (zv_c (e6) (zv_k (rfl))))))))))) (zw_k (zw_k (zw_k (zw_k (zw_k (zw_k (zw_k (zw_k (zw_k (zw_a (e7) (zw_a (e8) (zw_a (e9) (zw_a (e10) (zw_a (e11) (rfl))))))))))))))))
            exact W.iret hx hb hr (fun t ht hW => ⟨rfl, ⟨by rw [ht]; exact hP, hD⟩, hS.F ht⟩) hS.2.2 dX1_takePage_67
        · skip
          obtain ⟨r, hrr, er⟩ := znx_ne c_33
          refine lv_iload_n hx hb dX1_takePage_36 rfl (lv_at hl 2 rfl) ?_
          refine lv_iconst (v := 3) hx hb dX1_takePage_37 (by decide) ?_
          refine lv_icmp_ge (tgt := 57) hx hb dX1_takePage_38 (by decide) (fun c_38 => ?_) (fun c_38 => ?_)
          · skip
            have e20 : i = 3 := z_ge (n := 3) hi (by decide) c_38
            subst e20
            rw [Nat.sub_self, zpg, zte, if_neg c_33] at hz
            simp only [Prod.mk.injEq] at hz
            obtain ⟨e1, e2, e3, e4, e5, e6, e7, e8, e9, e10, e11⟩ := hz
            refine lv_iload_n hx hb dX1_takePage_57 rfl (lv_at hl 3 rfl) ?_
            refine lv_iconst (v := (-1)) hx hb dX1_takePage_58 (by decide) ?_
            refine lv_icmp_ne (tgt := 66) hx hb dX1_takePage_59 (by decide) (fun c_59 => ?_) (fun c_59 => ?_)
            · skip
              refine lv_iload_n hx hb dX1_takePage_66 rfl (lv_at hl 2 rfl) ?_
              refine z_tv (v := res') (e1) ?_
              have hP := zP_eq (ws' := [(h0, .inr (1, [.ref g0, .ref o0, .int mk', .int ho', .int fl, .int od', .int today, .int ps', .int pr', .ref kT])), (g0, .inr (0, [.ref b0, .ref gI, .ref gS, .ref gD, .int un, .int de])), (b0, .inr (2, [.ref bT, .ref bW, .ref bV, .ref bS])), (bT, .inl (cZ, 20, .inl fT)), (bW, .inl (cI, 20, .inl fW)), (bV, .inl (cI, 20, .inl fV)), (bS, .inl (cI, 20, .inl fS)), (gI, .inl (cZ, 20, .inl iT)), (gS, .inl (cI, 20, .inl tS)), (o0, .inr (2, [.ref oT, .ref oW, .ref oV, .ref oS])), (oT, .inl (cZ, 20, .inl sT')), (oW, .inl (cI, 20, .inl sW')), (oV, .inl (cI, 20, .inl sV')), (oS, .inl (cI, 20, .inl sS')), (kT, .inl (cZ, 20, .inl tk'))]) hP (zw_o (zv_k (zv_k (zv_c (e2) (zv_c (e3) (zv_k (zv_c (e4) (zv_k (zv_c (e5) (zv_c (e6) (zv_k (rfl))))))))))) (zw_k (zw_k (zw_k (zw_k (zw_k (zw_k (zw_k (zw_k (zw_k (zw_a (e7) (zw_a (e8) (zw_a (e9) (zw_a (e10) (zw_a (e11) (rfl))))))))))))))))
              have hD := zD_eq (ws' := [(h0, .inr (1, [.ref g0, .ref o0, .int mk', .int ho', .int fl, .int od', .int today, .int ps', .int pr', .ref kT])), (g0, .inr (0, [.ref b0, .ref gI, .ref gS, .ref gD, .int un, .int de])), (b0, .inr (2, [.ref bT, .ref bW, .ref bV, .ref bS])), (bT, .inl (cZ, 20, .inl fT)), (bW, .inl (cI, 20, .inl fW)), (bV, .inl (cI, 20, .inl fV)), (bS, .inl (cI, 20, .inl fS)), (gI, .inl (cZ, 20, .inl iT)), (gS, .inl (cI, 20, .inl tS)), (o0, .inr (2, [.ref oT, .ref oW, .ref oV, .ref oS])), (oT, .inl (cZ, 20, .inl sT')), (oW, .inl (cI, 20, .inl sW')), (oV, .inl (cI, 20, .inl sV')), (oS, .inl (cI, 20, .inl sS')), (kT, .inl (cZ, 20, .inl tk'))]) hD (zw_o (zv_k (zv_k (zv_c (e2) (zv_c (e3) (zv_k (zv_c (e4) (zv_k (zv_c (e5) (zv_c (e6) (zv_k (rfl))))))))))) (zw_k (zw_k (zw_k (zw_k (zw_k (zw_k (zw_k (zw_k (zw_k (zw_a (e7) (zw_a (e8) (zw_a (e9) (zw_a (e10) (zw_a (e11) (rfl))))))))))))))))
              exact W.iret hx hb hr (fun t ht hW => ⟨rfl, ⟨by rw [ht]; exact hP, hD⟩, hS.F ht⟩) hS.2.2 dX1_takePage_67
            · exact absurd c_59 c_33
          · skip
            have hk3 : i < 3 := z_lt (n := 3) hi (by decide) c_38
            rw [er] at hl
            refine lv_aload_n hx hb dX1_takePage_41 rfl (lv_at hl 0 rfl) ?_
            refine lv_iload_n hx hb dX1_takePage_42 rfl (lv_at hl 3 rfl) ?_
            refine z_cMv (is := [0, 1, 2, 3, 4, 5, 6, 7, 8, 9, 10, 11, 12, 13, 14]) (va_runV (As := [.int (nI r)]) (rest := []) ⟨hx, hb, hml, hown, hts⟩ (kX1_takeOver l dC dI cI cZ cH cJ h0 g0 o0 kT mk ho fl od today ps pr b0 gI gS gD bT bW bV bS oT oW oV oS un de fT fW fV fS iT tS sT sW sV sS tk r (by first | assumption | omega) H.size) (cwV 1 hts gX1_takePage_X1_takeOver rfl rfl rfl (by decide +kernel) ⟨Nat.le_of_ble_eq_true rfl, Nat.le_of_ble_eq_true rfl⟩) (zPreV (is := [0, 1, 2, 3, 4, 5, 6, 7, 8, 9, 10, 11, 12, 13, 14]) hK hP hD (by decide) rfl (va_recv hK hP (ci := 1) (q0 := 0) rfl rfl)) rfl rfl hl.1 rfl (lv_room (Nat.le_of_ble_eq_true rfl)) dX1_takePage_43 ⟨Nat.le_of_ble_eq_true rfl, Nat.le_of_ble_eq_true rfl⟩) hP hD hS hA rfl (by decide) rfl (fun H locs hP hD hS => ?_)
            have hP : va_P (dC, dI) vwCl ([(h0, .inr (1, [.ref g0, .ref o0, .int mk, .int ho, .int fl, .int od, .int today, .int (zls fT fS iT tS r), .int (nI r), .ref kT])), (g0, .inr (0, [.ref b0, .ref gI, .ref gS, .ref gD, .int un, .int de])), (b0, .inr (2, [.ref bT, .ref bW, .ref bV, .ref bS])), (bT, .inl (cZ, 20, .inl fT)), (bW, .inl (cI, 20, .inl fW)), (bV, .inl (cI, 20, .inl fV)), (bS, .inl (cI, 20, .inl fS)), (gI, .inl (cZ, 20, .inl iT)), (gS, .inl (cI, 20, .inl tS)), (o0, .inr (2, [.ref oT, .ref oW, .ref oV, .ref oS])), (oT, .inl (cZ, 20, .inl (upd sT r (if fT r = 0 then 0 else 1)))), (oW, .inl (cI, 20, .inl (if fT r = 0 then sW else upd sW r (fW r)))), (oV, .inl (cI, 20, .inl (if fT r = 0 then sV else upd sV r (fV r)))), (oS, .inl (cI, 20, .inl (if fT r = 0 then sS else upd sS r (fS r)))), (kT, .inl (cZ, 20, .inl (if fT r = 0 then tk else upd tk r 1)))]) H := hP
            have hD : va_D A ([(h0, .inr (1, [.ref g0, .ref o0, .int mk, .int ho, .int fl, .int od, .int today, .int (zls fT fS iT tS r), .int (nI r), .ref kT])), (g0, .inr (0, [.ref b0, .ref gI, .ref gS, .ref gD, .int un, .int de])), (b0, .inr (2, [.ref bT, .ref bW, .ref bV, .ref bS])), (bT, .inl (cZ, 20, .inl fT)), (bW, .inl (cI, 20, .inl fW)), (bV, .inl (cI, 20, .inl fV)), (bS, .inl (cI, 20, .inl fS)), (gI, .inl (cZ, 20, .inl iT)), (gS, .inl (cI, 20, .inl tS)), (o0, .inr (2, [.ref oT, .ref oW, .ref oV, .ref oS])), (oT, .inl (cZ, 20, .inl (upd sT r (if fT r = 0 then 0 else 1)))), (oW, .inl (cI, 20, .inl (if fT r = 0 then sW else upd sW r (fW r)))), (oV, .inl (cI, 20, .inl (if fT r = 0 then sV else upd sV r (fV r)))), (oS, .inl (cI, 20, .inl (if fT r = 0 then sS else upd sS r (fS r)))), (kT, .inl (cZ, 20, .inl (if fT r = 0 then tk else upd tk r 1)))]) := hD
            refine lv_iinc (v := nI (i + 1)) (lv' := [(2, .int (nI (i + 1))), (0, .ref h0), (1, .int today), (3, .int (nI r))]) hx hb dX1_takePage_46 hl (k := 2) rfl (z_1) (by decide) rfl (fun ls hl => ?_)
            refine lv_aload_n hx hb dX1_takePage_49 rfl (lv_at hl 1 rfl) ?_
            refine z_cRi (va_runV (As := []) (rest := []) ⟨hx, hb, hml, hown, hts⟩ (kX1_nextOfList l dC dI cI cZ cH cJ h0 g0 o0 kT mk ho fl od today (zls fT fS iT tS r) (nI r) b0 gI gS gD bT bW bV bS un de fT fS iT tS) (cwV 0 hts gX1_takePage_X1_nextOfList rfl rfl rfl (by decide +kernel) ⟨Nat.le_of_ble_eq_true rfl, Nat.le_of_ble_eq_true rfl⟩) (zPreR (is := [0, 1, 2, 3, 6, 7, 8]) hK hP rfl (va_recv hK hP (ci := 1) (q0 := 0) rfl rfl)) rfl rfl hl.1 rfl (lv_room (Nat.le_of_ble_eq_true rfl)) dX1_takePage_50 ⟨Nat.le_of_ble_eq_true rfl, Nat.le_of_ble_eq_true rfl⟩) ?_
            refine z_tv (v := (znx (zls fT fS iT tS) (if fl = 0 then mk else 0) (zls fT fS iT tS r) (nI r) 20).1) rfl ?_
            refine lv_istore_n (lv' := [(3, .int ((znx (zls fT fS iT tS) (if fl = 0 then mk else 0) (zls fT fS iT tS r) (nI r) 20).1)), (2, .int (nI (i + 1))), (0, .ref h0), (1, .int today)]) hx hb dX1_takePage_53 rfl hl (by decide) rfl (fun ls hl => ?_)
            refine lv_goto (tgt := 31) hx hb dX1_takePage_54 (by decide) ?_
            rw [zpg_s (x := (ps, pr, sT, sW, sV, sS, tk)) c_33 er hrr hk3] at hz
            exact ih (i + 1) (by omega) (by omega) (zls fT fS iT tS r) (nI r) (upd sT r (if fT r = 0 then 0 else 1)) (if fT r = 0 then sW else upd sW r (fW r)) (if fT r = 0 then sV else upd sV r (fV r)) (if fT r = 0 then sS else upd sS r (fS r)) (if fT r = 0 then tk else upd tk r 1) hz _ _ hP hD hS _ (lv_sub hl [2, 3, 1, 0] rfl)
    exact LOOP1 (3 + 1) 0 (by omega) (by omega) ps pr sT sW sV sS tk hsp _ _ hP hD hS _ (lv_cg (lv_sub (l' := [(0, .ref h0), (1, .int today), (2, .int 0), (3, .int ((znx (zls fT fS iT tS) (if fl = 0 then mk else 0) ps pr 20).1))]) hl [2, 3, 1, 0] rfl) (zl_k (zl_k (zl_c (rfl) (zl_k (rfl))))))
  · skip
    rw [ztp, if_neg c_7] at hsp
    refine lv_aload_n hx hb dX1_takePage_10 rfl (lv_at hl 0 rfl) ?_
    refine lv_aload_n hx hb dX1_takePage_11 rfl (lv_at hl 0 rfl) ?_
    refine va_get (D := (dC, dI)) (ci := 1) (v := .int fl) (C := RX1) (T := TX1) (N := 10) hx hb hts hiX1 hown hK hP 0 rfl rfl 4 (by decide) l33 (fun _ h9 => h9) rfl dX1_takePage_12 ?_
    refine lv_iload_n hx hb dX1_takePage_15 rfl (lv_at hl 1 rfl) ?_
    refine z_cMv (is := [0, 14]) (va_runV (As := [.int fl, .int today]) (rest := []) ⟨hx, hb, hml, hown, hts⟩ (kX1_begin l dC dI cI cZ cH cJ h0 g0 o0 kT mk ho fl od td ps pr tk fl (by first | assumption | omega) today s.heap.size) (cwV 2 hts gX1_takePage_X1_begin rfl rfl rfl (by decide +kernel) ⟨Nat.le_of_ble_eq_true rfl, Nat.le_of_ble_eq_true rfl⟩) (zPreV (is := [0, 14]) hK hP hD (by decide) rfl (va_recv hK hP (ci := 1) (q0 := 0) rfl rfl)) rfl rfl hl.1 rfl (lv_room (Nat.le_of_ble_eq_true rfl)) dX1_takePage_16 ⟨Nat.le_of_ble_eq_true rfl, Nat.le_of_ble_eq_true rfl⟩) hP hD hS hA rfl (by decide) rfl (fun H locs hP hD hS => ?_)
    have hP : va_P (dC, dI) vwCl ([(h0, .inr (1, [.ref g0, .ref o0, .int mk, .int 1, .int fl, .int today, .int today, .int (-1), .int (-1), .ref kT])), (g0, .inr (0, [.ref b0, .ref gI, .ref gS, .ref gD, .int un, .int de])), (b0, .inr (2, [.ref bT, .ref bW, .ref bV, .ref bS])), (bT, .inl (cZ, 20, .inl fT)), (bW, .inl (cI, 20, .inl fW)), (bV, .inl (cI, 20, .inl fV)), (bS, .inl (cI, 20, .inl fS)), (gI, .inl (cZ, 20, .inl iT)), (gS, .inl (cI, 20, .inl tS)), (o0, .inr (2, [.ref oT, .ref oW, .ref oV, .ref oS])), (oT, .inl (cZ, 20, .inl sT)), (oW, .inl (cI, 20, .inl sW)), (oV, .inl (cI, 20, .inl sV)), (oS, .inl (cI, 20, .inl sS)), (kT, .inl (cZ, 20, .inl (zclr tk 20)))]) H := hP
    have hD : va_D A ([(h0, .inr (1, [.ref g0, .ref o0, .int mk, .int 1, .int fl, .int today, .int today, .int (-1), .int (-1), .ref kT])), (g0, .inr (0, [.ref b0, .ref gI, .ref gS, .ref gD, .int un, .int de])), (b0, .inr (2, [.ref bT, .ref bW, .ref bV, .ref bS])), (bT, .inl (cZ, 20, .inl fT)), (bW, .inl (cI, 20, .inl fW)), (bV, .inl (cI, 20, .inl fV)), (bS, .inl (cI, 20, .inl fS)), (gI, .inl (cZ, 20, .inl iT)), (gS, .inl (cI, 20, .inl tS)), (o0, .inr (2, [.ref oT, .ref oW, .ref oV, .ref oS])), (oT, .inl (cZ, 20, .inl sT)), (oW, .inl (cI, 20, .inl sW)), (oV, .inl (cI, 20, .inl sV)), (oS, .inl (cI, 20, .inl sS)), (kT, .inl (cZ, 20, .inl (zclr tk 20)))]) := hD
    refine lv_aload_n hx hb dX1_takePage_19 rfl (lv_at hl 0 rfl) ?_
    refine lv_iload_n hx hb dX1_takePage_20 rfl (lv_at hl 1 rfl) ?_
    refine va_put (D := (dC, dI)) (ci := 1) (v := .int today) (ty := .int) (C := RX1) (T := TX1) (N := 10) hx hb hts hiX1 tyX1 tyX1_ok nmX1 hown hK hP hD hS 0 rfl rfl 6 (by decide) l39 (fun _ h9 => h9) rfl (by decide +kernel) (rfl) (rfl) (Nat.le_of_ble_eq_true rfl) dX1_takePage_21 (fun H locs hP hD hS => ?_)
    have hP : va_P (dC, dI) vwCl ([(h0, .inr (1, [.ref g0, .ref o0, .int mk, .int 1, .int fl, .int today, .int today, .int (-1), .int (-1), .ref kT])), (g0, .inr (0, [.ref b0, .ref gI, .ref gS, .ref gD, .int un, .int de])), (b0, .inr (2, [.ref bT, .ref bW, .ref bV, .ref bS])), (bT, .inl (cZ, 20, .inl fT)), (bW, .inl (cI, 20, .inl fW)), (bV, .inl (cI, 20, .inl fV)), (bS, .inl (cI, 20, .inl fS)), (gI, .inl (cZ, 20, .inl iT)), (gS, .inl (cI, 20, .inl tS)), (o0, .inr (2, [.ref oT, .ref oW, .ref oV, .ref oS])), (oT, .inl (cZ, 20, .inl sT)), (oW, .inl (cI, 20, .inl sW)), (oV, .inl (cI, 20, .inl sV)), (oS, .inl (cI, 20, .inl sS)), (kT, .inl (cZ, 20, .inl (zclr tk 20)))]) H := hP
    have hD : va_D A ([(h0, .inr (1, [.ref g0, .ref o0, .int mk, .int 1, .int fl, .int today, .int today, .int (-1), .int (-1), .ref kT])), (g0, .inr (0, [.ref b0, .ref gI, .ref gS, .ref gD, .int un, .int de])), (b0, .inr (2, [.ref bT, .ref bW, .ref bV, .ref bS])), (bT, .inl (cZ, 20, .inl fT)), (bW, .inl (cI, 20, .inl fW)), (bV, .inl (cI, 20, .inl fV)), (bS, .inl (cI, 20, .inl fS)), (gI, .inl (cZ, 20, .inl iT)), (gS, .inl (cI, 20, .inl tS)), (o0, .inr (2, [.ref oT, .ref oW, .ref oV, .ref oS])), (oT, .inl (cZ, 20, .inl sT)), (oW, .inl (cI, 20, .inl sW)), (oV, .inl (cI, 20, .inl sV)), (oS, .inl (cI, 20, .inl sS)), (kT, .inl (cZ, 20, .inl (zclr tk 20)))]) := hD
    refine lv_iconst (v := 0) hx hb dX1_takePage_24 (by decide) ?_
    refine lv_istore_n (lv' := [(2, .int 0), (0, .ref h0), (1, .int today)]) hx hb dX1_takePage_25 rfl hl (by decide) rfl (fun ls hl => ?_)
    refine lv_aload_n hx hb dX1_takePage_26 rfl (lv_at hl 1 rfl) ?_
    refine z_cRi (va_runV (As := []) (rest := []) ⟨hx, hb, hml, hown, hts⟩ (kX1_nextOfList l dC dI cI cZ cH cJ h0 g0 o0 kT mk 1 fl today today (-1) (-1) b0 gI gS gD bT bW bV bS un de fT fS iT tS) (cwV 0 hts gX1_takePage_X1_nextOfList rfl rfl rfl (by decide +kernel) ⟨Nat.le_of_ble_eq_true rfl, Nat.le_of_ble_eq_true rfl⟩) (zPreR (is := [0, 1, 2, 3, 6, 7, 8]) hK hP rfl (va_recv hK hP (ci := 1) (q0 := 0) rfl rfl)) rfl rfl hl.1 rfl (lv_room (Nat.le_of_ble_eq_true rfl)) dX1_takePage_27 ⟨Nat.le_of_ble_eq_true rfl, Nat.le_of_ble_eq_true rfl⟩) ?_
    refine z_tv (v := (znx (zls fT fS iT tS) (if fl = 0 then mk else 0) (-1) (-1) 20).1) rfl ?_
    refine lv_istore_n (lv' := [(3, .int ((znx (zls fT fS iT tS) (if fl = 0 then mk else 0) (-1) (-1) 20).1)), (2, .int 0), (0, .ref h0), (1, .int today)]) hx hb dX1_takePage_30 rfl hl (by decide) rfl (fun ls hl => ?_)
    have LOOP2 : ∀ (n i : Nat), i ≤ 3 → 3 < i + n → ∀ (ps pr : Int32) (sT sW sV sS tk : zI), zte (zls fT fS iT tS) (if fl = 0 then mk else 0) un mk 1 fl today (zpg fT fW fV fS (zls fT fS iT tS) (if fl = 0 then mk else 0) (3 - i) (ps, pr, sT, sW, sV, sS, tk) (nI i)) = (res', mk', ho', od', ps', pr', sT', sW', sV', sS', tk') → ∀ (H : Heap) (locs : List Loc), va_P (dC, dI) vwCl ([(h0, .inr (1, [.ref g0, .ref o0, .int mk, .int 1, .int fl, .int today, .int today, .int ps, .int pr, .ref kT])), (g0, .inr (0, [.ref b0, .ref gI, .ref gS, .ref gD, .int un, .int de])), (b0, .inr (2, [.ref bT, .ref bW, .ref bV, .ref bS])), (bT, .inl (cZ, 20, .inl fT)), (bW, .inl (cI, 20, .inl fW)), (bV, .inl (cI, 20, .inl fV)), (bS, .inl (cI, 20, .inl fS)), (gI, .inl (cZ, 20, .inl iT)), (gS, .inl (cI, 20, .inl tS)), (o0, .inr (2, [.ref oT, .ref oW, .ref oV, .ref oS])), (oT, .inl (cZ, 20, .inl sT)), (oW, .inl (cI, 20, .inl sW)), (oV, .inl (cI, 20, .inl sV)), (oS, .inl (cI, 20, .inl sS)), (kT, .inl (cZ, 20, .inl tk))]) H → va_D A ([(h0, .inr (1, [.ref g0, .ref o0, .int mk, .int 1, .int fl, .int today, .int today, .int ps, .int pr, .ref kT])), (g0, .inr (0, [.ref b0, .ref gI, .ref gS, .ref gD, .int un, .int de])), (b0, .inr (2, [.ref bT, .ref bW, .ref bV, .ref bS])), (bT, .inl (cZ, 20, .inl fT)), (bW, .inl (cI, 20, .inl fW)), (bV, .inl (cI, 20, .inl fV)), (bS, .inl (cI, 20, .inl fS)), (gI, .inl (cZ, 20, .inl iT)), (gS, .inl (cI, 20, .inl tS)), (o0, .inr (2, [.ref oT, .ref oW, .ref oV, .ref oS])), (oT, .inl (cZ, 20, .inl sT)), (oW, .inl (cI, 20, .inl sW)), (oV, .inl (cI, 20, .inl sV)), (oS, .inl (cI, 20, .inl sS)), (kT, .inl (cZ, 20, .inl tk))]) → va_S A s.heap H locs → ∀ (ls : Array Slot), lv_has ls 4 [(0, .ref h0), (1, .int today), (2, .int (nI i)), (3, .int ((znx (zls fT fS iT tS) (if fl = 0 then mk else 0) ps pr 20).1))] → W p l e (headSpec wsX1_takePage ({ frames := 3, cells := 0, slots := 0, locals := 70 })).room s m ([.ref h0, .int today] : List Value).toArray below meth c H locs 0 0 (MQ below (zQi dC dI res' ([(h0, .inr (1, [.ref g0, .ref o0, .int mk', .int ho', .int fl, .int od', .int today, .int ps', .int pr', .ref kT])), (g0, .inr (0, [.ref b0, .ref gI, .ref gS, .ref gD, .int un, .int de])), (b0, .inr (2, [.ref bT, .ref bW, .ref bV, .ref bS])), (bT, .inl (cZ, 20, .inl fT)), (bW, .inl (cI, 20, .inl fW)), (bV, .inl (cI, 20, .inl fV)), (bS, .inl (cI, 20, .inl fS)), (gI, .inl (cZ, 20, .inl iT)), (gS, .inl (cI, 20, .inl tS)), (o0, .inr (2, [.ref oT, .ref oW, .ref oV, .ref oS])), (oT, .inl (cZ, 20, .inl sT')), (oW, .inl (cI, 20, .inl sW')), (oV, .inl (cI, 20, .inl sV')), (oS, .inl (cI, 20, .inl sS')), (kT, .inl (cZ, 20, .inl tk'))]) A) ([.ref h0, .int today] : List Value).toArray s 0 0 A) (F0 m 31 ls []) := by
      intro n
      induction n with
      | zero => intro i h1 h2; exact absurd h2 (by omega)
      | succ n ih =>
        intro i hi hin ps pr sT sW sV sS tk hz H locs hP hD hS ls hl
        refine lv_iload_n hx hb dX1_takePage_31 rfl (lv_at hl 3 rfl) ?_
        refine lv_iconst (v := (-1)) hx hb dX1_takePage_32 (by decide) ?_
        refine lv_icmp_eq (tgt := 57) hx hb dX1_takePage_33 (by decide) (fun c_33 => ?_) (fun c_33 => ?_)
        · skip
          rw [zpg_e (x := (ps, pr, sT, sW, sV, sS, tk)) c_33, zte, if_pos c_33] at hz
          simp only [Prod.mk.injEq] at hz
          obtain ⟨e1, e2, e3, e4, e5, e6, e7, e8, e9, e10, e11⟩ := hz
          refine lv_iload_n hx hb dX1_takePage_57 rfl (lv_at hl 3 rfl) ?_
          refine lv_iconst (v := (-1)) hx hb dX1_takePage_58 (by decide) ?_
          refine lv_icmp_ne (tgt := 66) hx hb dX1_takePage_59 (by decide) (fun c_59 => ?_) (fun c_59 => ?_)
          · exact absurd c_33 c_59
          · skip
            refine lv_aload_n hx hb dX1_takePage_62 rfl (lv_at hl 0 rfl) ?_
            refine z_cMv (is := [0, 1, 9, 10, 14]) (va_runV (As := []) (rest := []) ⟨hx, hb, hml, hown, hts⟩ (kX1_finish l dC dI cI cZ cH cJ h0 g0 o0 kT mk 1 fl today today ps pr b0 gI gS gD oT oW oV oS un de sT tk H.size) (cwV 0 hts gX1_takePage_X1_finish rfl rfl rfl (by decide +kernel) ⟨Nat.le_of_ble_eq_true rfl, Nat.le_of_ble_eq_true rfl⟩) (zPreV (is := [0, 1, 9, 10, 14]) hK hP hD (by decide) rfl (va_recv hK hP (ci := 1) (q0 := 0) rfl rfl)) rfl rfl hl.1 rfl (lv_room (Nat.le_of_ble_eq_true rfl)) dX1_takePage_63 ⟨Nat.le_of_ble_eq_true rfl, Nat.le_of_ble_eq_true rfl⟩) hP hD hS hA rfl (by decide) rfl (fun H locs hP hD hS => ?_)
            have hP : va_P (dC, dI) vwCl ([(h0, .inr (1, [.ref g0, .ref o0, .int (zst un today), .int 0, .int fl, .int today, .int today, .int ps, .int pr, .ref kT])), (g0, .inr (0, [.ref b0, .ref gI, .ref gS, .ref gD, .int un, .int de])), (b0, .inr (2, [.ref bT, .ref bW, .ref bV, .ref bS])), (bT, .inl (cZ, 20, .inl fT)), (bW, .inl (cI, 20, .inl fW)), (bV, .inl (cI, 20, .inl fV)), (bS, .inl (cI, 20, .inl fS)), (gI, .inl (cZ, 20, .inl iT)), (gS, .inl (cI, 20, .inl tS)), (o0, .inr (2, [.ref oT, .ref oW, .ref oV, .ref oS])), (oT, .inl (cZ, 20, .inl (if fl = 0 then sT else zdrp sT tk 20))), (oW, .inl (cI, 20, .inl sW)), (oV, .inl (cI, 20, .inl sV)), (oS, .inl (cI, 20, .inl sS)), (kT, .inl (cZ, 20, .inl tk))]) H := hP
            have hD : va_D A ([(h0, .inr (1, [.ref g0, .ref o0, .int (zst un today), .int 0, .int fl, .int today, .int today, .int ps, .int pr, .ref kT])), (g0, .inr (0, [.ref b0, .ref gI, .ref gS, .ref gD, .int un, .int de])), (b0, .inr (2, [.ref bT, .ref bW, .ref bV, .ref bS])), (bT, .inl (cZ, 20, .inl fT)), (bW, .inl (cI, 20, .inl fW)), (bV, .inl (cI, 20, .inl fV)), (bS, .inl (cI, 20, .inl fS)), (gI, .inl (cZ, 20, .inl iT)), (gS, .inl (cI, 20, .inl tS)), (o0, .inr (2, [.ref oT, .ref oW, .ref oV, .ref oS])), (oT, .inl (cZ, 20, .inl (if fl = 0 then sT else zdrp sT tk 20))), (oW, .inl (cI, 20, .inl sW)), (oV, .inl (cI, 20, .inl sV)), (oS, .inl (cI, 20, .inl sS)), (kT, .inl (cZ, 20, .inl tk))]) := hD
            refine lv_iload_n hx hb dX1_takePage_66 rfl (lv_at hl 2 rfl) ?_
            refine z_tv (v := res') (e1) ?_
            have hP := zP_eq (ws' := [(h0, .inr (1, [.ref g0, .ref o0, .int mk', .int ho', .int fl, .int od', .int today, .int ps', .int pr', .ref kT])), (g0, .inr (0, [.ref b0, .ref gI, .ref gS, .ref gD, .int un, .int de])), (b0, .inr (2, [.ref bT, .ref bW, .ref bV, .ref bS])), (bT, .inl (cZ, 20, .inl fT)), (bW, .inl (cI, 20, .inl fW)), (bV, .inl (cI, 20, .inl fV)), (bS, .inl (cI, 20, .inl fS)), (gI, .inl (cZ, 20, .inl iT)), (gS, .inl (cI, 20, .inl tS)), (o0, .inr (2, [.ref oT, .ref oW, .ref oV, .ref oS])), (oT, .inl (cZ, 20, .inl sT')), (oW, .inl (cI, 20, .inl sW')), (oV, .inl (cI, 20, .inl sV')), (oS, .inl (cI, 20, .inl sS')), (kT, .inl (cZ, 20, .inl tk'))]) hP (zw_o (zv_k (zv_k (zv_c (e2) (zv_c (e3) (zv_k (zv_c (e4) (zv_k (zv_c (e5) (zv_c (e6) (zv_k (rfl))))))))))) (zw_k (zw_k (zw_k (zw_k (zw_k (zw_k (zw_k (zw_k (zw_k (zw_a (e7) (zw_a (e8) (zw_a (e9) (zw_a (e10) (zw_a (e11) (rfl))))))))))))))))
            have hD := zD_eq (ws' := [(h0, .inr (1, [.ref g0, .ref o0, .int mk', .int ho', .int fl, .int od', .int today, .int ps', .int pr', .ref kT])), (g0, .inr (0, [.ref b0, .ref gI, .ref gS, .ref gD, .int un, .int de])), (b0, .inr (2, [.ref bT, .ref bW, .ref bV, .ref bS])), (bT, .inl (cZ, 20, .inl fT)), (bW, .inl (cI, 20, .inl fW)), (bV, .inl (cI, 20, .inl fV)), (bS, .inl (cI, 20, .inl fS)), (gI, .inl (cZ, 20, .inl iT)), (gS, .inl (cI, 20, .inl tS)), (o0, .inr (2, [.ref oT, .ref oW, .ref oV, .ref oS])), (oT, .inl (cZ, 20, .inl sT')), (oW, .inl (cI, 20, .inl sW')), (oV, .inl (cI, 20, .inl sV')), (oS, .inl (cI, 20, .inl sS')), (kT, .inl (cZ, 20, .inl tk'))]) hD (zw_o (zv_k (zv_k (zv_c (e2) (zv_c (e3) (zv_k (zv_c (e4) (zv_k (zv_c (e5) (zv_c (e6) (zv_k (rfl))))))))))) (zw_k (zw_k (zw_k (zw_k (zw_k (zw_k (zw_k (zw_k (zw_k (zw_a (e7) (zw_a (e8) (zw_a (e9) (zw_a (e10) (zw_a (e11) (rfl))))))))))))))))
            exact W.iret hx hb hr (fun t ht hW => ⟨rfl, ⟨by rw [ht]; exact hP, hD⟩, hS.F ht⟩) hS.2.2 dX1_takePage_67
        · skip
          obtain ⟨r, hrr, er⟩ := znx_ne c_33
          refine lv_iload_n hx hb dX1_takePage_36 rfl (lv_at hl 2 rfl) ?_
          refine lv_iconst (v := 3) hx hb dX1_takePage_37 (by decide) ?_
          refine lv_icmp_ge (tgt := 57) hx hb dX1_takePage_38 (by decide) (fun c_38 => ?_) (fun c_38 => ?_)
          · skip
            have e20 : i = 3 := z_ge (n := 3) hi (by decide) c_38
            subst e20
            rw [Nat.sub_self, zpg, zte, if_neg c_33] at hz
            simp only [Prod.mk.injEq] at hz
            obtain ⟨e1, e2, e3, e4, e5, e6, e7, e8, e9, e10, e11⟩ := hz
            refine lv_iload_n hx hb dX1_takePage_57 rfl (lv_at hl 3 rfl) ?_
            refine lv_iconst (v := (-1)) hx hb dX1_takePage_58 (by decide) ?_
            refine lv_icmp_ne (tgt := 66) hx hb dX1_takePage_59 (by decide) (fun c_59 => ?_) (fun c_59 => ?_)
            · skip
              refine lv_iload_n hx hb dX1_takePage_66 rfl (lv_at hl 2 rfl) ?_
              refine z_tv (v := res') (e1) ?_
              have hP := zP_eq (ws' := [(h0, .inr (1, [.ref g0, .ref o0, .int mk', .int ho', .int fl, .int od', .int today, .int ps', .int pr', .ref kT])), (g0, .inr (0, [.ref b0, .ref gI, .ref gS, .ref gD, .int un, .int de])), (b0, .inr (2, [.ref bT, .ref bW, .ref bV, .ref bS])), (bT, .inl (cZ, 20, .inl fT)), (bW, .inl (cI, 20, .inl fW)), (bV, .inl (cI, 20, .inl fV)), (bS, .inl (cI, 20, .inl fS)), (gI, .inl (cZ, 20, .inl iT)), (gS, .inl (cI, 20, .inl tS)), (o0, .inr (2, [.ref oT, .ref oW, .ref oV, .ref oS])), (oT, .inl (cZ, 20, .inl sT')), (oW, .inl (cI, 20, .inl sW')), (oV, .inl (cI, 20, .inl sV')), (oS, .inl (cI, 20, .inl sS')), (kT, .inl (cZ, 20, .inl tk'))]) hP (zw_o (zv_k (zv_k (zv_c (e2) (zv_c (e3) (zv_k (zv_c (e4) (zv_k (zv_c (e5) (zv_c (e6) (zv_k (rfl))))))))))) (zw_k (zw_k (zw_k (zw_k (zw_k (zw_k (zw_k (zw_k (zw_k (zw_a (e7) (zw_a (e8) (zw_a (e9) (zw_a (e10) (zw_a (e11) (rfl))))))))))))))))
              have hD := zD_eq (ws' := [(h0, .inr (1, [.ref g0, .ref o0, .int mk', .int ho', .int fl, .int od', .int today, .int ps', .int pr', .ref kT])), (g0, .inr (0, [.ref b0, .ref gI, .ref gS, .ref gD, .int un, .int de])), (b0, .inr (2, [.ref bT, .ref bW, .ref bV, .ref bS])), (bT, .inl (cZ, 20, .inl fT)), (bW, .inl (cI, 20, .inl fW)), (bV, .inl (cI, 20, .inl fV)), (bS, .inl (cI, 20, .inl fS)), (gI, .inl (cZ, 20, .inl iT)), (gS, .inl (cI, 20, .inl tS)), (o0, .inr (2, [.ref oT, .ref oW, .ref oV, .ref oS])), (oT, .inl (cZ, 20, .inl sT')), (oW, .inl (cI, 20, .inl sW')), (oV, .inl (cI, 20, .inl sV')), (oS, .inl (cI, 20, .inl sS')), (kT, .inl (cZ, 20, .inl tk'))]) hD (zw_o (zv_k (zv_k (zv_c (e2) (zv_c (e3) (zv_k (zv_c (e4) (zv_k (zv_c (e5) (zv_c (e6) (zv_k (rfl))))))))))) (zw_k (zw_k (zw_k (zw_k (zw_k (zw_k (zw_k (zw_k (zw_k (zw_a (e7) (zw_a (e8) (zw_a (e9) (zw_a (e10) (zw_a (e11) (rfl))))))))))))))))
              exact W.iret hx hb hr (fun t ht hW => ⟨rfl, ⟨by rw [ht]; exact hP, hD⟩, hS.F ht⟩) hS.2.2 dX1_takePage_67
            · exact absurd c_59 c_33
          · skip
            have hk3 : i < 3 := z_lt (n := 3) hi (by decide) c_38
            rw [er] at hl
            refine lv_aload_n hx hb dX1_takePage_41 rfl (lv_at hl 0 rfl) ?_
            refine lv_iload_n hx hb dX1_takePage_42 rfl (lv_at hl 3 rfl) ?_
            refine z_cMv (is := [0, 1, 2, 3, 4, 5, 6, 7, 8, 9, 10, 11, 12, 13, 14]) (va_runV (As := [.int (nI r)]) (rest := []) ⟨hx, hb, hml, hown, hts⟩ (kX1_takeOver l dC dI cI cZ cH cJ h0 g0 o0 kT mk 1 fl today today ps pr b0 gI gS gD bT bW bV bS oT oW oV oS un de fT fW fV fS iT tS sT sW sV sS tk r (by first | assumption | omega) H.size) (cwV 1 hts gX1_takePage_X1_takeOver rfl rfl rfl (by decide +kernel) ⟨Nat.le_of_ble_eq_true rfl, Nat.le_of_ble_eq_true rfl⟩) (zPreV (is := [0, 1, 2, 3, 4, 5, 6, 7, 8, 9, 10, 11, 12, 13, 14]) hK hP hD (by decide) rfl (va_recv hK hP (ci := 1) (q0 := 0) rfl rfl)) rfl rfl hl.1 rfl (lv_room (Nat.le_of_ble_eq_true rfl)) dX1_takePage_43 ⟨Nat.le_of_ble_eq_true rfl, Nat.le_of_ble_eq_true rfl⟩) hP hD hS hA rfl (by decide) rfl (fun H locs hP hD hS => ?_)
            have hP : va_P (dC, dI) vwCl ([(h0, .inr (1, [.ref g0, .ref o0, .int mk, .int 1, .int fl, .int today, .int today, .int (zls fT fS iT tS r), .int (nI r), .ref kT])), (g0, .inr (0, [.ref b0, .ref gI, .ref gS, .ref gD, .int un, .int de])), (b0, .inr (2, [.ref bT, .ref bW, .ref bV, .ref bS])), (bT, .inl (cZ, 20, .inl fT)), (bW, .inl (cI, 20, .inl fW)), (bV, .inl (cI, 20, .inl fV)), (bS, .inl (cI, 20, .inl fS)), (gI, .inl (cZ, 20, .inl iT)), (gS, .inl (cI, 20, .inl tS)), (o0, .inr (2, [.ref oT, .ref oW, .ref oV, .ref oS])), (oT, .inl (cZ, 20, .inl (upd sT r (if fT r = 0 then 0 else 1)))), (oW, .inl (cI, 20, .inl (if fT r = 0 then sW else upd sW r (fW r)))), (oV, .inl (cI, 20, .inl (if fT r = 0 then sV else upd sV r (fV r)))), (oS, .inl (cI, 20, .inl (if fT r = 0 then sS else upd sS r (fS r)))), (kT, .inl (cZ, 20, .inl (if fT r = 0 then tk else upd tk r 1)))]) H := hP
            have hD : va_D A ([(h0, .inr (1, [.ref g0, .ref o0, .int mk, .int 1, .int fl, .int today, .int today, .int (zls fT fS iT tS r), .int (nI r), .ref kT])), (g0, .inr (0, [.ref b0, .ref gI, .ref gS, .ref gD, .int un, .int de])), (b0, .inr (2, [.ref bT, .ref bW, .ref bV, .ref bS])), (bT, .inl (cZ, 20, .inl fT)), (bW, .inl (cI, 20, .inl fW)), (bV, .inl (cI, 20, .inl fV)), (bS, .inl (cI, 20, .inl fS)), (gI, .inl (cZ, 20, .inl iT)), (gS, .inl (cI, 20, .inl tS)), (o0, .inr (2, [.ref oT, .ref oW, .ref oV, .ref oS])), (oT, .inl (cZ, 20, .inl (upd sT r (if fT r = 0 then 0 else 1)))), (oW, .inl (cI, 20, .inl (if fT r = 0 then sW else upd sW r (fW r)))), (oV, .inl (cI, 20, .inl (if fT r = 0 then sV else upd sV r (fV r)))), (oS, .inl (cI, 20, .inl (if fT r = 0 then sS else upd sS r (fS r)))), (kT, .inl (cZ, 20, .inl (if fT r = 0 then tk else upd tk r 1)))]) := hD
            refine lv_iinc (v := nI (i + 1)) (lv' := [(2, .int (nI (i + 1))), (0, .ref h0), (1, .int today), (3, .int (nI r))]) hx hb dX1_takePage_46 hl (k := 2) rfl (z_1) (by decide) rfl (fun ls hl => ?_)
            refine lv_aload_n hx hb dX1_takePage_49 rfl (lv_at hl 1 rfl) ?_
            refine z_cRi (va_runV (As := []) (rest := []) ⟨hx, hb, hml, hown, hts⟩ (kX1_nextOfList l dC dI cI cZ cH cJ h0 g0 o0 kT mk 1 fl today today (zls fT fS iT tS r) (nI r) b0 gI gS gD bT bW bV bS un de fT fS iT tS) (cwV 0 hts gX1_takePage_X1_nextOfList rfl rfl rfl (by decide +kernel) ⟨Nat.le_of_ble_eq_true rfl, Nat.le_of_ble_eq_true rfl⟩) (zPreR (is := [0, 1, 2, 3, 6, 7, 8]) hK hP rfl (va_recv hK hP (ci := 1) (q0 := 0) rfl rfl)) rfl rfl hl.1 rfl (lv_room (Nat.le_of_ble_eq_true rfl)) dX1_takePage_50 ⟨Nat.le_of_ble_eq_true rfl, Nat.le_of_ble_eq_true rfl⟩) ?_
            refine z_tv (v := (znx (zls fT fS iT tS) (if fl = 0 then mk else 0) (zls fT fS iT tS r) (nI r) 20).1) rfl ?_
            refine lv_istore_n (lv' := [(3, .int ((znx (zls fT fS iT tS) (if fl = 0 then mk else 0) (zls fT fS iT tS r) (nI r) 20).1)), (2, .int (nI (i + 1))), (0, .ref h0), (1, .int today)]) hx hb dX1_takePage_53 rfl hl (by decide) rfl (fun ls hl => ?_)
            refine lv_goto (tgt := 31) hx hb dX1_takePage_54 (by decide) ?_
            rw [zpg_s (x := (ps, pr, sT, sW, sV, sS, tk)) c_33 er hrr hk3] at hz
            exact ih (i + 1) (by omega) (by omega) (zls fT fS iT tS r) (nI r) (upd sT r (if fT r = 0 then 0 else 1)) (if fT r = 0 then sW else upd sW r (fW r)) (if fT r = 0 then sV else upd sV r (fV r)) (if fT r = 0 then sS else upd sS r (fS r)) (if fT r = 0 then tk else upd tk r 1) hz _ _ hP hD hS _ (lv_sub hl [2, 3, 1, 0] rfl)
    exact LOOP2 (3 + 1) 0 (by omega) (by omega) (-1) (-1) sT sW sV sS (zclr tk 20) hsp _ _ hP hD hS _ (lv_cg (lv_sub (l' := [(0, .ref h0), (1, .int today), (2, .int 0), (3, .int ((znx (zls fT fS iT tS) (if fl = 0 then mk else 0) (-1) (-1) 20).1))]) hl [2, 3, 1, 0] rfl) (zl_k (zl_k (zl_c (rfl) (zl_k (rfl))))))
end
section
theorem yali_nl (uH xW xV xS uW uV uS : zI) (k : Nat) : narrow .boolean (.int (yali uH xW xV xS uW uV uS k)) = .int (yali uH xW xV xS uW uV uS k) := by unfold yali; split <;> rfl
set_option maxHeartbeats 4000000 in
set_option maxRecDepth 100000 in
/-- Model.thrown -/
theorem kX4_thrown (l : Launch) (dC : Nat → ClassId) (dI : Nat → Nat → Nat) (cI cZ cH cJ : ClassId) (ma : Nat → Nat) (now : Int32) (th : Int32) : Met l yX4_thrown wsX4_thrown ({ frames := 0, cells := 0, slots := 0, locals := 0 }) (zRc dC dI (zTy cI cZ cH cJ) [.ref (ma 0)] ([(ma 0, .inr (4, [.int now, .ref (ma 1), .ref (ma 2), .ref (ma 3), .ref (ma 4), .ref (ma 5), .ref (ma 6), .ref (ma 7), .ref (ma 8), .ref (ma 9), .ref (ma 10), .ref (ma 11), .ref (ma 12), .ref (ma 13), .ref (ma 14), .ref (ma 15), .ref (ma 16), .ref (ma 17), .ref (ma 18), .ref (ma 19), .ref (ma 20), .int th]))])) (zSi th) 0 0 (fun _ => False) := by
  refine Met.ofW (cc := cX4_thrown) (maxL := 1) (ret := (some .int)) (by decide) rfl ?_
  intro p e s m args below meth c s₁ B hml hv
  obtain ⟨rfl, hP, hK⟩ := hv
  have hx := B.exec
  have hb := B.bytes
  have hr := B.returns
  have hts := atoms_spec (ws := wsX4_thrown) B.pre
  have hown : s.vm.findClass RX4 = some m.cls := findClass_of_methodNamed B.named
  have hlocks := B.notSynchronized
  have hl := lv_entry ([.ref (ma 0)]) (n := 1) (Nat.le_of_ble_eq_true rfl)
  rw [lg_entry_eq]
  generalize (lg_sl ([.ref (ma 0)]) ++ List.replicate (1 - (lg_sl ([.ref (ma 0)])).length) Slot.unset).toArray = ls at hl ⊢
  have hl : lv_has ls 1 [(0, .ref (ma 0))] := hl
  have hiX4 : ∀ w ∈ wsX40, w ∈ wsX4_thrown := by decide +kernel
  have l71 := hts (.fieldLink RX4 71 "CatalogueHarvesterModel" "thrown" "I") (by decide +kernel)
  refine lv_aload_n hx hb dX4_thrown_0 rfl (lv_at hl 0 rfl) ?_
  refine va_get (D := (dC, dI)) (ci := 4) (v := .int th) (C := RX4) (T := TX4) (N := 22) hx hb hts hiX4 hown hK hP 0 rfl rfl 21 (by decide) l71 (fun _ h9 => h9) rfl dX4_thrown_1 ?_
  exact W.iret hx hb hr (fun t ht hW => ⟨rfl, ht⟩) (fun _ h => nomatch h) dX4_thrown_4
set_option maxHeartbeats 4000000 in
set_option maxRecDepth 100000 in
/-- Model.goes -/
theorem kX4_goes (l : Launch) (dC : Nat → ClassId) (dI : Nat → Nat → Nat) (cI cZ cH cJ : ClassId) (ma : Nat → Nat) (now : Int32) (th : Int32) (w : Int32) (sz : Nat) : Met l yX4_goes wsX4_goes ({ frames := 0, cells := 0, slots := 0, locals := 0 }) (zPc dC dI (zTy cI cZ cH cJ) [.ref (ma 0), .int w] sz ([(ma 0, .inr (4, [.int now, .ref (ma 1), .ref (ma 2), .ref (ma 3), .ref (ma 4), .ref (ma 5), .ref (ma 6), .ref (ma 7), .ref (ma 8), .ref (ma 9), .ref (ma 10), .ref (ma 11), .ref (ma 12), .ref (ma 13), .ref (ma 14), .ref (ma 15), .ref (ma 16), .ref (ma 17), .ref (ma 18), .ref (ma 19), .ref (ma 20), .int th]))])) (zQi dC dI (if w = 0 then (1 : Int32) else 0) ([(ma 0, .inr (4, [.int now, .ref (ma 1), .ref (ma 2), .ref (ma 3), .ref (ma 4), .ref (ma 5), .ref (ma 6), .ref (ma 7), .ref (ma 8), .ref (ma 9), .ref (ma 10), .ref (ma 11), .ref (ma 12), .ref (ma 13), .ref (ma 14), .ref (ma 15), .ref (ma 16), .ref (ma 17), .ref (ma 18), .ref (ma 19), .ref (ma 20), .int w]))]) (va_A ([(ma 0, .inr (4, [.int now, .ref (ma 1), .ref (ma 2), .ref (ma 3), .ref (ma 4), .ref (ma 5), .ref (ma 6), .ref (ma 7), .ref (ma 8), .ref (ma 9), .ref (ma 10), .ref (ma 11), .ref (ma 12), .ref (ma 13), .ref (ma 14), .ref (ma 15), .ref (ma 16), .ref (ma 17), .ref (ma 18), .ref (ma 19), .ref (ma 20), .int th]))]) sz)) 0 0 (va_A ([(ma 0, .inr (4, [.int now, .ref (ma 1), .ref (ma 2), .ref (ma 3), .ref (ma 4), .ref (ma 5), .ref (ma 6), .ref (ma 7), .ref (ma 8), .ref (ma 9), .ref (ma 10), .ref (ma 11), .ref (ma 12), .ref (ma 13), .ref (ma 14), .ref (ma 15), .ref (ma 16), .ref (ma 17), .ref (ma 18), .ref (ma 19), .ref (ma 20), .int th]))]) sz) := by
  refine Met.ofW (cc := cX4_goes) (maxL := 2) (ret := (some .boolean)) (by decide) rfl ?_
  intro p e s m args below meth c s₁ B hml hv
  obtain ⟨rfl, hsz, hP, hK, hD0⟩ := hv
  have hx := B.exec
  have hb := B.bytes
  have hr := B.returns
  have hts := atoms_spec (ws := wsX4_goes) B.pre
  have hown : s.vm.findClass RX4 = some m.cls := findClass_of_methodNamed B.named
  have hlocks := B.notSynchronized
  subst hsz
  have hD := hD0.self (sz := s.heap.size)
  generalize hAe : va_A ([(ma 0, .inr (4, [.int now, .ref (ma 1), .ref (ma 2), .ref (ma 3), .ref (ma 4), .ref (ma 5), .ref (ma 6), .ref (ma 7), .ref (ma 8), .ref (ma 9), .ref (ma 10), .ref (ma 11), .ref (ma 12), .ref (ma 13), .ref (ma 14), .ref (ma 15), .ref (ma 16), .ref (ma 17), .ref (ma 18), .ref (ma 19), .ref (ma 20), .int th]))]) s.heap.size = A at hD ⊢
  have hA : ∀ q : Nat, s.heap.size ≤ q → A q := fun q h => by rw [← hAe]; exact Or.inr h
  have hS : va_S A s.heap s.heap [] := va_S.rf
  have hl := lv_entry ([.ref (ma 0), .int w]) (n := 2) (Nat.le_of_ble_eq_true rfl)
  rw [lg_entry_eq]
  generalize (lg_sl ([.ref (ma 0), .int w]) ++ List.replicate (2 - (lg_sl ([.ref (ma 0), .int w])).length) Slot.unset).toArray = ls at hl ⊢
  have hl : lv_has ls 2 [(0, .ref (ma 0)), (1, .int w)] := hl
  have hiX4 : ∀ w ∈ wsX40, w ∈ wsX4_goes := by decide +kernel
  have l71 := hts (.fieldLink RX4 71 "CatalogueHarvesterModel" "thrown" "I") (by decide +kernel)
  refine lv_aload_n hx hb dX4_goes_0 rfl (lv_at hl 0 rfl) ?_
  refine lv_iload_n hx hb dX4_goes_1 rfl (lv_at hl 1 rfl) ?_
  refine va_put (D := (dC, dI)) (ci := 4) (v := .int w) (ty := .int) (C := RX4) (T := TX4) (N := 22) hx hb hts hiX4 tyX4 tyX4_ok nmX4 hown hK hP hD hS 0 rfl rfl 21 (by decide) l71 (fun _ h9 => h9) rfl (by decide +kernel) (rfl) (rfl) (Nat.le_of_ble_eq_true rfl) dX4_goes_2 (fun H locs hP hD hS => ?_)
  have hP : va_P (dC, dI) vwCl ([(ma 0, .inr (4, [.int now, .ref (ma 1), .ref (ma 2), .ref (ma 3), .ref (ma 4), .ref (ma 5), .ref (ma 6), .ref (ma 7), .ref (ma 8), .ref (ma 9), .ref (ma 10), .ref (ma 11), .ref (ma 12), .ref (ma 13), .ref (ma 14), .ref (ma 15), .ref (ma 16), .ref (ma 17), .ref (ma 18), .ref (ma 19), .ref (ma 20), .int w]))]) H := hP
  have hD : va_D A ([(ma 0, .inr (4, [.int now, .ref (ma 1), .ref (ma 2), .ref (ma 3), .ref (ma 4), .ref (ma 5), .ref (ma 6), .ref (ma 7), .ref (ma 8), .ref (ma 9), .ref (ma 10), .ref (ma 11), .ref (ma 12), .ref (ma 13), .ref (ma 14), .ref (ma 15), .ref (ma 16), .ref (ma 17), .ref (ma 18), .ref (ma 19), .ref (ma 20), .int w]))]) := hD
  refine lv_iload_n hx hb dX4_goes_5 rfl (lv_at hl 1 rfl) ?_
  refine lv_if_ne (tgt := 13) hx hb dX4_goes_6 (by decide) (fun c_6 => ?_) (fun c_6 => ?_)
  · skip
    refine lv_iconst (v := 0) hx hb dX4_goes_13 (by decide) ?_
    refine z_tv (v := if w = 0 then (1 : Int32) else 0) (by simp [c_6]) ?_
    exact W.zret (ty := .boolean) hx hb hr (z_nb _) (fun t ht hW => ⟨rfl, ⟨by rw [ht]; exact hP, hD⟩, hS.F ht⟩) hS.2.2 dX4_goes_14
  · skip
    refine lv_iconst (v := 1) hx hb dX4_goes_9 (by decide) ?_
    refine lv_goto (tgt := 14) hx hb dX4_goes_10 (by decide) ?_
    refine z_tv (v := if w = 0 then (1 : Int32) else 0) (by simp [c_6]) ?_
    exact W.zret (ty := .boolean) hx hb hr (z_nb _) (fun t ht hW => ⟨rfl, ⟨by rw [ht]; exact hP, hD⟩, hS.F ht⟩) hS.2.2 dX4_goes_14
set_option maxHeartbeats 4000000 in
set_option maxRecDepth 100000 in
theorem kX4_isIn (l : Launch) (v : Int32) (a : Int32) (b : Int32) : Met l yX4_isIn wsX4_isIn ({ frames := 0, cells := 0, slots := 0, locals := 0 }) (zSc [.int v, .int a, .int b]) (zSi (zin v a b)) 0 0 (fun _ => False) := by
  refine Met.ofW (cc := cX4_isIn) (maxL := 3) (ret := (some .boolean)) (by decide) rfl ?_
  intro p e s m args below meth c s₁ B hml hv
  obtain ⟨rfl, -⟩ := hv
  have hx := B.exec
  have hb := B.bytes
  have hr := B.returns
  have hts := atoms_spec (ws := wsX4_isIn) B.pre
  have hown : s.vm.findClass RX4 = some m.cls := findClass_of_methodNamed B.named
  have hlocks := B.notSynchronized
  have hl := lv_entry ([.int v, .int a, .int b]) (n := 3) (Nat.le_of_ble_eq_true rfl)
  rw [lg_entry_eq]
  generalize (lg_sl ([.int v, .int a, .int b]) ++ List.replicate (3 - (lg_sl ([.int v, .int a, .int b])).length) Slot.unset).toArray = ls at hl ⊢
  have hl : lv_has ls 3 [(0, .int v), (1, .int a), (2, .int b)] := hl
  refine lv_iload_n hx hb dX4_isIn_0 rfl (lv_at hl 0 rfl) ?_
  refine lv_iload_n hx hb dX4_isIn_1 rfl (lv_at hl 1 rfl) ?_
  refine lv_icmp_lt (tgt := 14) hx hb dX4_isIn_2 (by decide) (fun c_2 => ?_) (fun c_2 => ?_)
  · skip
    refine lv_iconst (v := 0) hx hb dX4_isIn_14 (by decide) ?_
    refine z_tv (v := zin v a b) (by unfold zin; grind) ?_
    exact W.zret (ty := .boolean) hx hb hr (zin_nl _ _ _) (fun t ht hW => ⟨rfl, ht⟩) (fun _ h => nomatch h) dX4_isIn_15
  · skip
    refine lv_iload_n hx hb dX4_isIn_5 rfl (lv_at hl 0 rfl) ?_
    refine lv_iload_n hx hb dX4_isIn_6 rfl (lv_at hl 2 rfl) ?_
    refine lv_icmp_gt (tgt := 14) hx hb dX4_isIn_7 (by decide) (fun c_7 => ?_) (fun c_7 => ?_)
    · skip
      refine lv_iconst (v := 0) hx hb dX4_isIn_14 (by decide) ?_
      refine z_tv (v := zin v a b) (by unfold zin; grind) ?_
      exact W.zret (ty := .boolean) hx hb hr (zin_nl _ _ _) (fun t ht hW => ⟨rfl, ht⟩) (fun _ h => nomatch h) dX4_isIn_15
    · skip
      refine lv_iconst (v := 1) hx hb dX4_isIn_10 (by decide) ?_
      refine lv_goto (tgt := 15) hx hb dX4_isIn_11 (by decide) ?_
      refine z_tv (v := zin v a b) (by unfold zin; grind) ?_
      exact W.zret (ty := .boolean) hx hb hr (zin_nl _ _ _) (fun t ht hW => ⟨rfl, ht⟩) (fun _ h => nomatch h) dX4_isIn_15
set_option maxHeartbeats 4000000 in
set_option maxRecDepth 100000 in
theorem kX4_isCatalogue (l : Launch) (v : Int32) : Met l yX4_isCatalogue wsX4_isCatalogue ({ frames := 1, cells := 0, slots := 0, locals := 22 }) (zSc [.int v]) (zSi (zin v 0 3)) 0 0 (fun _ => False) := by
  refine Met.ofW (cc := cX4_isCatalogue) (maxL := 1) (ret := (some .boolean)) (by decide) rfl ?_
  intro p e s m args below meth c s₁ B hml hv
  obtain ⟨rfl, -⟩ := hv
  have hx := B.exec
  have hb := B.bytes
  have hr := B.returns
  have hts := atoms_spec (ws := wsX4_isCatalogue) B.pre
  have hown : s.vm.findClass RX4 = some m.cls := findClass_of_methodNamed B.named
  have hlocks := B.notSynchronized
  have hl := lv_entry ([.int v]) (n := 1) (Nat.le_of_ble_eq_true rfl)
  rw [lg_entry_eq]
  generalize (lg_sl ([.int v]) ++ List.replicate (1 - (lg_sl ([.int v])).length) Slot.unset).toArray = ls at hl ⊢
  have hl : lv_has ls 1 [(0, .int v)] := hl
  refine lv_iload_n hx hb dX4_isCatalogue_0 rfl (lv_at hl 0 rfl) ?_
  refine lv_iconst (v := 0) hx hb dX4_isCatalogue_1 (by decide) ?_
  refine lv_iconst (v := 3) hx hb dX4_isCatalogue_2 (by decide) ?_
  refine z_cRi (va_runS (As := [.int v, .int 0, .int 3]) (rest := []) ⟨hx, hb, hml, hown, hts⟩ (kX4_isIn l v 0 3) (va_cwS 3 hts gX4_isCatalogue_X4_isIn rfl rfl rfl (by decide +kernel) ⟨Nat.le_of_ble_eq_true rfl, Nat.le_of_ble_eq_true rfl⟩) (zPre0) rfl rfl hl.1 rfl (lv_room (Nat.le_of_ble_eq_true rfl)) dX4_isCatalogue_3 ⟨Nat.le_of_ble_eq_true rfl, Nat.le_of_ble_eq_true rfl⟩) ?_
  refine z_tv (v := zin v 0 3) rfl ?_
  exact W.zret (ty := .boolean) hx hb hr (zin_nl _ _ _) (fun t ht hW => ⟨rfl, ht⟩) (fun _ h => nomatch h) dX4_isCatalogue_6
set_option maxHeartbeats 4000000 in
set_option maxRecDepth 100000 in
theorem kX4_isRecord (l : Launch) (v : Int32) : Met l yX4_isRecord wsX4_isRecord ({ frames := 1, cells := 0, slots := 0, locals := 22 }) (zSc [.int v]) (zSi (zin v 0 19)) 0 0 (fun _ => False) := by
  refine Met.ofW (cc := cX4_isRecord) (maxL := 1) (ret := (some .boolean)) (by decide) rfl ?_
  intro p e s m args below meth c s₁ B hml hv
  obtain ⟨rfl, -⟩ := hv
  have hx := B.exec
  have hb := B.bytes
  have hr := B.returns
  have hts := atoms_spec (ws := wsX4_isRecord) B.pre
  have hown : s.vm.findClass RX4 = some m.cls := findClass_of_methodNamed B.named
  have hlocks := B.notSynchronized
  have hl := lv_entry ([.int v]) (n := 1) (Nat.le_of_ble_eq_true rfl)
  rw [lg_entry_eq]
  generalize (lg_sl ([.int v]) ++ List.replicate (1 - (lg_sl ([.int v])).length) Slot.unset).toArray = ls at hl ⊢
  have hl : lv_has ls 1 [(0, .int v)] := hl
  refine lv_iload_n hx hb dX4_isRecord_0 rfl (lv_at hl 0 rfl) ?_
  refine lv_iconst (v := 0) hx hb dX4_isRecord_1 (by decide) ?_
  refine lv_bipush (v := 19) hx hb dX4_isRecord_2 (by decide) ?_
  refine z_cRi (va_runS (As := [.int v, .int 0, .int 19]) (rest := []) ⟨hx, hb, hml, hown, hts⟩ (kX4_isIn l v 0 19) (va_cwS 3 hts gX4_isRecord_X4_isIn rfl rfl rfl (by decide +kernel) ⟨Nat.le_of_ble_eq_true rfl, Nat.le_of_ble_eq_true rfl⟩) (zPre0) rfl rfl hl.1 rfl (lv_room (Nat.le_of_ble_eq_true rfl)) dX4_isRecord_4 ⟨Nat.le_of_ble_eq_true rfl, Nat.le_of_ble_eq_true rfl⟩) ?_
  refine z_tv (v := zin v 0 19) rfl ?_
  exact W.zret (ty := .boolean) hx hb hr (zin_nl _ _ _) (fun t ht hW => ⟨rfl, ht⟩) (fun _ h => nomatch h) dX4_isRecord_7
set_option maxHeartbeats 4000000 in
set_option maxRecDepth 100000 in
theorem kX4_isWork (l : Launch) (v : Int32) : Met l yX4_isWork wsX4_isWork ({ frames := 1, cells := 0, slots := 0, locals := 22 }) (zSc [.int v]) (zSi (zin v 0 9)) 0 0 (fun _ => False) := by
  refine Met.ofW (cc := cX4_isWork) (maxL := 1) (ret := (some .boolean)) (by decide) rfl ?_
  intro p e s m args below meth c s₁ B hml hv
  obtain ⟨rfl, -⟩ := hv
  have hx := B.exec
  have hb := B.bytes
  have hr := B.returns
  have hts := atoms_spec (ws := wsX4_isWork) B.pre
  have hown : s.vm.findClass RX4 = some m.cls := findClass_of_methodNamed B.named
  have hlocks := B.notSynchronized
  have hl := lv_entry ([.int v]) (n := 1) (Nat.le_of_ble_eq_true rfl)
  rw [lg_entry_eq]
  generalize (lg_sl ([.int v]) ++ List.replicate (1 - (lg_sl ([.int v])).length) Slot.unset).toArray = ls at hl ⊢
  have hl : lv_has ls 1 [(0, .int v)] := hl
  refine lv_iload_n hx hb dX4_isWork_0 rfl (lv_at hl 0 rfl) ?_
  refine lv_iconst (v := 0) hx hb dX4_isWork_1 (by decide) ?_
  refine lv_bipush (v := 9) hx hb dX4_isWork_2 (by decide) ?_
  refine z_cRi (va_runS (As := [.int v, .int 0, .int 9]) (rest := []) ⟨hx, hb, hml, hown, hts⟩ (kX4_isIn l v 0 9) (va_cwS 3 hts gX4_isWork_X4_isIn rfl rfl rfl (by decide +kernel) ⟨Nat.le_of_ble_eq_true rfl, Nat.le_of_ble_eq_true rfl⟩) (zPre0) rfl rfl hl.1 rfl (lv_room (Nat.le_of_ble_eq_true rfl)) dX4_isWork_4 ⟨Nat.le_of_ble_eq_true rfl, Nat.le_of_ble_eq_true rfl⟩) ?_
  refine z_tv (v := zin v 0 9) rfl ?_
  exact W.zret (ty := .boolean) hx hb hr (zin_nl _ _ _) (fun t ht hW => ⟨rfl, ht⟩) (fun _ h => nomatch h) dX4_isWork_7
set_option maxHeartbeats 4000000 in
set_option maxRecDepth 100000 in
/-- Model.stamp -/
theorem kX4_stamp (l : Launch) (dC : Nat → ClassId) (dI : Nat → Nat → Nat) (cI cZ cH cJ : ClassId) (ma : Nat → Nat) (now : Int32) (th : Int32) (uU : zI) (ca : Nat) (hca : ca < 4) (day : Int32) (hun : ¬ uU ca = 0) : Met l yX4_stamp wsX4_stamp ({ frames := 0, cells := 0, slots := 0, locals := 0 }) (zRc dC dI (zTy cI cZ cH cJ) [.ref (ma 0), .int (nI ca), .int day] ([(ma 0, .inr (4, [.int now, .ref (ma 1), .ref (ma 2), .ref (ma 3), .ref (ma 4), .ref (ma 5), .ref (ma 6), .ref (ma 7), .ref (ma 8), .ref (ma 9), .ref (ma 10), .ref (ma 11), .ref (ma 12), .ref (ma 13), .ref (ma 14), .ref (ma 15), .ref (ma 16), .ref (ma 17), .ref (ma 18), .ref (ma 19), .ref (ma 20), .int th])), (ma 1, .inl (cI, 4, .inl uU))])) (zSi (yst (uU ca) day)) 0 0 (fun _ => False) := by
  refine Met.ofW (cc := cX4_stamp) (maxL := 3) (ret := (some .int)) (by decide) rfl ?_
  intro p e s m args below meth c s₁ B hml hv
  obtain ⟨rfl, hP, hK⟩ := hv
  have hx := B.exec
  have hb := B.bytes
  have hr := B.returns
  have hts := atoms_spec (ws := wsX4_stamp) B.pre
  have hown : s.vm.findClass RX4 = some m.cls := findClass_of_methodNamed B.named
  have hlocks := B.notSynchronized
  have hl := lv_entry ([.ref (ma 0), .int (nI ca), .int day]) (n := 3) (Nat.le_of_ble_eq_true rfl)
  rw [lg_entry_eq]
  generalize (lg_sl ([.ref (ma 0), .int (nI ca), .int day]) ++ List.replicate (3 - (lg_sl ([.ref (ma 0), .int (nI ca), .int day])).length) Slot.unset).toArray = ls at hl ⊢
  have hl : lv_has ls 3 [(0, .ref (ma 0)), (1, .int (nI ca)), (2, .int day)] := hl
  have hiX4 : ∀ w ∈ wsX40, w ∈ wsX4_stamp := by decide +kernel
  have l7 := hts (.fieldLink RX4 7 "CatalogueHarvesterModel" "units" "[I") (by decide +kernel)
  refine lv_iload_n hx hb dX4_stamp_0 rfl (lv_at hl 2 rfl) ?_
  refine lv_iload_n hx hb dX4_stamp_1 rfl (lv_at hl 2 rfl) ?_
  refine lv_aload_n hx hb dX4_stamp_2 rfl (lv_at hl 0 rfl) ?_
  refine va_get (D := (dC, dI)) (ci := 4) (v := .ref (ma 1)) (C := RX4) (T := TX4) (N := 22) hx hb hts hiX4 hown hK hP 0 rfl rfl 1 (by decide) l7 (fun _ h9 => h9) rfl dX4_stamp_3 ?_
  refine lv_iload_n hx hb dX4_stamp_6 rfl (lv_at hl 1 rfl) ?_
  refine z_iald hx hb hK hP 1 rfl (zix_nI (by first | assumption | omega) (by decide)) dX4_stamp_7 ?_
  refine z_tv (v := uU ca) (rfl) ?_
  refine lv_irem hx hb dX4_stamp_8 (hun) ?_
  refine lv_isub hx hb dX4_stamp_9 ?_
  refine z_tv (v := yst (uU ca) day) (rfl) ?_
  exact W.iret hx hb hr (fun t ht hW => ⟨rfl, ht⟩) (fun _ h => nomatch h) dX4_stamp_10
set_option maxHeartbeats 4000000 in
set_option maxRecDepth 100000 in
/-- Model.clears -/
theorem kX4_clears (l : Launch) (dC : Nat → ClassId) (dI : Nat → Nat → Nat) (cI cZ cH cJ : ClassId) (ma : Nat → Nat) (now : Int32) (th : Int32) (uY : zI) (uK : zI) (uR : zI) (ca : Nat) (hca : ca < 4) (sz : Nat) : Met l yX4_clears wsX4_clears ({ frames := 0, cells := 0, slots := 0, locals := 0 }) (zPc dC dI (zTy cI cZ cH cJ) [.ref (ma 0), .int (nI ca)] sz ([(ma 0, .inr (4, [.int now, .ref (ma 1), .ref (ma 2), .ref (ma 3), .ref (ma 4), .ref (ma 5), .ref (ma 6), .ref (ma 7), .ref (ma 8), .ref (ma 9), .ref (ma 10), .ref (ma 11), .ref (ma 12), .ref (ma 13), .ref (ma 14), .ref (ma 15), .ref (ma 16), .ref (ma 17), .ref (ma 18), .ref (ma 19), .ref (ma 20), .int th])), (ma 2, .inl (cI, 4, .inl uY)), (ma 3, .inl (cI, 80, .inl uK)), (ma 7, .inl (cI, 80, .inl uR))])) (zQv dC dI ([(ma 0, .inr (4, [.int now, .ref (ma 1), .ref (ma 2), .ref (ma 3), .ref (ma 4), .ref (ma 5), .ref (ma 6), .ref (ma 7), .ref (ma 8), .ref (ma 9), .ref (ma 10), .ref (ma 11), .ref (ma 12), .ref (ma 13), .ref (ma 14), .ref (ma 15), .ref (ma 16), .ref (ma 17), .ref (ma 18), .ref (ma 19), .ref (ma 20), .int th])), (ma 2, .inl (cI, 4, .inl uY)), (ma 3, .inl (cI, 80, .inl (yclr uK uR (uY ca) now (20 * ca) 20))), (ma 7, .inl (cI, 80, .inl uR))]) (va_A ([(ma 0, .inr (4, [.int now, .ref (ma 1), .ref (ma 2), .ref (ma 3), .ref (ma 4), .ref (ma 5), .ref (ma 6), .ref (ma 7), .ref (ma 8), .ref (ma 9), .ref (ma 10), .ref (ma 11), .ref (ma 12), .ref (ma 13), .ref (ma 14), .ref (ma 15), .ref (ma 16), .ref (ma 17), .ref (ma 18), .ref (ma 19), .ref (ma 20), .int th])), (ma 2, .inl (cI, 4, .inl uY)), (ma 3, .inl (cI, 80, .inl uK)), (ma 7, .inl (cI, 80, .inl uR))]) sz)) 0 0 (va_A ([(ma 0, .inr (4, [.int now, .ref (ma 1), .ref (ma 2), .ref (ma 3), .ref (ma 4), .ref (ma 5), .ref (ma 6), .ref (ma 7), .ref (ma 8), .ref (ma 9), .ref (ma 10), .ref (ma 11), .ref (ma 12), .ref (ma 13), .ref (ma 14), .ref (ma 15), .ref (ma 16), .ref (ma 17), .ref (ma 18), .ref (ma 19), .ref (ma 20), .int th])), (ma 2, .inl (cI, 4, .inl uY)), (ma 3, .inl (cI, 80, .inl uK)), (ma 7, .inl (cI, 80, .inl uR))]) sz) := by
  refine Met.ofW (cc := cX4_clears) (maxL := 4) (ret := none) (by decide) rfl ?_
  intro p e s m args below meth c s₁ B hml hv
  obtain ⟨rfl, hsz, hP, hK, hD0⟩ := hv
  have hx := B.exec
  have hb := B.bytes
  have hr := B.returns
  have hts := atoms_spec (ws := wsX4_clears) B.pre
  have hown : s.vm.findClass RX4 = some m.cls := findClass_of_methodNamed B.named
  have hlocks := B.notSynchronized
  subst hsz
  have hD := hD0.self (sz := s.heap.size)
  generalize hAe : va_A ([(ma 0, .inr (4, [.int now, .ref (ma 1), .ref (ma 2), .ref (ma 3), .ref (ma 4), .ref (ma 5), .ref (ma 6), .ref (ma 7), .ref (ma 8), .ref (ma 9), .ref (ma 10), .ref (ma 11), .ref (ma 12), .ref (ma 13), .ref (ma 14), .ref (ma 15), .ref (ma 16), .ref (ma 17), .ref (ma 18), .ref (ma 19), .ref (ma 20), .int th])), (ma 2, .inl (cI, 4, .inl uY)), (ma 3, .inl (cI, 80, .inl uK)), (ma 7, .inl (cI, 80, .inl uR))]) s.heap.size = A at hD ⊢
  have hA : ∀ q : Nat, s.heap.size ≤ q → A q := fun q h => by rw [← hAe]; exact Or.inr h
  have hS : va_S A s.heap s.heap [] := va_S.rf
  have hl := lv_entry ([.ref (ma 0), .int (nI ca)]) (n := 4) (Nat.le_of_ble_eq_true rfl)
  rw [lg_entry_eq]
  generalize (lg_sl ([.ref (ma 0), .int (nI ca)]) ++ List.replicate (4 - (lg_sl ([.ref (ma 0), .int (nI ca)])).length) Slot.unset).toArray = ls at hl ⊢
  have hl : lv_has ls 4 [(0, .ref (ma 0)), (1, .int (nI ca))] := hl
  have hiX4 : ∀ w ∈ wsX40, w ∈ wsX4_clears := by decide +kernel
  have l13 := hts (.fieldLink RX4 13 "CatalogueHarvesterModel" "ways" "[I") (by decide +kernel)
  have l16 := hts (.fieldLink RX4 16 "CatalogueHarvesterModel" "kinds" "[I") (by decide +kernel)
  have l28 := hts (.fieldLink RX4 28 "CatalogueHarvesterModel" "removedOn" "[I") (by decide +kernel)
  have l79 := hts (.fieldLink RX4 79 "CatalogueHarvesterModel" "today" "I") (by decide +kernel)
  refine lv_bipush (v := 20) hx hb dX4_clears_0 (by decide) ?_
  refine lv_iload_n hx hb dX4_clears_2 rfl (lv_at hl 1 rfl) ?_
  refine lv_imul hx hb dX4_clears_3 ?_
  refine z_tv (v := nI (20 * ca)) (pk_mul 20 ca) ?_
  refine lv_istore_n (lv' := [(2, .int (nI (20 * ca))), (0, .ref (ma 0)), (1, .int (nI ca))]) hx hb dX4_clears_4 rfl hl (by decide) rfl (fun ls hl => ?_)
  have LOOP1 : ∀ (n i : Nat), i ≤ 20 → 20 < i + n → ∀ (H : Heap) (locs : List Loc), va_P (dC, dI) vwCl ([(ma 0, .inr (4, [.int now, .ref (ma 1), .ref (ma 2), .ref (ma 3), .ref (ma 4), .ref (ma 5), .ref (ma 6), .ref (ma 7), .ref (ma 8), .ref (ma 9), .ref (ma 10), .ref (ma 11), .ref (ma 12), .ref (ma 13), .ref (ma 14), .ref (ma 15), .ref (ma 16), .ref (ma 17), .ref (ma 18), .ref (ma 19), .ref (ma 20), .int th])), (ma 2, .inl (cI, 4, .inl uY)), (ma 3, .inl (cI, 80, .inl (yclr uK uR (uY ca) now (20 * ca) i))), (ma 7, .inl (cI, 80, .inl uR))]) H → va_D A ([(ma 0, .inr (4, [.int now, .ref (ma 1), .ref (ma 2), .ref (ma 3), .ref (ma 4), .ref (ma 5), .ref (ma 6), .ref (ma 7), .ref (ma 8), .ref (ma 9), .ref (ma 10), .ref (ma 11), .ref (ma 12), .ref (ma 13), .ref (ma 14), .ref (ma 15), .ref (ma 16), .ref (ma 17), .ref (ma 18), .ref (ma 19), .ref (ma 20), .int th])), (ma 2, .inl (cI, 4, .inl uY)), (ma 3, .inl (cI, 80, .inl (yclr uK uR (uY ca) now (20 * ca) i))), (ma 7, .inl (cI, 80, .inl uR))]) → va_S A s.heap H locs → ∀ (ls : Array Slot), lv_has ls 4 [(0, .ref (ma 0)), (1, .int (nI ca)), (2, .int (nI (20 * ca + i)))] → W p l e (headSpec wsX4_clears ({ frames := 0, cells := 0, slots := 0, locals := 0 })).room s m ([.ref (ma 0), .int (nI ca)] : List Value).toArray below meth c H locs 0 0 (MQ below (zQv dC dI ([(ma 0, .inr (4, [.int now, .ref (ma 1), .ref (ma 2), .ref (ma 3), .ref (ma 4), .ref (ma 5), .ref (ma 6), .ref (ma 7), .ref (ma 8), .ref (ma 9), .ref (ma 10), .ref (ma 11), .ref (ma 12), .ref (ma 13), .ref (ma 14), .ref (ma 15), .ref (ma 16), .ref (ma 17), .ref (ma 18), .ref (ma 19), .ref (ma 20), .int th])), (ma 2, .inl (cI, 4, .inl uY)), (ma 3, .inl (cI, 80, .inl (yclr uK uR (uY ca) now (20 * ca) 20))), (ma 7, .inl (cI, 80, .inl uR))]) A) ([.ref (ma 0), .int (nI ca)] : List Value).toArray s 0 0 A) (F0 m 5 ls []) := by
    intro n
    induction n with
    | zero => intro i h1 h2; exact absurd h2 (by omega)
    | succ n ih =>
      intro i hi hin  H locs hP hD hS ls hl
      refine lv_iload_n hx hb dX4_clears_5 rfl (lv_at hl 2 rfl) ?_
      refine lv_bipush (v := 20) hx hb dX4_clears_6 (by decide) ?_
      refine lv_iload_n hx hb dX4_clears_8 rfl (lv_at hl 1 rfl) ?_
      refine lv_iconst (v := 1) hx hb dX4_clears_9 (by decide) ?_
      refine lv_iadd hx hb dX4_clears_10 ?_
      refine z_tv (v := nI (ca + 1)) (nI_1 ca) ?_
      refine lv_imul hx hb dX4_clears_11 ?_
      refine z_tv (v := nI (20 * (ca + 1))) (pk_mul 20 (ca + 1)) ?_
      refine lv_icmp_ge (tgt := 93) hx hb dX4_clears_12 (by decide) (fun c_12 => ?_) (fun c_12 => ?_)
      · skip
        have e20 : i = 20 := z_ge20 hi hca c_12
        subst e20
        exact W.vret hx hb hr (fun t ht hW => ⟨rfl, ⟨by rw [ht]; exact hP, hD⟩, hS.F ht⟩) hS.2.2 dX4_clears_93
      · skip
        have hlt : i < 20 := z_lt20 hi hca c_12
        have J56_2 : ∀ (ls : Array Slot), lv_has ls 4 [(0, .ref (ma 0)), (1, .int (nI ca)), (2, .int (nI (20 * ca + i)))] → W p l e (headSpec wsX4_clears ({ frames := 0, cells := 0, slots := 0, locals := 0 })).room s m ([.ref (ma 0), .int (nI ca)] : List Value).toArray below meth c H locs 0 0 (MQ below (zQv dC dI ([(ma 0, .inr (4, [.int now, .ref (ma 1), .ref (ma 2), .ref (ma 3), .ref (ma 4), .ref (ma 5), .ref (ma 6), .ref (ma 7), .ref (ma 8), .ref (ma 9), .ref (ma 10), .ref (ma 11), .ref (ma 12), .ref (ma 13), .ref (ma 14), .ref (ma 15), .ref (ma 16), .ref (ma 17), .ref (ma 18), .ref (ma 19), .ref (ma 20), .int th])), (ma 2, .inl (cI, 4, .inl uY)), (ma 3, .inl (cI, 80, .inl (yclr uK uR (uY ca) now (20 * ca) 20))), (ma 7, .inl (cI, 80, .inl uR))]) A) ([.ref (ma 0), .int (nI ca)] : List Value).toArray s 0 0 A) (F0 m 56 ls [.int (if uY ca = 2 ∨ (uY ca = 1 ∧ ¬ now - uR (20 * ca + i) < 10) then (1 : Int32) else 0)]) := by
          intro ls hl
          refine lv_istore_n (lv' := [(3, .int (if uY ca = 2 ∨ (uY ca = 1 ∧ ¬ now - uR (20 * ca + i) < 10) then (1 : Int32) else 0)), (0, .ref (ma 0)), (1, .int (nI ca)), (2, .int (nI (20 * ca + i)))]) hx hb dX4_clears_56 rfl hl (by decide) rfl (fun ls hl => ?_)
          refine lv_aload_n hx hb dX4_clears_57 rfl (lv_at hl 1 rfl) ?_
          refine va_get (D := (dC, dI)) (ci := 4) (v := .ref (ma 3)) (C := RX4) (T := TX4) (N := 22) hx hb hts hiX4 hown hK hP 0 rfl rfl 3 (by decide) l16 (fun _ h9 => h9) rfl dX4_clears_58 ?_
          refine lv_iload_n hx hb dX4_clears_61 rfl (lv_at hl 3 rfl) ?_
          have J86_3 : ∀ (ls : Array Slot), lv_has ls 4 [(3, .int (if uY ca = 2 ∨ (uY ca = 1 ∧ ¬ now - uR (20 * ca + i) < 10) then (1 : Int32) else 0)), (0, .ref (ma 0)), (1, .int (nI ca)), (2, .int (nI (20 * ca + i)))] → W p l e (headSpec wsX4_clears ({ frames := 0, cells := 0, slots := 0, locals := 0 })).room s m ([.ref (ma 0), .int (nI ca)] : List Value).toArray below meth c H locs 0 0 (MQ below (zQv dC dI ([(ma 0, .inr (4, [.int now, .ref (ma 1), .ref (ma 2), .ref (ma 3), .ref (ma 4), .ref (ma 5), .ref (ma 6), .ref (ma 7), .ref (ma 8), .ref (ma 9), .ref (ma 10), .ref (ma 11), .ref (ma 12), .ref (ma 13), .ref (ma 14), .ref (ma 15), .ref (ma 16), .ref (ma 17), .ref (ma 18), .ref (ma 19), .ref (ma 20), .int th])), (ma 2, .inl (cI, 4, .inl uY)), (ma 3, .inl (cI, 80, .inl (yclr uK uR (uY ca) now (20 * ca) 20))), (ma 7, .inl (cI, 80, .inl uR))]) A) ([.ref (ma 0), .int (nI ca)] : List Value).toArray s 0 0 A) (F0 m 86 ls [.int (if uK (20 * ca + i) = 2 ∧ (uY ca = 2 ∨ (uY ca = 1 ∧ ¬ now - uR (20 * ca + i) < 10)) then 0 else uK (20 * ca + i)), .int (nI (20 * ca + i)), .ref (ma 3)]) := by
            intro ls hl
            refine z_iast hx hb hK hP hD hS 2 rfl (zix_nI (by first | assumption | omega) (by decide)) dX4_clears_86 (fun H locs hP hD hS => ?_)
            have hP : va_P (dC, dI) vwCl ([(ma 0, .inr (4, [.int now, .ref (ma 1), .ref (ma 2), .ref (ma 3), .ref (ma 4), .ref (ma 5), .ref (ma 6), .ref (ma 7), .ref (ma 8), .ref (ma 9), .ref (ma 10), .ref (ma 11), .ref (ma 12), .ref (ma 13), .ref (ma 14), .ref (ma 15), .ref (ma 16), .ref (ma 17), .ref (ma 18), .ref (ma 19), .ref (ma 20), .int th])), (ma 2, .inl (cI, 4, .inl uY)), (ma 3, .inl (cI, 80, .inl (upd (yclr uK uR (uY ca) now (20 * ca) i) (20 * ca + i) (if uK (20 * ca + i) = 2 ∧ (uY ca = 2 ∨ (uY ca = 1 ∧ ¬ now - uR (20 * ca + i) < 10)) then 0 else uK (20 * ca + i))))), (ma 7, .inl (cI, 80, .inl uR))]) H := hP
            have hD : va_D A ([(ma 0, .inr (4, [.int now, .ref (ma 1), .ref (ma 2), .ref (ma 3), .ref (ma 4), .ref (ma 5), .ref (ma 6), .ref (ma 7), .ref (ma 8), .ref (ma 9), .ref (ma 10), .ref (ma 11), .ref (ma 12), .ref (ma 13), .ref (ma 14), .ref (ma 15), .ref (ma 16), .ref (ma 17), .ref (ma 18), .ref (ma 19), .ref (ma 20), .int th])), (ma 2, .inl (cI, 4, .inl uY)), (ma 3, .inl (cI, 80, .inl (upd (yclr uK uR (uY ca) now (20 * ca) i) (20 * ca + i) (if uK (20 * ca + i) = 2 ∧ (uY ca = 2 ∨ (uY ca = 1 ∧ ¬ now - uR (20 * ca + i) < 10)) then 0 else uK (20 * ca + i))))), (ma 7, .inl (cI, 80, .inl uR))]) := hD
            refine lv_iinc (v := nI (20 * ca + (i + 1))) (lv' := [(2, .int (nI (20 * ca + (i + 1)))), (3, .int (if uY ca = 2 ∨ (uY ca = 1 ∧ ¬ now - uR (20 * ca + i) < 10) then (1 : Int32) else 0)), (0, .ref (ma 0)), (1, .int (nI ca))]) hx hb dX4_clears_87 hl (k := 3) rfl (z_1) (by decide) rfl (fun ls hl => ?_)
            refine lv_goto (tgt := 5) hx hb dX4_clears_90 (by decide) ?_
            exact ih (i + 1) (by omega) (by omega)  _ _ (zP_eq hP (zw_k (zw_k (zw_a (yclr_s) (zw_k (rfl)))))) (zD_eq hD (zw_k (zw_k (zw_a (yclr_s) (zw_k (rfl)))))) hS _ (lv_sub hl [2, 3, 0] rfl)
          refine lv_aload_n hx hb dX4_clears_62 rfl (lv_at hl 1 rfl) ?_
          refine va_get (D := (dC, dI)) (ci := 4) (v := .ref (ma 3)) (C := RX4) (T := TX4) (N := 22) hx hb hts hiX4 hown hK hP 0 rfl rfl 3 (by decide) l16 (fun _ h9 => h9) rfl dX4_clears_63 ?_
          refine lv_iload_n hx hb dX4_clears_66 rfl (lv_at hl 3 rfl) ?_
          refine z_iald hx hb hK hP 2 rfl (zix_nI (by first | assumption | omega) (by decide)) dX4_clears_67 ?_
          refine z_tv (v := (yclr uK uR (uY ca) now (20 * ca) i) (20 * ca + i)) (rfl) ?_
          refine z_tv (v := uK (20 * ca + i)) (yclr_at) ?_
          refine lv_iconst (v := 2) hx hb dX4_clears_68 (by decide) ?_
          refine lv_icmp_ne (tgt := 80) hx hb dX4_clears_69 (by decide) (fun c_69 => ?_) (fun c_69 => ?_)
          · skip
            refine lv_aload_n hx hb dX4_clears_80 rfl (lv_at hl 1 rfl) ?_
            refine va_get (D := (dC, dI)) (ci := 4) (v := .ref (ma 3)) (C := RX4) (T := TX4) (N := 22) hx hb hts hiX4 hown hK hP 0 rfl rfl 3 (by decide) l16 (fun _ h9 => h9) rfl dX4_clears_81 ?_
            refine lv_iload_n hx hb dX4_clears_84 rfl (lv_at hl 3 rfl) ?_
            refine z_iald hx hb hK hP 2 rfl (zix_nI (by first | assumption | omega) (by decide)) dX4_clears_85 ?_
            refine z_tv (v := (yclr uK uR (uY ca) now (20 * ca) i) (20 * ca + i)) (rfl) ?_
            refine z_tv (v := uK (20 * ca + i)) (yclr_at) ?_
            refine z_tv (v := if uK (20 * ca + i) = 2 ∧ (uY ca = 2 ∨ (uY ca = 1 ∧ ¬ now - uR (20 * ca + i) < 10)) then 0 else uK (20 * ca + i)) (by grind) ?_
            exact J86_3 _ (lv_sub hl [0, 1, 2, 3] rfl)
          · skip
            refine lv_iload_n hx hb dX4_clears_72 rfl (lv_at hl 0 rfl) ?_
            refine lv_if_eq (tgt := 80) hx hb dX4_clears_73 (by decide) (fun c_73 => ?_) (fun c_73 => ?_)
            · skip
              refine lv_aload_n hx hb dX4_clears_80 rfl (lv_at hl 1 rfl) ?_
              refine va_get (D := (dC, dI)) (ci := 4) (v := .ref (ma 3)) (C := RX4) (T := TX4) (N := 22) hx hb hts hiX4 hown hK hP 0 rfl rfl 3 (by decide) l16 (fun _ h9 => h9) rfl dX4_clears_81 ?_
              refine lv_iload_n hx hb dX4_clears_84 rfl (lv_at hl 3 rfl) ?_
              refine z_iald hx hb hK hP 2 rfl (zix_nI (by first | assumption | omega) (by decide)) dX4_clears_85 ?_
              refine z_tv (v := (yclr uK uR (uY ca) now (20 * ca) i) (20 * ca + i)) (rfl) ?_
              refine z_tv (v := uK (20 * ca + i)) (yclr_at) ?_
              refine z_tv (v := if uK (20 * ca + i) = 2 ∧ (uY ca = 2 ∨ (uY ca = 1 ∧ ¬ now - uR (20 * ca + i) < 10)) then 0 else uK (20 * ca + i)) (by grind) ?_
              exact J86_3 _ (lv_sub hl [0, 1, 2, 3] rfl)
            · skip
              refine lv_iconst (v := 0) hx hb dX4_clears_76 (by decide) ?_
              refine lv_goto (tgt := 86) hx hb dX4_clears_77 (by decide) ?_
              refine z_tv (v := if uK (20 * ca + i) = 2 ∧ (uY ca = 2 ∨ (uY ca = 1 ∧ ¬ now - uR (20 * ca + i) < 10)) then 0 else uK (20 * ca + i)) (by grind) ?_
              exact J86_3 _ (lv_sub hl [0, 1, 2, 3] rfl)
        refine lv_aload_n hx hb dX4_clears_15 rfl (lv_at hl 0 rfl) ?_
        refine va_get (D := (dC, dI)) (ci := 4) (v := .ref (ma 2)) (C := RX4) (T := TX4) (N := 22) hx hb hts hiX4 hown hK hP 0 rfl rfl 2 (by decide) l13 (fun _ h9 => h9) rfl dX4_clears_16 ?_
        refine lv_iload_n hx hb dX4_clears_19 rfl (lv_at hl 1 rfl) ?_
        refine z_iald hx hb hK hP 1 rfl (zix_nI (by first | assumption | omega) (by decide)) dX4_clears_20 ?_
        refine z_tv (v := uY ca) (rfl) ?_
        refine lv_iconst (v := 2) hx hb dX4_clears_21 (by decide) ?_
        refine lv_icmp_eq (tgt := 51) hx hb dX4_clears_22 (by decide) (fun c_22 => ?_) (fun c_22 => ?_)
        · skip
          refine lv_iconst (v := 1) hx hb dX4_clears_51 (by decide) ?_
          refine lv_goto (tgt := 56) hx hb dX4_clears_52 (by decide) ?_
          refine z_tv (v := if uY ca = 2 ∨ (uY ca = 1 ∧ ¬ now - uR (20 * ca + i) < 10) then (1 : Int32) else 0) (by grind) ?_
          exact J56_2 _ (lv_sub hl [0, 1, 2] rfl)
        · skip
          refine lv_aload_n hx hb dX4_clears_25 rfl (lv_at hl 0 rfl) ?_
          refine va_get (D := (dC, dI)) (ci := 4) (v := .ref (ma 2)) (C := RX4) (T := TX4) (N := 22) hx hb hts hiX4 hown hK hP 0 rfl rfl 2 (by decide) l13 (fun _ h9 => h9) rfl dX4_clears_26 ?_
          refine lv_iload_n hx hb dX4_clears_29 rfl (lv_at hl 1 rfl) ?_
          refine z_iald hx hb hK hP 1 rfl (zix_nI (by first | assumption | omega) (by decide)) dX4_clears_30 ?_
          refine z_tv (v := uY ca) (rfl) ?_
          refine lv_iconst (v := 1) hx hb dX4_clears_31 (by decide) ?_
          refine lv_icmp_ne (tgt := 55) hx hb dX4_clears_32 (by decide) (fun c_32 => ?_) (fun c_32 => ?_)
          · skip
            refine lv_iconst (v := 0) hx hb dX4_clears_55 (by decide) ?_
            refine z_tv (v := if uY ca = 2 ∨ (uY ca = 1 ∧ ¬ now - uR (20 * ca + i) < 10) then (1 : Int32) else 0) (by grind) ?_
            exact J56_2 _ (lv_sub hl [0, 1, 2] rfl)
          · skip
            refine lv_aload_n hx hb dX4_clears_35 rfl (lv_at hl 0 rfl) ?_
            refine va_get (D := (dC, dI)) (ci := 4) (v := .int now) (C := RX4) (T := TX4) (N := 22) hx hb hts hiX4 hown hK hP 0 rfl rfl 0 (by decide) l79 (fun _ h9 => h9) rfl dX4_clears_36 ?_
            refine lv_aload_n hx hb dX4_clears_39 rfl (lv_at hl 0 rfl) ?_
            refine va_get (D := (dC, dI)) (ci := 4) (v := .ref (ma 7)) (C := RX4) (T := TX4) (N := 22) hx hb hts hiX4 hown hK hP 0 rfl rfl 7 (by decide) l28 (fun _ h9 => h9) rfl dX4_clears_40 ?_
            refine lv_iload_n hx hb dX4_clears_43 rfl (lv_at hl 2 rfl) ?_
            refine z_iald hx hb hK hP 3 rfl (zix_nI (by first | assumption | omega) (by decide)) dX4_clears_44 ?_
            refine z_tv (v := uR (20 * ca + i)) (rfl) ?_
            refine lv_isub hx hb dX4_clears_45 ?_
            refine lv_bipush (v := 10) hx hb dX4_clears_46 (by decide) ?_
            refine lv_icmp_lt (tgt := 55) hx hb dX4_clears_48 (by decide) (fun c_48 => ?_) (fun c_48 => ?_)
            · skip
              refine lv_iconst (v := 0) hx hb dX4_clears_55 (by decide) ?_
              refine z_tv (v := if uY ca = 2 ∨ (uY ca = 1 ∧ ¬ now - uR (20 * ca + i) < 10) then (1 : Int32) else 0) (by grind) ?_
              exact J56_2 _ (lv_sub hl [0, 1, 2] rfl)
            · skip
              refine lv_iconst (v := 1) hx hb dX4_clears_51 (by decide) ?_
              refine lv_goto (tgt := 56) hx hb dX4_clears_52 (by decide) ?_
              refine z_tv (v := if uY ca = 2 ∨ (uY ca = 1 ∧ ¬ now - uR (20 * ca + i) < 10) then (1 : Int32) else 0) (by grind) ?_
              exact J56_2 _ (lv_sub hl [0, 1, 2] rfl)
  exact LOOP1 (20 + 1) 0 (by omega) (by omega)  _ _ (zP_eq hP (zw_k (zw_k (zw_a (yclr_0) (zw_k (rfl)))))) (zD_eq hD (zw_k (zw_k (zw_a (yclr_0) (zw_k (rfl)))))) hS _ (lv_cg (lv_sub (l' := [(0, .ref (ma 0)), (1, .int (nI ca)), (2, .int (nI (20 * ca)))]) hl [1, 2, 0] rfl) (zl_k (zl_k (zl_c (rfl) (rfl)))))
set_option maxHeartbeats 4000000 in
set_option maxRecDepth 100000 in
/-- Model.count -/
theorem kX4_count (l : Launch) (dC : Nat → ClassId) (dI : Nat → Nat → Nat) (cI cZ cH cJ : ClassId) (ma : Nat → Nat) (now : Int32) (th : Int32) (uK : zI) (ca : Nat) (hca : ca < 4) (k : Int32) : Met l yX4_count wsX4_count ({ frames := 0, cells := 0, slots := 0, locals := 0 }) (zRc dC dI (zTy cI cZ cH cJ) [.ref (ma 0), .int (nI ca), .int k] ([(ma 0, .inr (4, [.int now, .ref (ma 1), .ref (ma 2), .ref (ma 3), .ref (ma 4), .ref (ma 5), .ref (ma 6), .ref (ma 7), .ref (ma 8), .ref (ma 9), .ref (ma 10), .ref (ma 11), .ref (ma 12), .ref (ma 13), .ref (ma 14), .ref (ma 15), .ref (ma 16), .ref (ma 17), .ref (ma 18), .ref (ma 19), .ref (ma 20), .int th])), (ma 3, .inl (cI, 80, .inl uK))])) (zSi (ycnt uK k (20 * ca) 20)) 0 0 (fun _ => False) := by
  refine Met.ofW (cc := cX4_count) (maxL := 5) (ret := (some .int)) (by decide) rfl ?_
  intro p e s m args below meth c s₁ B hml hv
  obtain ⟨rfl, hP, hK⟩ := hv
  have hx := B.exec
  have hb := B.bytes
  have hr := B.returns
  have hts := atoms_spec (ws := wsX4_count) B.pre
  have hown : s.vm.findClass RX4 = some m.cls := findClass_of_methodNamed B.named
  have hlocks := B.notSynchronized
  have hl := lv_entry ([.ref (ma 0), .int (nI ca), .int k]) (n := 5) (Nat.le_of_ble_eq_true rfl)
  rw [lg_entry_eq]
  generalize (lg_sl ([.ref (ma 0), .int (nI ca), .int k]) ++ List.replicate (5 - (lg_sl ([.ref (ma 0), .int (nI ca), .int k])).length) Slot.unset).toArray = ls at hl ⊢
  have hl : lv_has ls 5 [(0, .ref (ma 0)), (1, .int (nI ca)), (2, .int k)] := hl
  have hiX4 : ∀ w ∈ wsX40, w ∈ wsX4_count := by decide +kernel
  have l16 := hts (.fieldLink RX4 16 "CatalogueHarvesterModel" "kinds" "[I") (by decide +kernel)
  refine lv_iconst (v := 0) hx hb dX4_count_0 (by decide) ?_
  refine lv_istore_n (lv' := [(3, .int 0), (0, .ref (ma 0)), (1, .int (nI ca)), (2, .int k)]) hx hb dX4_count_1 rfl hl (by decide) rfl (fun ls hl => ?_)
  refine lv_bipush (v := 20) hx hb dX4_count_2 (by decide) ?_
  refine lv_iload_n hx hb dX4_count_4 rfl (lv_at hl 2 rfl) ?_
  refine lv_imul hx hb dX4_count_5 ?_
  refine z_tv (v := nI (20 * ca)) (pk_mul 20 ca) ?_
  refine lv_istore (lv' := [(4, .int (nI (20 * ca))), (3, .int 0), (0, .ref (ma 0)), (1, .int (nI ca)), (2, .int k)]) hx hb dX4_count_6 hl (by decide) rfl (fun ls hl => ?_)
  have LOOP1 : ∀ (n i : Nat), i ≤ 20 → 20 < i + n → ∀ (ls : Array Slot), lv_has ls 5 [(0, .ref (ma 0)), (1, .int (nI ca)), (2, .int k), (3, .int (ycnt uK k (20 * ca) i)), (4, .int (nI (20 * ca + i)))] → W p l e (headSpec wsX4_count ({ frames := 0, cells := 0, slots := 0, locals := 0 })).room s m ([.ref (ma 0), .int (nI ca), .int k] : List Value).toArray below meth c s.heap [] 0 0 (MQ below (zSi (ycnt uK k (20 * ca) 20)) ([.ref (ma 0), .int (nI ca), .int k] : List Value).toArray s 0 0 (fun _ => False)) (F0 m 8 ls []) := by
    intro n
    induction n with
    | zero => intro i h1 h2; exact absurd h2 (by omega)
    | succ n ih =>
      intro i hi hin   ls hl
      refine lv_iload hx hb dX4_count_8 (lv_at hl 4 rfl) ?_
      refine lv_bipush (v := 20) hx hb dX4_count_10 (by decide) ?_
      refine lv_iload_n hx hb dX4_count_12 rfl (lv_at hl 1 rfl) ?_
      refine lv_iconst (v := 1) hx hb dX4_count_13 (by decide) ?_
      refine lv_iadd hx hb dX4_count_14 ?_
      refine z_tv (v := nI (ca + 1)) (nI_1 ca) ?_
      refine lv_imul hx hb dX4_count_15 ?_
      refine z_tv (v := nI (20 * (ca + 1))) (pk_mul 20 (ca + 1)) ?_
      refine lv_icmp_ge (tgt := 44) hx hb dX4_count_16 (by decide) (fun c_16 => ?_) (fun c_16 => ?_)
      · skip
        have e20 : i = 20 := z_ge20 hi hca c_16
        subst e20
        refine lv_iload_n hx hb dX4_count_44 rfl (lv_at hl 3 rfl) ?_
        exact W.iret hx hb hr (fun t ht hW => ⟨rfl, ht⟩) (fun _ h => nomatch h) dX4_count_45
      · skip
        have hlt : i < 20 := z_lt20 hi hca c_16
        refine lv_iload_n hx hb dX4_count_19 rfl (lv_at hl 3 rfl) ?_
        have J36_2 : ∀ (ls : Array Slot), lv_has ls 5 [(0, .ref (ma 0)), (1, .int (nI ca)), (2, .int k), (3, .int (ycnt uK k (20 * ca) i)), (4, .int (nI (20 * ca + i)))] → W p l e (headSpec wsX4_count ({ frames := 0, cells := 0, slots := 0, locals := 0 })).room s m ([.ref (ma 0), .int (nI ca), .int k] : List Value).toArray below meth c s.heap [] 0 0 (MQ below (zSi (ycnt uK k (20 * ca) 20)) ([.ref (ma 0), .int (nI ca), .int k] : List Value).toArray s 0 0 (fun _ => False)) (F0 m 36 ls [.int (if uK (20 * ca + i) = k then (1 : Int32) else 0), .int (ycnt uK k (20 * ca) i)]) := by
          intro ls hl
          refine lv_iadd hx hb dX4_count_36 ?_
          refine lv_istore_n (lv' := [(3, .int ((ycnt uK k (20 * ca) i) + (if uK (20 * ca + i) = k then (1 : Int32) else 0))), (0, .ref (ma 0)), (1, .int (nI ca)), (2, .int k), (4, .int (nI (20 * ca + i)))]) hx hb dX4_count_37 rfl hl (by decide) rfl (fun ls hl => ?_)
          refine lv_iinc (v := nI (20 * ca + (i + 1))) (lv' := [(4, .int (nI (20 * ca + (i + 1)))), (3, .int ((ycnt uK k (20 * ca) i) + (if uK (20 * ca + i) = k then (1 : Int32) else 0))), (0, .ref (ma 0)), (1, .int (nI ca)), (2, .int k)]) hx hb dX4_count_38 hl (k := 4) rfl (z_1) (by decide) rfl (fun ls hl => ?_)
          refine lv_goto (tgt := 8) hx hb dX4_count_41 (by decide) ?_
          exact ih (i + 1) (by omega) (by omega)  _ (lv_cg (lv_sub (l' := [(0, .ref (ma 0)), (1, .int (nI ca)), (2, .int k), (3, .int ((ycnt uK k (20 * ca) i) + (if uK (20 * ca + i) = k then (1 : Int32) else 0))), (4, .int (nI (20 * ca + (i + 1))))]) hl [2, 3, 4, 1, 0] rfl) (zl_k (zl_k (zl_k (zl_c (rfl) (zl_k (rfl)))))))
        refine lv_aload_n hx hb dX4_count_20 rfl (lv_at hl 0 rfl) ?_
        refine va_get (D := (dC, dI)) (ci := 4) (v := .ref (ma 3)) (C := RX4) (T := TX4) (N := 22) hx hb hts hiX4 hown hK hP 0 rfl rfl 3 (by decide) l16 (fun _ h9 => h9) rfl dX4_count_21 ?_
        refine lv_iload hx hb dX4_count_24 (lv_at hl 4 rfl) ?_
        refine z_iald hx hb hK hP 1 rfl (zix_nI (by first | assumption | omega) (by decide)) dX4_count_26 ?_
        refine z_tv (v := uK (20 * ca + i)) (rfl) ?_
        refine lv_iload_n hx hb dX4_count_27 rfl (lv_at hl 2 rfl) ?_
        refine lv_icmp_ne (tgt := 35) hx hb dX4_count_28 (by decide) (fun c_28 => ?_) (fun c_28 => ?_)
        · skip
          refine lv_iconst (v := 0) hx hb dX4_count_35 (by decide) ?_
          refine z_tv (v := if uK (20 * ca + i) = k then (1 : Int32) else 0) (by simp [c_28]) ?_
          exact J36_2 _ (lv_sub hl [0, 1, 2, 3, 4] rfl)
        · skip
          refine lv_iconst (v := 1) hx hb dX4_count_31 (by decide) ?_
          refine lv_goto (tgt := 36) hx hb dX4_count_32 (by decide) ?_
          refine z_tv (v := if uK (20 * ca + i) = k then (1 : Int32) else 0) (by simp [c_28]) ?_
          exact J36_2 _ (lv_sub hl [0, 1, 2, 3, 4] rfl)
  exact LOOP1 (20 + 1) 0 (by omega) (by omega)  _ (lv_cg (lv_sub (l' := [(0, .ref (ma 0)), (1, .int (nI ca)), (2, .int k), (3, .int 0), (4, .int (nI (20 * ca)))]) hl [2, 3, 4, 1, 0] rfl) (zl_k (zl_k (zl_k (zl_c (rfl) (zl_c (rfl) (rfl)))))))
set_option maxHeartbeats 4000000 in
set_option maxRecDepth 100000 in
/-- Model.asks_ok -/
theorem kX4_asks_ok (l : Launch) (dC : Nat → ClassId) (dI : Nat → Nat → Nat) (cI cZ cH cJ : ClassId) (ma : Nat → Nat) (now : Int32) (th : Int32) (ca : Nat) (hca : ca < 4) (sz : Nat) : Met l yX4_asks wsX4_asks ({ frames := 2, cells := 0, slots := 0, locals := 42 }) (zPc dC dI (zTy cI cZ cH cJ) [.ref (ma 0), .int (nI ca)] sz ([(ma 0, .inr (4, [.int now, .ref (ma 1), .ref (ma 2), .ref (ma 3), .ref (ma 4), .ref (ma 5), .ref (ma 6), .ref (ma 7), .ref (ma 8), .ref (ma 9), .ref (ma 10), .ref (ma 11), .ref (ma 12), .ref (ma 13), .ref (ma 14), .ref (ma 15), .ref (ma 16), .ref (ma 17), .ref (ma 18), .ref (ma 19), .ref (ma 20), .int th]))])) (zQi dC dI 1 ([(ma 0, .inr (4, [.int now, .ref (ma 1), .ref (ma 2), .ref (ma 3), .ref (ma 4), .ref (ma 5), .ref (ma 6), .ref (ma 7), .ref (ma 8), .ref (ma 9), .ref (ma 10), .ref (ma 11), .ref (ma 12), .ref (ma 13), .ref (ma 14), .ref (ma 15), .ref (ma 16), .ref (ma 17), .ref (ma 18), .ref (ma 19), .ref (ma 20), .int 0]))]) (va_A ([(ma 0, .inr (4, [.int now, .ref (ma 1), .ref (ma 2), .ref (ma 3), .ref (ma 4), .ref (ma 5), .ref (ma 6), .ref (ma 7), .ref (ma 8), .ref (ma 9), .ref (ma 10), .ref (ma 11), .ref (ma 12), .ref (ma 13), .ref (ma 14), .ref (ma 15), .ref (ma 16), .ref (ma 17), .ref (ma 18), .ref (ma 19), .ref (ma 20), .int th]))]) sz)) 0 0 (va_A ([(ma 0, .inr (4, [.int now, .ref (ma 1), .ref (ma 2), .ref (ma 3), .ref (ma 4), .ref (ma 5), .ref (ma 6), .ref (ma 7), .ref (ma 8), .ref (ma 9), .ref (ma 10), .ref (ma 11), .ref (ma 12), .ref (ma 13), .ref (ma 14), .ref (ma 15), .ref (ma 16), .ref (ma 17), .ref (ma 18), .ref (ma 19), .ref (ma 20), .int th]))]) sz) := by
  refine Met.ofW (cc := cX4_asks) (maxL := 2) (ret := (some .boolean)) (by decide) rfl ?_
  intro p e s m args below meth c s₁ B hml hv
  obtain ⟨rfl, hsz, hP, hK, hD0⟩ := hv
  have hx := B.exec
  have hb := B.bytes
  have hr := B.returns
  have hts := atoms_spec (ws := wsX4_asks) B.pre
  have hown : s.vm.findClass RX4 = some m.cls := findClass_of_methodNamed B.named
  have hlocks := B.notSynchronized
  subst hsz
  have hD := hD0.self (sz := s.heap.size)
  generalize hAe : va_A ([(ma 0, .inr (4, [.int now, .ref (ma 1), .ref (ma 2), .ref (ma 3), .ref (ma 4), .ref (ma 5), .ref (ma 6), .ref (ma 7), .ref (ma 8), .ref (ma 9), .ref (ma 10), .ref (ma 11), .ref (ma 12), .ref (ma 13), .ref (ma 14), .ref (ma 15), .ref (ma 16), .ref (ma 17), .ref (ma 18), .ref (ma 19), .ref (ma 20), .int th]))]) s.heap.size = A at hD ⊢
  have hA : ∀ q : Nat, s.heap.size ≤ q → A q := fun q h => by rw [← hAe]; exact Or.inr h
  have hS : va_S A s.heap s.heap [] := va_S.rf
  have hl := lv_entry ([.ref (ma 0), .int (nI ca)]) (n := 2) (Nat.le_of_ble_eq_true rfl)
  rw [lg_entry_eq]
  generalize (lg_sl ([.ref (ma 0), .int (nI ca)]) ++ List.replicate (2 - (lg_sl ([.ref (ma 0), .int (nI ca)])).length) Slot.unset).toArray = ls at hl ⊢
  have hl : lv_has ls 2 [(0, .ref (ma 0)), (1, .int (nI ca))] := hl
  refine lv_aload_n hx hb dX4_asks_0 rfl (lv_at hl 0 rfl) ?_
  refine lv_iload_n hx hb dX4_asks_1 rfl (lv_at hl 1 rfl) ?_
  refine z_cRi (va_runS (As := [.int (nI ca)]) (rest := [.ref (ma 0)]) ⟨hx, hb, hml, hown, hts⟩ (kX4_isCatalogue l (nI ca)) (va_cwS 1 hts gX4_asks_X4_isCatalogue rfl rfl rfl (by decide +kernel) ⟨Nat.le_of_ble_eq_true rfl, Nat.le_of_ble_eq_true rfl⟩) (zPre0) rfl rfl hl.1 rfl (lv_room (Nat.le_of_ble_eq_true rfl)) dX4_asks_2 ⟨Nat.le_of_ble_eq_true rfl, Nat.le_of_ble_eq_true rfl⟩) ?_
  refine z_tv (v := 1) (zin_c _ hca) ?_
  refine lv_if_eq (tgt := 12) hx hb dX4_asks_5 (by decide) (fun c_5 => ?_) (fun c_5 => ?_)
  · exact absurd c_5 (by decide)
  · skip
    refine lv_iconst (v := 0) hx hb dX4_asks_8 (by decide) ?_
    refine lv_goto (tgt := 13) hx hb dX4_asks_9 (by decide) ?_
    refine z_cMi (is := [0]) (va_runV (As := [.int 0]) (rest := []) ⟨hx, hb, hml, hown, hts⟩ (kX4_goes l dC dI cI cZ cH cJ ma now th 0 s.heap.size) (cwV 1 hts gX4_asks_X4_goes rfl rfl rfl (by decide +kernel) ⟨Nat.le_of_ble_eq_true rfl, Nat.le_of_ble_eq_true rfl⟩) (zPreV (is := [0]) hK hP hD (by decide) rfl (va_recv hK hP (ci := 4) (q0 := 0) rfl rfl)) rfl rfl hl.1 rfl (lv_room (Nat.le_of_ble_eq_true rfl)) dX4_asks_13 ⟨Nat.le_of_ble_eq_true rfl, Nat.le_of_ble_eq_true rfl⟩) hP hD hS hA rfl (by decide) rfl (fun H locs hP hD hS => ?_)
    have hP : va_P (dC, dI) vwCl ([(ma 0, .inr (4, [.int now, .ref (ma 1), .ref (ma 2), .ref (ma 3), .ref (ma 4), .ref (ma 5), .ref (ma 6), .ref (ma 7), .ref (ma 8), .ref (ma 9), .ref (ma 10), .ref (ma 11), .ref (ma 12), .ref (ma 13), .ref (ma 14), .ref (ma 15), .ref (ma 16), .ref (ma 17), .ref (ma 18), .ref (ma 19), .ref (ma 20), .int 0]))]) H := hP
    have hD : va_D A ([(ma 0, .inr (4, [.int now, .ref (ma 1), .ref (ma 2), .ref (ma 3), .ref (ma 4), .ref (ma 5), .ref (ma 6), .ref (ma 7), .ref (ma 8), .ref (ma 9), .ref (ma 10), .ref (ma 11), .ref (ma 12), .ref (ma 13), .ref (ma 14), .ref (ma 15), .ref (ma 16), .ref (ma 17), .ref (ma 18), .ref (ma 19), .ref (ma 20), .int 0]))]) := hD
    refine z_tv (v := 1) (by decide) ?_
    exact W.zret (ty := .boolean) hx hb hr (rfl) (fun t ht hW => ⟨rfl, ⟨by rw [ht]; exact hP, hD⟩, hS.F ht⟩) hS.2.2 dX4_asks_16
set_option maxHeartbeats 4000000 in
set_option maxRecDepth 100000 in
/-- Model.asks_bad -/
theorem kX4_asks_bad (l : Launch) (dC : Nat → ClassId) (dI : Nat → Nat → Nat) (cI cZ cH cJ : ClassId) (ma : Nat → Nat) (now : Int32) (th : Int32) (v : Int32) (hv : ¬ zin v 0 3 = 1) (sz : Nat) : Met l yX4_asks wsX4_asks ({ frames := 2, cells := 0, slots := 0, locals := 42 }) (zPc dC dI (zTy cI cZ cH cJ) [.ref (ma 0), .int v] sz ([(ma 0, .inr (4, [.int now, .ref (ma 1), .ref (ma 2), .ref (ma 3), .ref (ma 4), .ref (ma 5), .ref (ma 6), .ref (ma 7), .ref (ma 8), .ref (ma 9), .ref (ma 10), .ref (ma 11), .ref (ma 12), .ref (ma 13), .ref (ma 14), .ref (ma 15), .ref (ma 16), .ref (ma 17), .ref (ma 18), .ref (ma 19), .ref (ma 20), .int th]))])) (zQi dC dI 0 ([(ma 0, .inr (4, [.int now, .ref (ma 1), .ref (ma 2), .ref (ma 3), .ref (ma 4), .ref (ma 5), .ref (ma 6), .ref (ma 7), .ref (ma 8), .ref (ma 9), .ref (ma 10), .ref (ma 11), .ref (ma 12), .ref (ma 13), .ref (ma 14), .ref (ma 15), .ref (ma 16), .ref (ma 17), .ref (ma 18), .ref (ma 19), .ref (ma 20), .int 1]))]) (va_A ([(ma 0, .inr (4, [.int now, .ref (ma 1), .ref (ma 2), .ref (ma 3), .ref (ma 4), .ref (ma 5), .ref (ma 6), .ref (ma 7), .ref (ma 8), .ref (ma 9), .ref (ma 10), .ref (ma 11), .ref (ma 12), .ref (ma 13), .ref (ma 14), .ref (ma 15), .ref (ma 16), .ref (ma 17), .ref (ma 18), .ref (ma 19), .ref (ma 20), .int th]))]) sz)) 0 0 (va_A ([(ma 0, .inr (4, [.int now, .ref (ma 1), .ref (ma 2), .ref (ma 3), .ref (ma 4), .ref (ma 5), .ref (ma 6), .ref (ma 7), .ref (ma 8), .ref (ma 9), .ref (ma 10), .ref (ma 11), .ref (ma 12), .ref (ma 13), .ref (ma 14), .ref (ma 15), .ref (ma 16), .ref (ma 17), .ref (ma 18), .ref (ma 19), .ref (ma 20), .int th]))]) sz) := by
  refine Met.ofW (cc := cX4_asks) (maxL := 2) (ret := (some .boolean)) (by decide) rfl ?_
  intro p e s m args below meth c s₁ B hml hv
  obtain ⟨rfl, hsz, hP, hK, hD0⟩ := hv
  have hx := B.exec
  have hb := B.bytes
  have hr := B.returns
  have hts := atoms_spec (ws := wsX4_asks) B.pre
  have hown : s.vm.findClass RX4 = some m.cls := findClass_of_methodNamed B.named
  have hlocks := B.notSynchronized
  subst hsz
  have hD := hD0.self (sz := s.heap.size)
  generalize hAe : va_A ([(ma 0, .inr (4, [.int now, .ref (ma 1), .ref (ma 2), .ref (ma 3), .ref (ma 4), .ref (ma 5), .ref (ma 6), .ref (ma 7), .ref (ma 8), .ref (ma 9), .ref (ma 10), .ref (ma 11), .ref (ma 12), .ref (ma 13), .ref (ma 14), .ref (ma 15), .ref (ma 16), .ref (ma 17), .ref (ma 18), .ref (ma 19), .ref (ma 20), .int th]))]) s.heap.size = A at hD ⊢
  have hA : ∀ q : Nat, s.heap.size ≤ q → A q := fun q h => by rw [← hAe]; exact Or.inr h
  have hS : va_S A s.heap s.heap [] := va_S.rf
  have hl := lv_entry ([.ref (ma 0), .int v]) (n := 2) (Nat.le_of_ble_eq_true rfl)
  rw [lg_entry_eq]
  generalize (lg_sl ([.ref (ma 0), .int v]) ++ List.replicate (2 - (lg_sl ([.ref (ma 0), .int v])).length) Slot.unset).toArray = ls at hl ⊢
  have hl : lv_has ls 2 [(0, .ref (ma 0)), (1, .int v)] := hl
  refine lv_aload_n hx hb dX4_asks_0 rfl (lv_at hl 0 rfl) ?_
  refine lv_iload_n hx hb dX4_asks_1 rfl (lv_at hl 1 rfl) ?_
  refine z_cRi (va_runS (As := [.int v]) (rest := [.ref (ma 0)]) ⟨hx, hb, hml, hown, hts⟩ (kX4_isCatalogue l v) (va_cwS 1 hts gX4_asks_X4_isCatalogue rfl rfl rfl (by decide +kernel) ⟨Nat.le_of_ble_eq_true rfl, Nat.le_of_ble_eq_true rfl⟩) (zPre0) rfl rfl hl.1 rfl (lv_room (Nat.le_of_ble_eq_true rfl)) dX4_asks_2 ⟨Nat.le_of_ble_eq_true rfl, Nat.le_of_ble_eq_true rfl⟩) ?_
  refine z_tv (v := zin v 0 3) rfl ?_
  refine lv_if_eq (tgt := 12) hx hb dX4_asks_5 (by decide) (fun c_5 => ?_) (fun c_5 => ?_)
  · skip
    refine lv_iconst (v := 1) hx hb dX4_asks_12 (by decide) ?_
    refine z_cMi (is := [0]) (va_runV (As := [.int 1]) (rest := []) ⟨hx, hb, hml, hown, hts⟩ (kX4_goes l dC dI cI cZ cH cJ ma now th 1 s.heap.size) (cwV 1 hts gX4_asks_X4_goes rfl rfl rfl (by decide +kernel) ⟨Nat.le_of_ble_eq_true rfl, Nat.le_of_ble_eq_true rfl⟩) (zPreV (is := [0]) hK hP hD (by decide) rfl (va_recv hK hP (ci := 4) (q0 := 0) rfl rfl)) rfl rfl hl.1 rfl (lv_room (Nat.le_of_ble_eq_true rfl)) dX4_asks_13 ⟨Nat.le_of_ble_eq_true rfl, Nat.le_of_ble_eq_true rfl⟩) hP hD hS hA rfl (by decide) rfl (fun H locs hP hD hS => ?_)
    have hP : va_P (dC, dI) vwCl ([(ma 0, .inr (4, [.int now, .ref (ma 1), .ref (ma 2), .ref (ma 3), .ref (ma 4), .ref (ma 5), .ref (ma 6), .ref (ma 7), .ref (ma 8), .ref (ma 9), .ref (ma 10), .ref (ma 11), .ref (ma 12), .ref (ma 13), .ref (ma 14), .ref (ma 15), .ref (ma 16), .ref (ma 17), .ref (ma 18), .ref (ma 19), .ref (ma 20), .int 1]))]) H := hP
    have hD : va_D A ([(ma 0, .inr (4, [.int now, .ref (ma 1), .ref (ma 2), .ref (ma 3), .ref (ma 4), .ref (ma 5), .ref (ma 6), .ref (ma 7), .ref (ma 8), .ref (ma 9), .ref (ma 10), .ref (ma 11), .ref (ma 12), .ref (ma 13), .ref (ma 14), .ref (ma 15), .ref (ma 16), .ref (ma 17), .ref (ma 18), .ref (ma 19), .ref (ma 20), .int 1]))]) := hD
    refine z_tv (v := 0) (by decide) ?_
    exact W.zret (ty := .boolean) hx hb hr (rfl) (fun t ht hW => ⟨rfl, ⟨by rw [ht]; exact hP, hD⟩, hS.F ht⟩) hS.2.2 dX4_asks_16
  · exact absurd c_5 (fun q => hv (zin_n1 q))
set_option maxHeartbeats 4000000 in
set_option maxRecDepth 100000 in
/-- Model.begins -/
theorem kX4_begins (l : Launch) (dC : Nat → ClassId) (dI : Nat → Nat → Nat) (cI cZ cH cJ : ClassId) (ma : Nat → Nat) (now : Int32) (th : Int32) (uE : zI) (uD : zI) (uP : zI) (uQ : zI) (uN : zI) (ca : Nat) (hca : ca < 4) (sz : Nat) : Met l yX4_begins wsX4_begins ({ frames := 0, cells := 0, slots := 0, locals := 0 }) (zPc dC dI (zTy cI cZ cH cJ) [.ref (ma 0), .int (nI ca)] sz ([(ma 0, .inr (4, [.int now, .ref (ma 1), .ref (ma 2), .ref (ma 3), .ref (ma 4), .ref (ma 5), .ref (ma 6), .ref (ma 7), .ref (ma 8), .ref (ma 9), .ref (ma 10), .ref (ma 11), .ref (ma 12), .ref (ma 13), .ref (ma 14), .ref (ma 15), .ref (ma 16), .ref (ma 17), .ref (ma 18), .ref (ma 19), .ref (ma 20), .int th])), (ma 12, .inl (cI, 4, .inl uE)), (ma 13, .inl (cI, 4, .inl uD)), (ma 14, .inl (cI, 4, .inl uP)), (ma 15, .inl (cI, 4, .inl uQ)), (ma 20, .inl (cZ, 80, .inl uN))])) (zQv dC dI ([(ma 0, .inr (4, [.int now, .ref (ma 1), .ref (ma 2), .ref (ma 3), .ref (ma 4), .ref (ma 5), .ref (ma 6), .ref (ma 7), .ref (ma 8), .ref (ma 9), .ref (ma 10), .ref (ma 11), .ref (ma 12), .ref (ma 13), .ref (ma 14), .ref (ma 15), .ref (ma 16), .ref (ma 17), .ref (ma 18), .ref (ma 19), .ref (ma 20), .int th])), (ma 12, .inl (cI, 4, .inl (upd uE ca now))), (ma 13, .inl (cI, 4, .inl (upd uD ca now))), (ma 14, .inl (cI, 4, .inl (upd uP ca (-1)))), (ma 15, .inl (cI, 4, .inl (upd uQ ca (-1)))), (ma 20, .inl (cZ, 80, .inl (ysee uN (20 * ca) 20)))]) (va_A ([(ma 0, .inr (4, [.int now, .ref (ma 1), .ref (ma 2), .ref (ma 3), .ref (ma 4), .ref (ma 5), .ref (ma 6), .ref (ma 7), .ref (ma 8), .ref (ma 9), .ref (ma 10), .ref (ma 11), .ref (ma 12), .ref (ma 13), .ref (ma 14), .ref (ma 15), .ref (ma 16), .ref (ma 17), .ref (ma 18), .ref (ma 19), .ref (ma 20), .int th])), (ma 12, .inl (cI, 4, .inl uE)), (ma 13, .inl (cI, 4, .inl uD)), (ma 14, .inl (cI, 4, .inl uP)), (ma 15, .inl (cI, 4, .inl uQ)), (ma 20, .inl (cZ, 80, .inl uN))]) sz)) 0 0 (va_A ([(ma 0, .inr (4, [.int now, .ref (ma 1), .ref (ma 2), .ref (ma 3), .ref (ma 4), .ref (ma 5), .ref (ma 6), .ref (ma 7), .ref (ma 8), .ref (ma 9), .ref (ma 10), .ref (ma 11), .ref (ma 12), .ref (ma 13), .ref (ma 14), .ref (ma 15), .ref (ma 16), .ref (ma 17), .ref (ma 18), .ref (ma 19), .ref (ma 20), .int th])), (ma 12, .inl (cI, 4, .inl uE)), (ma 13, .inl (cI, 4, .inl uD)), (ma 14, .inl (cI, 4, .inl uP)), (ma 15, .inl (cI, 4, .inl uQ)), (ma 20, .inl (cZ, 80, .inl uN))]) sz) := by
  refine Met.ofW (cc := cX4_begins) (maxL := 3) (ret := none) (by decide) rfl ?_
  intro p e s m args below meth c s₁ B hml hv
  obtain ⟨rfl, hsz, hP, hK, hD0⟩ := hv
  have hx := B.exec
  have hb := B.bytes
  have hr := B.returns
  have hts := atoms_spec (ws := wsX4_begins) B.pre
  have hown : s.vm.findClass RX4 = some m.cls := findClass_of_methodNamed B.named
  have hlocks := B.notSynchronized
  subst hsz
  have hD := hD0.self (sz := s.heap.size)
  generalize hAe : va_A ([(ma 0, .inr (4, [.int now, .ref (ma 1), .ref (ma 2), .ref (ma 3), .ref (ma 4), .ref (ma 5), .ref (ma 6), .ref (ma 7), .ref (ma 8), .ref (ma 9), .ref (ma 10), .ref (ma 11), .ref (ma 12), .ref (ma 13), .ref (ma 14), .ref (ma 15), .ref (ma 16), .ref (ma 17), .ref (ma 18), .ref (ma 19), .ref (ma 20), .int th])), (ma 12, .inl (cI, 4, .inl uE)), (ma 13, .inl (cI, 4, .inl uD)), (ma 14, .inl (cI, 4, .inl uP)), (ma 15, .inl (cI, 4, .inl uQ)), (ma 20, .inl (cZ, 80, .inl uN))]) s.heap.size = A at hD ⊢
  have hA : ∀ q : Nat, s.heap.size ≤ q → A q := fun q h => by rw [← hAe]; exact Or.inr h
  have hS : va_S A s.heap s.heap [] := va_S.rf
  have hl := lv_entry ([.ref (ma 0), .int (nI ca)]) (n := 3) (Nat.le_of_ble_eq_true rfl)
  rw [lg_entry_eq]
  generalize (lg_sl ([.ref (ma 0), .int (nI ca)]) ++ List.replicate (3 - (lg_sl ([.ref (ma 0), .int (nI ca)])).length) Slot.unset).toArray = ls at hl ⊢
  have hl : lv_has ls 3 [(0, .ref (ma 0)), (1, .int (nI ca))] := hl
  have hiX4 : ∀ w ∈ wsX40, w ∈ wsX4_begins := by decide +kernel
  have l44 := hts (.fieldLink RX4 44 "CatalogueHarvesterModel" "openedOn" "[I") (by decide +kernel)
  have l47 := hts (.fieldLink RX4 47 "CatalogueHarvesterModel" "readOn" "[I") (by decide +kernel)
  have l50 := hts (.fieldLink RX4 50 "CatalogueHarvesterModel" "placeStamps" "[I") (by decide +kernel)
  have l53 := hts (.fieldLink RX4 53 "CatalogueHarvesterModel" "placeRecords" "[I") (by decide +kernel)
  have l68 := hts (.fieldLink RX4 68 "CatalogueHarvesterModel" "wasSeen" "[Z") (by decide +kernel)
  have l79 := hts (.fieldLink RX4 79 "CatalogueHarvesterModel" "today" "I") (by decide +kernel)
  refine lv_aload_n hx hb dX4_begins_0 rfl (lv_at hl 0 rfl) ?_
  refine va_get (D := (dC, dI)) (ci := 4) (v := .ref (ma 12)) (C := RX4) (T := TX4) (N := 22) hx hb hts hiX4 hown hK hP 0 rfl rfl 12 (by decide) l44 (fun _ h9 => h9) rfl dX4_begins_1 ?_
  refine lv_iload_n hx hb dX4_begins_4 rfl (lv_at hl 1 rfl) ?_
  refine lv_aload_n hx hb dX4_begins_5 rfl (lv_at hl 0 rfl) ?_
  refine va_get (D := (dC, dI)) (ci := 4) (v := .int now) (C := RX4) (T := TX4) (N := 22) hx hb hts hiX4 hown hK hP 0 rfl rfl 0 (by decide) l79 (fun _ h9 => h9) rfl dX4_begins_6 ?_
  refine z_iast hx hb hK hP hD hS 1 rfl (zix_nI (by first | assumption | omega) (by decide)) dX4_begins_9 (fun H locs hP hD hS => ?_)
  have hP : va_P (dC, dI) vwCl ([(ma 0, .inr (4, [.int now, .ref (ma 1), .ref (ma 2), .ref (ma 3), .ref (ma 4), .ref (ma 5), .ref (ma 6), .ref (ma 7), .ref (ma 8), .ref (ma 9), .ref (ma 10), .ref (ma 11), .ref (ma 12), .ref (ma 13), .ref (ma 14), .ref (ma 15), .ref (ma 16), .ref (ma 17), .ref (ma 18), .ref (ma 19), .ref (ma 20), .int th])), (ma 12, .inl (cI, 4, .inl (upd uE ca now))), (ma 13, .inl (cI, 4, .inl uD)), (ma 14, .inl (cI, 4, .inl uP)), (ma 15, .inl (cI, 4, .inl uQ)), (ma 20, .inl (cZ, 80, .inl uN))]) H := hP
  have hD : va_D A ([(ma 0, .inr (4, [.int now, .ref (ma 1), .ref (ma 2), .ref (ma 3), .ref (ma 4), .ref (ma 5), .ref (ma 6), .ref (ma 7), .ref (ma 8), .ref (ma 9), .ref (ma 10), .ref (ma 11), .ref (ma 12), .ref (ma 13), .ref (ma 14), .ref (ma 15), .ref (ma 16), .ref (ma 17), .ref (ma 18), .ref (ma 19), .ref (ma 20), .int th])), (ma 12, .inl (cI, 4, .inl (upd uE ca now))), (ma 13, .inl (cI, 4, .inl uD)), (ma 14, .inl (cI, 4, .inl uP)), (ma 15, .inl (cI, 4, .inl uQ)), (ma 20, .inl (cZ, 80, .inl uN))]) := hD
  refine lv_aload_n hx hb dX4_begins_10 rfl (lv_at hl 0 rfl) ?_
  refine va_get (D := (dC, dI)) (ci := 4) (v := .ref (ma 13)) (C := RX4) (T := TX4) (N := 22) hx hb hts hiX4 hown hK hP 0 rfl rfl 13 (by decide) l47 (fun _ h9 => h9) rfl dX4_begins_11 ?_
  refine lv_iload_n hx hb dX4_begins_14 rfl (lv_at hl 1 rfl) ?_
  refine lv_aload_n hx hb dX4_begins_15 rfl (lv_at hl 0 rfl) ?_
  refine va_get (D := (dC, dI)) (ci := 4) (v := .int now) (C := RX4) (T := TX4) (N := 22) hx hb hts hiX4 hown hK hP 0 rfl rfl 0 (by decide) l79 (fun _ h9 => h9) rfl dX4_begins_16 ?_
  refine z_iast hx hb hK hP hD hS 2 rfl (zix_nI (by first | assumption | omega) (by decide)) dX4_begins_19 (fun H locs hP hD hS => ?_)
  have hP : va_P (dC, dI) vwCl ([(ma 0, .inr (4, [.int now, .ref (ma 1), .ref (ma 2), .ref (ma 3), .ref (ma 4), .ref (ma 5), .ref (ma 6), .ref (ma 7), .ref (ma 8), .ref (ma 9), .ref (ma 10), .ref (ma 11), .ref (ma 12), .ref (ma 13), .ref (ma 14), .ref (ma 15), .ref (ma 16), .ref (ma 17), .ref (ma 18), .ref (ma 19), .ref (ma 20), .int th])), (ma 12, .inl (cI, 4, .inl (upd uE ca now))), (ma 13, .inl (cI, 4, .inl (upd uD ca now))), (ma 14, .inl (cI, 4, .inl uP)), (ma 15, .inl (cI, 4, .inl uQ)), (ma 20, .inl (cZ, 80, .inl uN))]) H := hP
  have hD : va_D A ([(ma 0, .inr (4, [.int now, .ref (ma 1), .ref (ma 2), .ref (ma 3), .ref (ma 4), .ref (ma 5), .ref (ma 6), .ref (ma 7), .ref (ma 8), .ref (ma 9), .ref (ma 10), .ref (ma 11), .ref (ma 12), .ref (ma 13), .ref (ma 14), .ref (ma 15), .ref (ma 16), .ref (ma 17), .ref (ma 18), .ref (ma 19), .ref (ma 20), .int th])), (ma 12, .inl (cI, 4, .inl (upd uE ca now))), (ma 13, .inl (cI, 4, .inl (upd uD ca now))), (ma 14, .inl (cI, 4, .inl uP)), (ma 15, .inl (cI, 4, .inl uQ)), (ma 20, .inl (cZ, 80, .inl uN))]) := hD
  refine lv_aload_n hx hb dX4_begins_20 rfl (lv_at hl 0 rfl) ?_
  refine va_get (D := (dC, dI)) (ci := 4) (v := .ref (ma 14)) (C := RX4) (T := TX4) (N := 22) hx hb hts hiX4 hown hK hP 0 rfl rfl 14 (by decide) l50 (fun _ h9 => h9) rfl dX4_begins_21 ?_
  refine lv_iload_n hx hb dX4_begins_24 rfl (lv_at hl 1 rfl) ?_
  refine lv_iconst (v := (-1)) hx hb dX4_begins_25 (by decide) ?_
  refine z_iast hx hb hK hP hD hS 3 rfl (zix_nI (by first | assumption | omega) (by decide)) dX4_begins_26 (fun H locs hP hD hS => ?_)
  have hP : va_P (dC, dI) vwCl ([(ma 0, .inr (4, [.int now, .ref (ma 1), .ref (ma 2), .ref (ma 3), .ref (ma 4), .ref (ma 5), .ref (ma 6), .ref (ma 7), .ref (ma 8), .ref (ma 9), .ref (ma 10), .ref (ma 11), .ref (ma 12), .ref (ma 13), .ref (ma 14), .ref (ma 15), .ref (ma 16), .ref (ma 17), .ref (ma 18), .ref (ma 19), .ref (ma 20), .int th])), (ma 12, .inl (cI, 4, .inl (upd uE ca now))), (ma 13, .inl (cI, 4, .inl (upd uD ca now))), (ma 14, .inl (cI, 4, .inl (upd uP ca (-1)))), (ma 15, .inl (cI, 4, .inl uQ)), (ma 20, .inl (cZ, 80, .inl uN))]) H := hP
  have hD : va_D A ([(ma 0, .inr (4, [.int now, .ref (ma 1), .ref (ma 2), .ref (ma 3), .ref (ma 4), .ref (ma 5), .ref (ma 6), .ref (ma 7), .ref (ma 8), .ref (ma 9), .ref (ma 10), .ref (ma 11), .ref (ma 12), .ref (ma 13), .ref (ma 14), .ref (ma 15), .ref (ma 16), .ref (ma 17), .ref (ma 18), .ref (ma 19), .ref (ma 20), .int th])), (ma 12, .inl (cI, 4, .inl (upd uE ca now))), (ma 13, .inl (cI, 4, .inl (upd uD ca now))), (ma 14, .inl (cI, 4, .inl (upd uP ca (-1)))), (ma 15, .inl (cI, 4, .inl uQ)), (ma 20, .inl (cZ, 80, .inl uN))]) := hD
  refine lv_aload_n hx hb dX4_begins_27 rfl (lv_at hl 0 rfl) ?_
  refine va_get (D := (dC, dI)) (ci := 4) (v := .ref (ma 15)) (C := RX4) (T := TX4) (N := 22) hx hb hts hiX4 hown hK hP 0 rfl rfl 15 (by decide) l53 (fun _ h9 => h9) rfl dX4_begins_28 ?_
  refine lv_iload_n hx hb dX4_begins_31 rfl (lv_at hl 1 rfl) ?_
  refine lv_iconst (v := (-1)) hx hb dX4_begins_32 (by decide) ?_
  refine z_iast hx hb hK hP hD hS 4 rfl (zix_nI (by first | assumption | omega) (by decide)) dX4_begins_33 (fun H locs hP hD hS => ?_)
  have hP : va_P (dC, dI) vwCl ([(ma 0, .inr (4, [.int now, .ref (ma 1), .ref (ma 2), .ref (ma 3), .ref (ma 4), .ref (ma 5), .ref (ma 6), .ref (ma 7), .ref (ma 8), .ref (ma 9), .ref (ma 10), .ref (ma 11), .ref (ma 12), .ref (ma 13), .ref (ma 14), .ref (ma 15), .ref (ma 16), .ref (ma 17), .ref (ma 18), .ref (ma 19), .ref (ma 20), .int th])), (ma 12, .inl (cI, 4, .inl (upd uE ca now))), (ma 13, .inl (cI, 4, .inl (upd uD ca now))), (ma 14, .inl (cI, 4, .inl (upd uP ca (-1)))), (ma 15, .inl (cI, 4, .inl (upd uQ ca (-1)))), (ma 20, .inl (cZ, 80, .inl uN))]) H := hP
  have hD : va_D A ([(ma 0, .inr (4, [.int now, .ref (ma 1), .ref (ma 2), .ref (ma 3), .ref (ma 4), .ref (ma 5), .ref (ma 6), .ref (ma 7), .ref (ma 8), .ref (ma 9), .ref (ma 10), .ref (ma 11), .ref (ma 12), .ref (ma 13), .ref (ma 14), .ref (ma 15), .ref (ma 16), .ref (ma 17), .ref (ma 18), .ref (ma 19), .ref (ma 20), .int th])), (ma 12, .inl (cI, 4, .inl (upd uE ca now))), (ma 13, .inl (cI, 4, .inl (upd uD ca now))), (ma 14, .inl (cI, 4, .inl (upd uP ca (-1)))), (ma 15, .inl (cI, 4, .inl (upd uQ ca (-1)))), (ma 20, .inl (cZ, 80, .inl uN))]) := hD
  refine lv_bipush (v := 20) hx hb dX4_begins_34 (by decide) ?_
  refine lv_iload_n hx hb dX4_begins_36 rfl (lv_at hl 1 rfl) ?_
  refine lv_imul hx hb dX4_begins_37 ?_
  refine z_tv (v := nI (20 * ca)) (pk_mul 20 ca) ?_
  refine lv_istore_n (lv' := [(2, .int (nI (20 * ca))), (0, .ref (ma 0)), (1, .int (nI ca))]) hx hb dX4_begins_38 rfl hl (by decide) rfl (fun ls hl => ?_)
  have LOOP1 : ∀ (n i : Nat), i ≤ 20 → 20 < i + n → ∀ (H : Heap) (locs : List Loc), va_P (dC, dI) vwCl ([(ma 0, .inr (4, [.int now, .ref (ma 1), .ref (ma 2), .ref (ma 3), .ref (ma 4), .ref (ma 5), .ref (ma 6), .ref (ma 7), .ref (ma 8), .ref (ma 9), .ref (ma 10), .ref (ma 11), .ref (ma 12), .ref (ma 13), .ref (ma 14), .ref (ma 15), .ref (ma 16), .ref (ma 17), .ref (ma 18), .ref (ma 19), .ref (ma 20), .int th])), (ma 12, .inl (cI, 4, .inl (upd uE ca now))), (ma 13, .inl (cI, 4, .inl (upd uD ca now))), (ma 14, .inl (cI, 4, .inl (upd uP ca (-1)))), (ma 15, .inl (cI, 4, .inl (upd uQ ca (-1)))), (ma 20, .inl (cZ, 80, .inl (ysee uN (20 * ca) i)))]) H → va_D A ([(ma 0, .inr (4, [.int now, .ref (ma 1), .ref (ma 2), .ref (ma 3), .ref (ma 4), .ref (ma 5), .ref (ma 6), .ref (ma 7), .ref (ma 8), .ref (ma 9), .ref (ma 10), .ref (ma 11), .ref (ma 12), .ref (ma 13), .ref (ma 14), .ref (ma 15), .ref (ma 16), .ref (ma 17), .ref (ma 18), .ref (ma 19), .ref (ma 20), .int th])), (ma 12, .inl (cI, 4, .inl (upd uE ca now))), (ma 13, .inl (cI, 4, .inl (upd uD ca now))), (ma 14, .inl (cI, 4, .inl (upd uP ca (-1)))), (ma 15, .inl (cI, 4, .inl (upd uQ ca (-1)))), (ma 20, .inl (cZ, 80, .inl (ysee uN (20 * ca) i)))]) → va_S A s.heap H locs → ∀ (ls : Array Slot), lv_has ls 3 [(0, .ref (ma 0)), (1, .int (nI ca)), (2, .int (nI (20 * ca + i)))] → W p l e (headSpec wsX4_begins ({ frames := 0, cells := 0, slots := 0, locals := 0 })).room s m ([.ref (ma 0), .int (nI ca)] : List Value).toArray below meth c H locs 0 0 (MQ below (zQv dC dI ([(ma 0, .inr (4, [.int now, .ref (ma 1), .ref (ma 2), .ref (ma 3), .ref (ma 4), .ref (ma 5), .ref (ma 6), .ref (ma 7), .ref (ma 8), .ref (ma 9), .ref (ma 10), .ref (ma 11), .ref (ma 12), .ref (ma 13), .ref (ma 14), .ref (ma 15), .ref (ma 16), .ref (ma 17), .ref (ma 18), .ref (ma 19), .ref (ma 20), .int th])), (ma 12, .inl (cI, 4, .inl (upd uE ca now))), (ma 13, .inl (cI, 4, .inl (upd uD ca now))), (ma 14, .inl (cI, 4, .inl (upd uP ca (-1)))), (ma 15, .inl (cI, 4, .inl (upd uQ ca (-1)))), (ma 20, .inl (cZ, 80, .inl (ysee uN (20 * ca) 20)))]) A) ([.ref (ma 0), .int (nI ca)] : List Value).toArray s 0 0 A) (F0 m 39 ls []) := by
    intro n
    induction n with
    | zero => intro i h1 h2; exact absurd h2 (by omega)
    | succ n ih =>
      intro i hi hin  H locs hP hD hS ls hl
      refine lv_iload_n hx hb dX4_begins_39 rfl (lv_at hl 2 rfl) ?_
      refine lv_bipush (v := 20) hx hb dX4_begins_40 (by decide) ?_
      refine lv_iload_n hx hb dX4_begins_42 rfl (lv_at hl 1 rfl) ?_
      refine lv_iconst (v := 1) hx hb dX4_begins_43 (by decide) ?_
      refine lv_iadd hx hb dX4_begins_44 ?_
      refine z_tv (v := nI (ca + 1)) (nI_1 ca) ?_
      refine lv_imul hx hb dX4_begins_45 ?_
      refine z_tv (v := nI (20 * (ca + 1))) (pk_mul 20 (ca + 1)) ?_
      refine lv_icmp_ge (tgt := 62) hx hb dX4_begins_46 (by decide) (fun c_46 => ?_) (fun c_46 => ?_)
      · skip
        have e20 : i = 20 := z_ge20 hi hca c_46
        subst e20
        exact W.vret hx hb hr (fun t ht hW => ⟨rfl, ⟨by rw [ht]; exact hP, hD⟩, hS.F ht⟩) hS.2.2 dX4_begins_62
      · skip
        have hlt : i < 20 := z_lt20 hi hca c_46
        refine lv_aload_n hx hb dX4_begins_49 rfl (lv_at hl 0 rfl) ?_
        refine va_get (D := (dC, dI)) (ci := 4) (v := .ref (ma 20)) (C := RX4) (T := TX4) (N := 22) hx hb hts hiX4 hown hK hP 0 rfl rfl 20 (by decide) l68 (fun _ h9 => h9) rfl dX4_begins_50 ?_
        refine lv_iload_n hx hb dX4_begins_53 rfl (lv_at hl 2 rfl) ?_
        refine lv_iconst (v := 0) hx hb dX4_begins_54 (by decide) ?_
        refine z_zast (v := 0) hx hb hK hP hD hS 5 rfl (zix_nI (by first | assumption | omega) (by decide)) (rfl) dX4_begins_55 (fun H locs hP hD hS => ?_)
        have hP : va_P (dC, dI) vwCl ([(ma 0, .inr (4, [.int now, .ref (ma 1), .ref (ma 2), .ref (ma 3), .ref (ma 4), .ref (ma 5), .ref (ma 6), .ref (ma 7), .ref (ma 8), .ref (ma 9), .ref (ma 10), .ref (ma 11), .ref (ma 12), .ref (ma 13), .ref (ma 14), .ref (ma 15), .ref (ma 16), .ref (ma 17), .ref (ma 18), .ref (ma 19), .ref (ma 20), .int th])), (ma 12, .inl (cI, 4, .inl (upd uE ca now))), (ma 13, .inl (cI, 4, .inl (upd uD ca now))), (ma 14, .inl (cI, 4, .inl (upd uP ca (-1)))), (ma 15, .inl (cI, 4, .inl (upd uQ ca (-1)))), (ma 20, .inl (cZ, 80, .inl (upd (ysee uN (20 * ca) i) (20 * ca + i) 0)))]) H := hP
        have hD : va_D A ([(ma 0, .inr (4, [.int now, .ref (ma 1), .ref (ma 2), .ref (ma 3), .ref (ma 4), .ref (ma 5), .ref (ma 6), .ref (ma 7), .ref (ma 8), .ref (ma 9), .ref (ma 10), .ref (ma 11), .ref (ma 12), .ref (ma 13), .ref (ma 14), .ref (ma 15), .ref (ma 16), .ref (ma 17), .ref (ma 18), .ref (ma 19), .ref (ma 20), .int th])), (ma 12, .inl (cI, 4, .inl (upd uE ca now))), (ma 13, .inl (cI, 4, .inl (upd uD ca now))), (ma 14, .inl (cI, 4, .inl (upd uP ca (-1)))), (ma 15, .inl (cI, 4, .inl (upd uQ ca (-1)))), (ma 20, .inl (cZ, 80, .inl (upd (ysee uN (20 * ca) i) (20 * ca + i) 0)))]) := hD
        refine lv_iinc (v := nI (20 * ca + (i + 1))) (lv' := [(2, .int (nI (20 * ca + (i + 1)))), (0, .ref (ma 0)), (1, .int (nI ca))]) hx hb dX4_begins_56 hl (k := 2) rfl (z_1) (by decide) rfl (fun ls hl => ?_)
        refine lv_goto (tgt := 39) hx hb dX4_begins_59 (by decide) ?_
        exact ih (i + 1) (by omega) (by omega)  _ _ (zP_eq hP (zw_k (zw_k (zw_k (zw_k (zw_k (zw_a (ysee_s) (rfl)))))))) (zD_eq hD (zw_k (zw_k (zw_k (zw_k (zw_k (zw_a (ysee_s) (rfl)))))))) hS _ (lv_sub hl [1, 2, 0] rfl)
  exact LOOP1 (20 + 1) 0 (by omega) (by omega)  _ _ (zP_eq hP (zw_k (zw_k (zw_k (zw_k (zw_k (zw_a (ysee_0) (rfl)))))))) (zD_eq hD (zw_k (zw_k (zw_k (zw_k (zw_k (zw_a (ysee_0) (rfl)))))))) hS _ (lv_cg (lv_sub (l' := [(0, .ref (ma 0)), (1, .int (nI ca)), (2, .int (nI (20 * ca)))]) hl [1, 2, 0] rfl) (zl_k (zl_k (zl_c (rfl) (rfl)))))
set_option maxHeartbeats 4000000 in
set_option maxRecDepth 100000 in
/-- Model.next -/
theorem kX4_next (l : Launch) (dC : Nat → ClassId) (dI : Nat → Nat → Nat) (cI cZ cH cJ : ClassId) (ma : Nat → Nat) (now : Int32) (th : Int32) (uK : zI) (uS : zI) (uG : zI) (uP : zI) (uQ : zI) (ca : Nat) (hca : ca < 4) : Met l yX4_next wsX4_next ({ frames := 0, cells := 0, slots := 0, locals := 0 }) (zRc dC dI (zTy cI cZ cH cJ) [.ref (ma 0), .int (nI ca)] ([(ma 0, .inr (4, [.int now, .ref (ma 1), .ref (ma 2), .ref (ma 3), .ref (ma 4), .ref (ma 5), .ref (ma 6), .ref (ma 7), .ref (ma 8), .ref (ma 9), .ref (ma 10), .ref (ma 11), .ref (ma 12), .ref (ma 13), .ref (ma 14), .ref (ma 15), .ref (ma 16), .ref (ma 17), .ref (ma 18), .ref (ma 19), .ref (ma 20), .int th])), (ma 3, .inl (cI, 80, .inl uK)), (ma 6, .inl (cI, 80, .inl uS)), (ma 11, .inl (cI, 4, .inl uG)), (ma 14, .inl (cI, 4, .inl uP)), (ma 15, .inl (cI, 4, .inl uQ))])) (zSi (ynx uK uS (uG ca) (uP ca) (uQ ca) (20 * ca) 20)) 0 0 (fun _ => False) := by
  refine Met.ofW (cc := cX4_next) (maxL := 7) (ret := (some .int)) (by decide) rfl ?_
  intro p e s m args below meth c s₁ B hml hv
  obtain ⟨rfl, hP, hK⟩ := hv
  have hx := B.exec
  have hb := B.bytes
  have hr := B.returns
  have hts := atoms_spec (ws := wsX4_next) B.pre
  have hown : s.vm.findClass RX4 = some m.cls := findClass_of_methodNamed B.named
  have hlocks := B.notSynchronized
  have hl := lv_entry ([.ref (ma 0), .int (nI ca)]) (n := 7) (Nat.le_of_ble_eq_true rfl)
  rw [lg_entry_eq]
  generalize (lg_sl ([.ref (ma 0), .int (nI ca)]) ++ List.replicate (7 - (lg_sl ([.ref (ma 0), .int (nI ca)])).length) Slot.unset).toArray = ls at hl ⊢
  have hl : lv_has ls 7 [(0, .ref (ma 0)), (1, .int (nI ca))] := hl
  have hiX4 : ∀ w ∈ wsX40, w ∈ wsX4_next := by decide +kernel
  have l16 := hts (.fieldLink RX4 16 "CatalogueHarvesterModel" "kinds" "[I") (by decide +kernel)
  have l25 := hts (.fieldLink RX4 25 "CatalogueHarvesterModel" "stamps" "[I") (by decide +kernel)
  have l41 := hts (.fieldLink RX4 41 "CatalogueHarvesterModel" "froms" "[I") (by decide +kernel)
  have l50 := hts (.fieldLink RX4 50 "CatalogueHarvesterModel" "placeStamps" "[I") (by decide +kernel)
  have l53 := hts (.fieldLink RX4 53 "CatalogueHarvesterModel" "placeRecords" "[I") (by decide +kernel)
  refine lv_iconst (v := (-1)) hx hb dX4_next_0 (by decide) ?_
  refine lv_istore_n (lv' := [(2, .int (-1)), (0, .ref (ma 0)), (1, .int (nI ca))]) hx hb dX4_next_1 rfl hl (by decide) rfl (fun ls hl => ?_)
  refine lv_bipush (v := 20) hx hb dX4_next_2 (by decide) ?_
  refine lv_iload_n hx hb dX4_next_4 rfl (lv_at hl 2 rfl) ?_
  refine lv_imul hx hb dX4_next_5 ?_
  refine z_tv (v := nI (20 * ca)) (pk_mul 20 ca) ?_
  refine lv_istore_n (lv' := [(3, .int (nI (20 * ca))), (2, .int (-1)), (0, .ref (ma 0)), (1, .int (nI ca))]) hx hb dX4_next_6 rfl hl (by decide) rfl (fun ls hl => ?_)
  refine lv_iload_n hx hb dX4_next_7 rfl (lv_at hl 0 rfl) ?_
  refine lv_istore (lv' := [(4, .int (nI (20 * ca))), (3, .int (nI (20 * ca))), (2, .int (-1)), (0, .ref (ma 0)), (1, .int (nI ca))]) hx hb dX4_next_8 hl (by decide) rfl (fun ls hl => ?_)
  have LOOP1 : ∀ (n i : Nat), i ≤ 20 → 20 < i + n → ∀ (ls : Array Slot), lv_has ls 7 [(0, .ref (ma 0)), (1, .int (nI ca)), (2, .int (ynx uK uS (uG ca) (uP ca) (uQ ca) (20 * ca) i)), (3, .int (nI (20 * ca))), (4, .int (nI (20 * ca + i)))] → W p l e (headSpec wsX4_next ({ frames := 0, cells := 0, slots := 0, locals := 0 })).room s m ([.ref (ma 0), .int (nI ca)] : List Value).toArray below meth c s.heap [] 0 0 (MQ below (zSi (ynx uK uS (uG ca) (uP ca) (uQ ca) (20 * ca) 20)) ([.ref (ma 0), .int (nI ca)] : List Value).toArray s 0 0 (fun _ => False)) (F0 m 10 ls []) := by
    intro n
    induction n with
    | zero => intro i h1 h2; exact absurd h2 (by omega)
    | succ n ih =>
      intro i hi hin   ls hl
      refine lv_iload hx hb dX4_next_10 (lv_at hl 4 rfl) ?_
      refine lv_iload_n hx hb dX4_next_12 rfl (lv_at hl 3 rfl) ?_
      refine lv_bipush (v := 20) hx hb dX4_next_13 (by decide) ?_
      refine lv_iadd hx hb dX4_next_15 ?_
      refine z_tv (v := nI (20 * ca + 20)) (nI_add (20 * ca) 20) ?_
      refine lv_icmp_ge (tgt := 148) hx hb dX4_next_16 (by decide) (fun c_16 => ?_) (fun c_16 => ?_)
      · skip
        have e20 : i = 20 := z_ge20b hi hca c_16
        subst e20
        refine lv_iload_n hx hb dX4_next_148 rfl (lv_at hl 2 rfl) ?_
        exact W.iret hx hb hr (fun t ht hW => ⟨rfl, ht⟩) (fun _ h => nomatch h) dX4_next_149
      · skip
        have hlt : i < 20 := z_lt20b hi hca c_16
        have J69_2 : ∀ (ls : Array Slot), lv_has ls 7 [(0, .ref (ma 0)), (1, .int (nI ca)), (2, .int (ynx uK uS (uG ca) (uP ca) (uQ ca) (20 * ca) i)), (3, .int (nI (20 * ca))), (4, .int (nI (20 * ca + i)))] → W p l e (headSpec wsX4_next ({ frames := 0, cells := 0, slots := 0, locals := 0 })).room s m ([.ref (ma 0), .int (nI ca)] : List Value).toArray below meth c s.heap [] 0 0 (MQ below (zSi (ynx uK uS (uG ca) (uP ca) (uQ ca) (20 * ca) 20)) ([.ref (ma 0), .int (nI ca)] : List Value).toArray s 0 0 (fun _ => False)) (F0 m 69 ls [.int (if uP ca < uS (20 * ca + i) ∨ (uS (20 * ca + i) = uP ca ∧ ¬ nI i ≤ uQ ca) then (1 : Int32) else 0)]) := by
          intro ls hl
          refine lv_istore (lv' := [(5, .int (if uP ca < uS (20 * ca + i) ∨ (uS (20 * ca + i) = uP ca ∧ ¬ nI i ≤ uQ ca) then (1 : Int32) else 0)), (0, .ref (ma 0)), (1, .int (nI ca)), (2, .int (ynx uK uS (uG ca) (uP ca) (uQ ca) (20 * ca) i)), (3, .int (nI (20 * ca))), (4, .int (nI (20 * ca + i)))]) hx hb dX4_next_69 hl (by decide) rfl (fun ls hl => ?_)
          have J107_3 : ∀ (ls : Array Slot), lv_has ls 7 [(5, .int (if uP ca < uS (20 * ca + i) ∨ (uS (20 * ca + i) = uP ca ∧ ¬ nI i ≤ uQ ca) then (1 : Int32) else 0)), (0, .ref (ma 0)), (1, .int (nI ca)), (2, .int (ynx uK uS (uG ca) (uP ca) (uQ ca) (20 * ca) i)), (3, .int (nI (20 * ca))), (4, .int (nI (20 * ca + i)))] → W p l e (headSpec wsX4_next ({ frames := 0, cells := 0, slots := 0, locals := 0 })).room s m ([.ref (ma 0), .int (nI ca)] : List Value).toArray below meth c s.heap [] 0 0 (MQ below (zSi (ynx uK uS (uG ca) (uP ca) (uQ ca) (20 * ca) 20)) ([.ref (ma 0), .int (nI ca)] : List Value).toArray s 0 0 (fun _ => False)) (F0 m 107 ls [.int (if uK (20 * ca + i) ≠ 0 ∧ ¬ uS (20 * ca + i) < uG ca ∧ (uP ca < uS (20 * ca + i) ∨ (uS (20 * ca + i) = uP ca ∧ ¬ nI i ≤ uQ ca)) then (1 : Int32) else 0)]) := by
            intro ls hl
            refine lv_istore (lv' := [(6, .int (if uK (20 * ca + i) ≠ 0 ∧ ¬ uS (20 * ca + i) < uG ca ∧ (uP ca < uS (20 * ca + i) ∨ (uS (20 * ca + i) = uP ca ∧ ¬ nI i ≤ uQ ca)) then (1 : Int32) else 0)), (5, .int (if uP ca < uS (20 * ca + i) ∨ (uS (20 * ca + i) = uP ca ∧ ¬ nI i ≤ uQ ca) then (1 : Int32) else 0)), (0, .ref (ma 0)), (1, .int (nI ca)), (2, .int (ynx uK uS (uG ca) (uP ca) (uQ ca) (20 * ca) i)), (3, .int (nI (20 * ca))), (4, .int (nI (20 * ca + i)))]) hx hb dX4_next_107 hl (by decide) rfl (fun ls hl => ?_)
            have J141_4 : ∀ (ls : Array Slot), lv_has ls 7 [(6, .int (if uK (20 * ca + i) ≠ 0 ∧ ¬ uS (20 * ca + i) < uG ca ∧ (uP ca < uS (20 * ca + i) ∨ (uS (20 * ca + i) = uP ca ∧ ¬ nI i ≤ uQ ca)) then (1 : Int32) else 0)), (5, .int (if uP ca < uS (20 * ca + i) ∨ (uS (20 * ca + i) = uP ca ∧ ¬ nI i ≤ uQ ca) then (1 : Int32) else 0)), (0, .ref (ma 0)), (1, .int (nI ca)), (2, .int (ynx uK uS (uG ca) (uP ca) (uQ ca) (20 * ca) i)), (3, .int (nI (20 * ca))), (4, .int (nI (20 * ca + i)))] → W p l e (headSpec wsX4_next ({ frames := 0, cells := 0, slots := 0, locals := 0 })).room s m ([.ref (ma 0), .int (nI ca)] : List Value).toArray below meth c s.heap [] 0 0 (MQ below (zSi (ynx uK uS (uG ca) (uP ca) (uQ ca) (20 * ca) 20)) ([.ref (ma 0), .int (nI ca)] : List Value).toArray s 0 0 (fun _ => False)) (F0 m 141 ls [.int (ynx uK uS (uG ca) (uP ca) (uQ ca) (20 * ca) (i + 1))]) := by
              intro ls hl
              refine lv_istore_n (lv' := [(2, .int (ynx uK uS (uG ca) (uP ca) (uQ ca) (20 * ca) (i + 1))), (6, .int (if uK (20 * ca + i) ≠ 0 ∧ ¬ uS (20 * ca + i) < uG ca ∧ (uP ca < uS (20 * ca + i) ∨ (uS (20 * ca + i) = uP ca ∧ ¬ nI i ≤ uQ ca)) then (1 : Int32) else 0)), (5, .int (if uP ca < uS (20 * ca + i) ∨ (uS (20 * ca + i) = uP ca ∧ ¬ nI i ≤ uQ ca) then (1 : Int32) else 0)), (0, .ref (ma 0)), (1, .int (nI ca)), (3, .int (nI (20 * ca))), (4, .int (nI (20 * ca + i)))]) hx hb dX4_next_141 rfl hl (by decide) rfl (fun ls hl => ?_)
              refine lv_iinc (v := nI (20 * ca + (i + 1))) (lv' := [(4, .int (nI (20 * ca + (i + 1)))), (2, .int (ynx uK uS (uG ca) (uP ca) (uQ ca) (20 * ca) (i + 1))), (6, .int (if uK (20 * ca + i) ≠ 0 ∧ ¬ uS (20 * ca + i) < uG ca ∧ (uP ca < uS (20 * ca + i) ∨ (uS (20 * ca + i) = uP ca ∧ ¬ nI i ≤ uQ ca)) then (1 : Int32) else 0)), (5, .int (if uP ca < uS (20 * ca + i) ∨ (uS (20 * ca + i) = uP ca ∧ ¬ nI i ≤ uQ ca) then (1 : Int32) else 0)), (0, .ref (ma 0)), (1, .int (nI ca)), (3, .int (nI (20 * ca)))]) hx hb dX4_next_142 hl (k := 6) rfl (z_1) (by decide) rfl (fun ls hl => ?_)
              refine lv_goto (tgt := 10) hx hb dX4_next_145 (by decide) ?_
              exact ih (i + 1) (by omega) (by omega)  _ (lv_sub hl [4, 5, 1, 6, 0] rfl)
            refine lv_iload hx hb dX4_next_109 (lv_at hl 0 rfl) ?_
            refine lv_if_eq (tgt := 140) hx hb dX4_next_111 (by decide) (fun c_111 => ?_) (fun c_111 => ?_)
            · skip
              refine lv_iload_n hx hb dX4_next_140 rfl (lv_at hl 4 rfl) ?_
              refine z_tv (v := ynx uK uS (uG ca) (uP ca) (uQ ca) (20 * ca) (i + 1)) (by rw [ynx]; grind) ?_
              exact J141_4 _ (lv_sub hl [0, 1, 2, 3, 4, 5, 6] rfl)
            · skip
              refine lv_iload_n hx hb dX4_next_114 rfl (lv_at hl 4 rfl) ?_
              refine lv_iconst (v := (-1)) hx hb dX4_next_115 (by decide) ?_
              refine lv_icmp_eq (tgt := 135) hx hb dX4_next_116 (by decide) (fun c_116 => ?_) (fun c_116 => ?_)
              · skip
                refine lv_iload hx hb dX4_next_135 (lv_at hl 6 rfl) ?_
                refine lv_goto (tgt := 141) hx hb dX4_next_137 (by decide) ?_
                refine z_tv (v := ynx uK uS (uG ca) (uP ca) (uQ ca) (20 * ca) (i + 1)) (by rw [ynx]; grind) ?_
                exact J141_4 _ (lv_sub hl [0, 1, 2, 3, 4, 5, 6] rfl)
              · skip
                refine lv_aload_n hx hb dX4_next_119 rfl (lv_at hl 2 rfl) ?_
                refine va_get (D := (dC, dI)) (ci := 4) (v := .ref (ma 6)) (C := RX4) (T := TX4) (N := 22) hx hb hts hiX4 hown hK hP 0 rfl rfl 6 (by decide) l25 (fun _ h9 => h9) rfl dX4_next_120 ?_
                refine lv_iload hx hb dX4_next_123 (lv_at hl 6 rfl) ?_
                refine z_iald hx hb hK hP 2 rfl (zix_nI (by first | assumption | omega) (by decide)) dX4_next_125 ?_
                refine z_tv (v := uS (20 * ca + i)) (rfl) ?_
                refine lv_aload_n hx hb dX4_next_126 rfl (lv_at hl 2 rfl) ?_
                refine va_get (D := (dC, dI)) (ci := 4) (v := .ref (ma 6)) (C := RX4) (T := TX4) (N := 22) hx hb hts hiX4 hown hK hP 0 rfl rfl 6 (by decide) l25 (fun _ h9 => h9) rfl dX4_next_127 ?_
                refine lv_iload_n hx hb dX4_next_130 rfl (lv_at hl 4 rfl) ?_
                refine z_iald hx hb hK hP 2 rfl (ynx_ix c_116 (by omega)) dX4_next_131 ?_
                refine z_tv (v := uS ((ynx uK uS (uG ca) (uP ca) (uQ ca) (20 * ca) i).toNatClampNeg)) (rfl) ?_
                refine lv_icmp_ge (tgt := 140) hx hb dX4_next_132 (by decide) (fun c_132 => ?_) (fun c_132 => ?_)
                · skip
                  refine lv_iload_n hx hb dX4_next_140 rfl (lv_at hl 4 rfl) ?_
                  refine z_tv (v := ynx uK uS (uG ca) (uP ca) (uQ ca) (20 * ca) (i + 1)) (by rw [ynx]; grind) ?_
                  exact J141_4 _ (lv_sub hl [0, 1, 2, 3, 4, 5, 6] rfl)
                · skip
                  refine lv_iload hx hb dX4_next_135 (lv_at hl 6 rfl) ?_
                  refine lv_goto (tgt := 141) hx hb dX4_next_137 (by decide) ?_
                  refine z_tv (v := ynx uK uS (uG ca) (uP ca) (uQ ca) (20 * ca) (i + 1)) (by rw [ynx]; grind) ?_
                  exact J141_4 _ (lv_sub hl [0, 1, 2, 3, 4, 5, 6] rfl)
          refine lv_aload_n hx hb dX4_next_71 rfl (lv_at hl 1 rfl) ?_
          refine va_get (D := (dC, dI)) (ci := 4) (v := .ref (ma 3)) (C := RX4) (T := TX4) (N := 22) hx hb hts hiX4 hown hK hP 0 rfl rfl 3 (by decide) l16 (fun _ h9 => h9) rfl dX4_next_72 ?_
          refine lv_iload hx hb dX4_next_75 (lv_at hl 5 rfl) ?_
          refine z_iald hx hb hK hP 1 rfl (zix_nI (by first | assumption | omega) (by decide)) dX4_next_77 ?_
          refine z_tv (v := uK (20 * ca + i)) (rfl) ?_
          refine lv_if_eq (tgt := 106) hx hb dX4_next_78 (by decide) (fun c_78 => ?_) (fun c_78 => ?_)
          · skip
            refine lv_iconst (v := 0) hx hb dX4_next_106 (by decide) ?_
            refine z_tv (v := if uK (20 * ca + i) ≠ 0 ∧ ¬ uS (20 * ca + i) < uG ca ∧ (uP ca < uS (20 * ca + i) ∨ (uS (20 * ca + i) = uP ca ∧ ¬ nI i ≤ uQ ca)) then (1 : Int32) else 0) (by grind) ?_
            exact J107_3 _ (lv_sub hl [0, 1, 2, 3, 4, 5] rfl)
          · skip
            refine lv_aload_n hx hb dX4_next_81 rfl (lv_at hl 1 rfl) ?_
            refine va_get (D := (dC, dI)) (ci := 4) (v := .ref (ma 6)) (C := RX4) (T := TX4) (N := 22) hx hb hts hiX4 hown hK hP 0 rfl rfl 6 (by decide) l25 (fun _ h9 => h9) rfl dX4_next_82 ?_
            refine lv_iload hx hb dX4_next_85 (lv_at hl 5 rfl) ?_
            refine z_iald hx hb hK hP 2 rfl (zix_nI (by first | assumption | omega) (by decide)) dX4_next_87 ?_
            refine z_tv (v := uS (20 * ca + i)) (rfl) ?_
            refine lv_aload_n hx hb dX4_next_88 rfl (lv_at hl 1 rfl) ?_
            refine va_get (D := (dC, dI)) (ci := 4) (v := .ref (ma 11)) (C := RX4) (T := TX4) (N := 22) hx hb hts hiX4 hown hK hP 0 rfl rfl 11 (by decide) l41 (fun _ h9 => h9) rfl dX4_next_89 ?_
            refine lv_iload_n hx hb dX4_next_92 rfl (lv_at hl 2 rfl) ?_
            refine z_iald hx hb hK hP 3 rfl (zix_nI (by first | assumption | omega) (by decide)) dX4_next_93 ?_
            refine z_tv (v := uG ca) (rfl) ?_
            refine lv_icmp_lt (tgt := 106) hx hb dX4_next_94 (by decide) (fun c_94 => ?_) (fun c_94 => ?_)
            · skip
              refine lv_iconst (v := 0) hx hb dX4_next_106 (by decide) ?_
              refine z_tv (v := if uK (20 * ca + i) ≠ 0 ∧ ¬ uS (20 * ca + i) < uG ca ∧ (uP ca < uS (20 * ca + i) ∨ (uS (20 * ca + i) = uP ca ∧ ¬ nI i ≤ uQ ca)) then (1 : Int32) else 0) (by grind) ?_
              exact J107_3 _ (lv_sub hl [0, 1, 2, 3, 4, 5] rfl)
            · skip
              refine lv_iload hx hb dX4_next_97 (lv_at hl 0 rfl) ?_
              refine lv_if_eq (tgt := 106) hx hb dX4_next_99 (by decide) (fun c_99 => ?_) (fun c_99 => ?_)
              · skip
                refine lv_iconst (v := 0) hx hb dX4_next_106 (by decide) ?_
                refine z_tv (v := if uK (20 * ca + i) ≠ 0 ∧ ¬ uS (20 * ca + i) < uG ca ∧ (uP ca < uS (20 * ca + i) ∨ (uS (20 * ca + i) = uP ca ∧ ¬ nI i ≤ uQ ca)) then (1 : Int32) else 0) (by grind) ?_
                exact J107_3 _ (lv_sub hl [0, 1, 2, 3, 4, 5] rfl)
              · skip
                refine lv_iconst (v := 1) hx hb dX4_next_102 (by decide) ?_
                refine lv_goto (tgt := 107) hx hb dX4_next_103 (by decide) ?_
                refine z_tv (v := if uK (20 * ca + i) ≠ 0 ∧ ¬ uS (20 * ca + i) < uG ca ∧ (uP ca < uS (20 * ca + i) ∨ (uS (20 * ca + i) = uP ca ∧ ¬ nI i ≤ uQ ca)) then (1 : Int32) else 0) (by grind) ?_
                exact J107_3 _ (lv_sub hl [0, 1, 2, 3, 4, 5] rfl)
        refine lv_aload_n hx hb dX4_next_19 rfl (lv_at hl 0 rfl) ?_
        refine va_get (D := (dC, dI)) (ci := 4) (v := .ref (ma 6)) (C := RX4) (T := TX4) (N := 22) hx hb hts hiX4 hown hK hP 0 rfl rfl 6 (by decide) l25 (fun _ h9 => h9) rfl dX4_next_20 ?_
        refine lv_iload hx hb dX4_next_23 (lv_at hl 4 rfl) ?_
        refine z_iald hx hb hK hP 2 rfl (zix_nI (by first | assumption | omega) (by decide)) dX4_next_25 ?_
        refine z_tv (v := uS (20 * ca + i)) (rfl) ?_
        refine lv_aload_n hx hb dX4_next_26 rfl (lv_at hl 0 rfl) ?_
        refine va_get (D := (dC, dI)) (ci := 4) (v := .ref (ma 14)) (C := RX4) (T := TX4) (N := 22) hx hb hts hiX4 hown hK hP 0 rfl rfl 14 (by decide) l50 (fun _ h9 => h9) rfl dX4_next_27 ?_
        refine lv_iload_n hx hb dX4_next_30 rfl (lv_at hl 1 rfl) ?_
        refine z_iald hx hb hK hP 4 rfl (zix_nI (by first | assumption | omega) (by decide)) dX4_next_31 ?_
        refine z_tv (v := uP ca) (rfl) ?_
        refine lv_icmp_gt (tgt := 64) hx hb dX4_next_32 (by decide) (fun c_32 => ?_) (fun c_32 => ?_)
        · skip
          refine lv_iconst (v := 1) hx hb dX4_next_64 (by decide) ?_
          refine lv_goto (tgt := 69) hx hb dX4_next_65 (by decide) ?_
          refine z_tv (v := if uP ca < uS (20 * ca + i) ∨ (uS (20 * ca + i) = uP ca ∧ ¬ nI i ≤ uQ ca) then (1 : Int32) else 0) (by grind) ?_
          exact J69_2 _ (lv_sub hl [0, 1, 2, 3, 4] rfl)
        · skip
          refine lv_aload_n hx hb dX4_next_35 rfl (lv_at hl 0 rfl) ?_
          refine va_get (D := (dC, dI)) (ci := 4) (v := .ref (ma 6)) (C := RX4) (T := TX4) (N := 22) hx hb hts hiX4 hown hK hP 0 rfl rfl 6 (by decide) l25 (fun _ h9 => h9) rfl dX4_next_36 ?_
          refine lv_iload hx hb dX4_next_39 (lv_at hl 4 rfl) ?_
          refine z_iald hx hb hK hP 2 rfl (zix_nI (by first | assumption | omega) (by decide)) dX4_next_41 ?_
          refine z_tv (v := uS (20 * ca + i)) (rfl) ?_
          refine lv_aload_n hx hb dX4_next_42 rfl (lv_at hl 0 rfl) ?_
          refine va_get (D := (dC, dI)) (ci := 4) (v := .ref (ma 14)) (C := RX4) (T := TX4) (N := 22) hx hb hts hiX4 hown hK hP 0 rfl rfl 14 (by decide) l50 (fun _ h9 => h9) rfl dX4_next_43 ?_
          refine lv_iload_n hx hb dX4_next_46 rfl (lv_at hl 1 rfl) ?_
          refine z_iald hx hb hK hP 4 rfl (zix_nI (by first | assumption | omega) (by decide)) dX4_next_47 ?_
          refine z_tv (v := uP ca) (rfl) ?_
          refine lv_icmp_ne (tgt := 68) hx hb dX4_next_48 (by decide) (fun c_48 => ?_) (fun c_48 => ?_)
          · skip
            refine lv_iconst (v := 0) hx hb dX4_next_68 (by decide) ?_
            refine z_tv (v := if uP ca < uS (20 * ca + i) ∨ (uS (20 * ca + i) = uP ca ∧ ¬ nI i ≤ uQ ca) then (1 : Int32) else 0) (by grind) ?_
            exact J69_2 _ (lv_sub hl [0, 1, 2, 3, 4] rfl)
          · skip
            refine lv_iload hx hb dX4_next_51 (lv_at hl 4 rfl) ?_
            refine lv_iload_n hx hb dX4_next_53 rfl (lv_at hl 3 rfl) ?_
            refine lv_isub hx hb dX4_next_54 ?_
            refine z_tv (v := nI i) (z_sb) ?_
            refine lv_aload_n hx hb dX4_next_55 rfl (lv_at hl 0 rfl) ?_
            refine va_get (D := (dC, dI)) (ci := 4) (v := .ref (ma 15)) (C := RX4) (T := TX4) (N := 22) hx hb hts hiX4 hown hK hP 0 rfl rfl 15 (by decide) l53 (fun _ h9 => h9) rfl dX4_next_56 ?_
            refine lv_iload_n hx hb dX4_next_59 rfl (lv_at hl 1 rfl) ?_
            refine z_iald hx hb hK hP 5 rfl (zix_nI (by first | assumption | omega) (by decide)) dX4_next_60 ?_
            refine z_tv (v := uQ ca) (rfl) ?_
            refine lv_icmp_le (tgt := 68) hx hb dX4_next_61 (by decide) (fun c_61 => ?_) (fun c_61 => ?_)
            · skip
              refine lv_iconst (v := 0) hx hb dX4_next_68 (by decide) ?_
              refine z_tv (v := if uP ca < uS (20 * ca + i) ∨ (uS (20 * ca + i) = uP ca ∧ ¬ nI i ≤ uQ ca) then (1 : Int32) else 0) (by grind) ?_
              exact J69_2 _ (lv_sub hl [0, 1, 2, 3, 4] rfl)
            · skip
              refine lv_iconst (v := 1) hx hb dX4_next_64 (by decide) ?_
              refine lv_goto (tgt := 69) hx hb dX4_next_65 (by decide) ?_
              refine z_tv (v := if uP ca < uS (20 * ca + i) ∨ (uS (20 * ca + i) = uP ca ∧ ¬ nI i ≤ uQ ca) then (1 : Int32) else 0) (by grind) ?_
              exact J69_2 _ (lv_sub hl [0, 1, 2, 3, 4] rfl)
  exact LOOP1 (20 + 1) 0 (by omega) (by omega)  _ (lv_cg (lv_sub (l' := [(0, .ref (ma 0)), (1, .int (nI ca)), (2, .int (-1)), (3, .int (nI (20 * ca))), (4, .int (nI (20 * ca)))]) hl [3, 4, 2, 1, 0] rfl) (zl_k (zl_k (zl_c (rfl) (zl_k (zl_c (rfl) (rfl)))))))
set_option maxHeartbeats 4000000 in
set_option maxRecDepth 100000 in
/-- Model.takes -/
theorem kX4_takes (l : Launch) (dC : Nat → ClassId) (dI : Nat → Nat → Nat) (cI cZ cH cJ : ClassId) (ma : Nat → Nat) (now : Int32) (th : Int32) (uK : zI) (uW : zI) (uV : zI) (uS : zI) (uP : zI) (uQ : zI) (uH : zI) (xW : zI) (xV : zI) (xS : zI) (uN : zI) (ca : Nat) (hca : ca < 4) (r : Nat) (hrr : r < 20) (sz : Nat) : Met l yX4_takes wsX4_takes ({ frames := 0, cells := 0, slots := 0, locals := 0 }) (zPc dC dI (zTy cI cZ cH cJ) [.ref (ma 0), .int (nI ca), .int (nI (20 * ca + r))] sz ([(ma 0, .inr (4, [.int now, .ref (ma 1), .ref (ma 2), .ref (ma 3), .ref (ma 4), .ref (ma 5), .ref (ma 6), .ref (ma 7), .ref (ma 8), .ref (ma 9), .ref (ma 10), .ref (ma 11), .ref (ma 12), .ref (ma 13), .ref (ma 14), .ref (ma 15), .ref (ma 16), .ref (ma 17), .ref (ma 18), .ref (ma 19), .ref (ma 20), .int th])), (ma 3, .inl (cI, 80, .inl uK)), (ma 4, .inl (cI, 80, .inl uW)), (ma 5, .inl (cI, 80, .inl uV)), (ma 6, .inl (cI, 80, .inl uS)), (ma 14, .inl (cI, 4, .inl uP)), (ma 15, .inl (cI, 4, .inl uQ)), (ma 16, .inl (cZ, 80, .inl uH)), (ma 17, .inl (cI, 80, .inl xW)), (ma 18, .inl (cI, 80, .inl xV)), (ma 19, .inl (cI, 80, .inl xS)), (ma 20, .inl (cZ, 80, .inl uN))])) (zQv dC dI ([(ma 0, .inr (4, [.int now, .ref (ma 1), .ref (ma 2), .ref (ma 3), .ref (ma 4), .ref (ma 5), .ref (ma 6), .ref (ma 7), .ref (ma 8), .ref (ma 9), .ref (ma 10), .ref (ma 11), .ref (ma 12), .ref (ma 13), .ref (ma 14), .ref (ma 15), .ref (ma 16), .ref (ma 17), .ref (ma 18), .ref (ma 19), .ref (ma 20), .int th])), (ma 3, .inl (cI, 80, .inl uK)), (ma 4, .inl (cI, 80, .inl uW)), (ma 5, .inl (cI, 80, .inl uV)), (ma 6, .inl (cI, 80, .inl uS)), (ma 14, .inl (cI, 4, .inl (upd uP ca (uS (20 * ca + r))))), (ma 15, .inl (cI, 4, .inl (upd uQ ca (nI r)))), (ma 16, .inl (cZ, 80, .inl (upd uH (20 * ca + r) (if uK (20 * ca + r) = 1 then (1 : Int32) else 0)))), (ma 17, .inl (cI, 80, .inl (upd xW (20 * ca + r) (uW (20 * ca + r))))), (ma 18, .inl (cI, 80, .inl (upd xV (20 * ca + r) (uV (20 * ca + r))))), (ma 19, .inl (cI, 80, .inl (upd xS (20 * ca + r) (uS (20 * ca + r))))), (ma 20, .inl (cZ, 80, .inl (upd uN (20 * ca + r) 1)))]) (va_A ([(ma 0, .inr (4, [.int now, .ref (ma 1), .ref (ma 2), .ref (ma 3), .ref (ma 4), .ref (ma 5), .ref (ma 6), .ref (ma 7), .ref (ma 8), .ref (ma 9), .ref (ma 10), .ref (ma 11), .ref (ma 12), .ref (ma 13), .ref (ma 14), .ref (ma 15), .ref (ma 16), .ref (ma 17), .ref (ma 18), .ref (ma 19), .ref (ma 20), .int th])), (ma 3, .inl (cI, 80, .inl uK)), (ma 4, .inl (cI, 80, .inl uW)), (ma 5, .inl (cI, 80, .inl uV)), (ma 6, .inl (cI, 80, .inl uS)), (ma 14, .inl (cI, 4, .inl uP)), (ma 15, .inl (cI, 4, .inl uQ)), (ma 16, .inl (cZ, 80, .inl uH)), (ma 17, .inl (cI, 80, .inl xW)), (ma 18, .inl (cI, 80, .inl xV)), (ma 19, .inl (cI, 80, .inl xS)), (ma 20, .inl (cZ, 80, .inl uN))]) sz)) 0 0 (va_A ([(ma 0, .inr (4, [.int now, .ref (ma 1), .ref (ma 2), .ref (ma 3), .ref (ma 4), .ref (ma 5), .ref (ma 6), .ref (ma 7), .ref (ma 8), .ref (ma 9), .ref (ma 10), .ref (ma 11), .ref (ma 12), .ref (ma 13), .ref (ma 14), .ref (ma 15), .ref (ma 16), .ref (ma 17), .ref (ma 18), .ref (ma 19), .ref (ma 20), .int th])), (ma 3, .inl (cI, 80, .inl uK)), (ma 4, .inl (cI, 80, .inl uW)), (ma 5, .inl (cI, 80, .inl uV)), (ma 6, .inl (cI, 80, .inl uS)), (ma 14, .inl (cI, 4, .inl uP)), (ma 15, .inl (cI, 4, .inl uQ)), (ma 16, .inl (cZ, 80, .inl uH)), (ma 17, .inl (cI, 80, .inl xW)), (ma 18, .inl (cI, 80, .inl xV)), (ma 19, .inl (cI, 80, .inl xS)), (ma 20, .inl (cZ, 80, .inl uN))]) sz) := by
  refine Met.ofW (cc := cX4_takes) (maxL := 3) (ret := none) (by decide) rfl ?_
  intro p e s m args below meth c s₁ B hml hv
  obtain ⟨rfl, hsz, hP, hK, hD0⟩ := hv
  have hx := B.exec
  have hb := B.bytes
  have hr := B.returns
  have hts := atoms_spec (ws := wsX4_takes) B.pre
  have hown : s.vm.findClass RX4 = some m.cls := findClass_of_methodNamed B.named
  have hlocks := B.notSynchronized
  subst hsz
  have hD := hD0.self (sz := s.heap.size)
  generalize hAe : va_A ([(ma 0, .inr (4, [.int now, .ref (ma 1), .ref (ma 2), .ref (ma 3), .ref (ma 4), .ref (ma 5), .ref (ma 6), .ref (ma 7), .ref (ma 8), .ref (ma 9), .ref (ma 10), .ref (ma 11), .ref (ma 12), .ref (ma 13), .ref (ma 14), .ref (ma 15), .ref (ma 16), .ref (ma 17), .ref (ma 18), .ref (ma 19), .ref (ma 20), .int th])), (ma 3, .inl (cI, 80, .inl uK)), (ma 4, .inl (cI, 80, .inl uW)), (ma 5, .inl (cI, 80, .inl uV)), (ma 6, .inl (cI, 80, .inl uS)), (ma 14, .inl (cI, 4, .inl uP)), (ma 15, .inl (cI, 4, .inl uQ)), (ma 16, .inl (cZ, 80, .inl uH)), (ma 17, .inl (cI, 80, .inl xW)), (ma 18, .inl (cI, 80, .inl xV)), (ma 19, .inl (cI, 80, .inl xS)), (ma 20, .inl (cZ, 80, .inl uN))]) s.heap.size = A at hD ⊢
  have hA : ∀ q : Nat, s.heap.size ≤ q → A q := fun q h => by rw [← hAe]; exact Or.inr h
  have hS : va_S A s.heap s.heap [] := va_S.rf
  have hl := lv_entry ([.ref (ma 0), .int (nI ca), .int (nI (20 * ca + r))]) (n := 3) (Nat.le_of_ble_eq_true rfl)
  rw [lg_entry_eq]
  generalize (lg_sl ([.ref (ma 0), .int (nI ca), .int (nI (20 * ca + r))]) ++ List.replicate (3 - (lg_sl ([.ref (ma 0), .int (nI ca), .int (nI (20 * ca + r))])).length) Slot.unset).toArray = ls at hl ⊢
  have hl : lv_has ls 3 [(0, .ref (ma 0)), (1, .int (nI ca)), (2, .int (nI (20 * ca + r)))] := hl
  have hiX4 : ∀ w ∈ wsX40, w ∈ wsX4_takes := by decide +kernel
  have l16 := hts (.fieldLink RX4 16 "CatalogueHarvesterModel" "kinds" "[I") (by decide +kernel)
  have l19 := hts (.fieldLink RX4 19 "CatalogueHarvesterModel" "works" "[I") (by decide +kernel)
  have l22 := hts (.fieldLink RX4 22 "CatalogueHarvesterModel" "values" "[I") (by decide +kernel)
  have l25 := hts (.fieldLink RX4 25 "CatalogueHarvesterModel" "stamps" "[I") (by decide +kernel)
  have l50 := hts (.fieldLink RX4 50 "CatalogueHarvesterModel" "placeStamps" "[I") (by decide +kernel)
  have l53 := hts (.fieldLink RX4 53 "CatalogueHarvesterModel" "placeRecords" "[I") (by decide +kernel)
  have l56 := hts (.fieldLink RX4 56 "CatalogueHarvesterModel" "isHeld" "[Z") (by decide +kernel)
  have l59 := hts (.fieldLink RX4 59 "CatalogueHarvesterModel" "heldWorks" "[I") (by decide +kernel)
  have l62 := hts (.fieldLink RX4 62 "CatalogueHarvesterModel" "heldValues" "[I") (by decide +kernel)
  have l65 := hts (.fieldLink RX4 65 "CatalogueHarvesterModel" "heldStamps" "[I") (by decide +kernel)
  have l68 := hts (.fieldLink RX4 68 "CatalogueHarvesterModel" "wasSeen" "[Z") (by decide +kernel)
  refine lv_aload_n hx hb dX4_takes_0 rfl (lv_at hl 0 rfl) ?_
  refine va_get (D := (dC, dI)) (ci := 4) (v := .ref (ma 16)) (C := RX4) (T := TX4) (N := 22) hx hb hts hiX4 hown hK hP 0 rfl rfl 16 (by decide) l56 (fun _ h9 => h9) rfl dX4_takes_1 ?_
  refine lv_iload_n hx hb dX4_takes_4 rfl (lv_at hl 2 rfl) ?_
  have J20_1 : ∀ (ls : Array Slot), lv_has ls 3 [(0, .ref (ma 0)), (1, .int (nI ca)), (2, .int (nI (20 * ca + r)))] → W p l e (headSpec wsX4_takes ({ frames := 0, cells := 0, slots := 0, locals := 0 })).room s m ([.ref (ma 0), .int (nI ca), .int (nI (20 * ca + r))] : List Value).toArray below meth c s.heap [] 0 0 (MQ below (zQv dC dI ([(ma 0, .inr (4, [.int now, .ref (ma 1), .ref (ma 2), .ref (ma 3), .ref (ma 4), .ref (ma 5), .ref (ma 6), .ref (ma 7), .ref (ma 8), .ref (ma 9), .ref (ma 10), .ref (ma 11), .ref (ma 12), .ref (ma 13), .ref (ma 14), .ref (ma 15), .ref (ma 16), .ref (ma 17), .ref (ma 18), .ref (ma 19), .ref (ma 20), .int th])), (ma 3, .inl (cI, 80, .inl uK)), (ma 4, .inl (cI, 80, .inl uW)), (ma 5, .inl (cI, 80, .inl uV)), (ma 6, .inl (cI, 80, .inl uS)), (ma 14, .inl (cI, 4, .inl (upd uP ca (uS (20 * ca + r))))), (ma 15, .inl (cI, 4, .inl (upd uQ ca (nI r)))), (ma 16, .inl (cZ, 80, .inl (upd uH (20 * ca + r) (if uK (20 * ca + r) = 1 then (1 : Int32) else 0)))), (ma 17, .inl (cI, 80, .inl (upd xW (20 * ca + r) (uW (20 * ca + r))))), (ma 18, .inl (cI, 80, .inl (upd xV (20 * ca + r) (uV (20 * ca + r))))), (ma 19, .inl (cI, 80, .inl (upd xS (20 * ca + r) (uS (20 * ca + r))))), (ma 20, .inl (cZ, 80, .inl (upd uN (20 * ca + r) 1)))]) A) ([.ref (ma 0), .int (nI ca), .int (nI (20 * ca + r))] : List Value).toArray s 0 0 A) (F0 m 20 ls [.int (if uK (20 * ca + r) = 1 then (1 : Int32) else 0), .int (nI (20 * ca + r)), .ref (ma 16)]) := by
    intro ls hl
    refine z_zast (v := if uK (20 * ca + r) = 1 then (1 : Int32) else 0) hx hb hK hP hD hS 7 rfl (zix_nI (by first | assumption | omega) (by decide)) (z_vb _) dX4_takes_20 (fun H locs hP hD hS => ?_)
    have hP : va_P (dC, dI) vwCl ([(ma 0, .inr (4, [.int now, .ref (ma 1), .ref (ma 2), .ref (ma 3), .ref (ma 4), .ref (ma 5), .ref (ma 6), .ref (ma 7), .ref (ma 8), .ref (ma 9), .ref (ma 10), .ref (ma 11), .ref (ma 12), .ref (ma 13), .ref (ma 14), .ref (ma 15), .ref (ma 16), .ref (ma 17), .ref (ma 18), .ref (ma 19), .ref (ma 20), .int th])), (ma 3, .inl (cI, 80, .inl uK)), (ma 4, .inl (cI, 80, .inl uW)), (ma 5, .inl (cI, 80, .inl uV)), (ma 6, .inl (cI, 80, .inl uS)), (ma 14, .inl (cI, 4, .inl uP)), (ma 15, .inl (cI, 4, .inl uQ)), (ma 16, .inl (cZ, 80, .inl (upd uH (20 * ca + r) (if uK (20 * ca + r) = 1 then (1 : Int32) else 0)))), (ma 17, .inl (cI, 80, .inl xW)), (ma 18, .inl (cI, 80, .inl xV)), (ma 19, .inl (cI, 80, .inl xS)), (ma 20, .inl (cZ, 80, .inl uN))]) H := hP
    have hD : va_D A ([(ma 0, .inr (4, [.int now, .ref (ma 1), .ref (ma 2), .ref (ma 3), .ref (ma 4), .ref (ma 5), .ref (ma 6), .ref (ma 7), .ref (ma 8), .ref (ma 9), .ref (ma 10), .ref (ma 11), .ref (ma 12), .ref (ma 13), .ref (ma 14), .ref (ma 15), .ref (ma 16), .ref (ma 17), .ref (ma 18), .ref (ma 19), .ref (ma 20), .int th])), (ma 3, .inl (cI, 80, .inl uK)), (ma 4, .inl (cI, 80, .inl uW)), (ma 5, .inl (cI, 80, .inl uV)), (ma 6, .inl (cI, 80, .inl uS)), (ma 14, .inl (cI, 4, .inl uP)), (ma 15, .inl (cI, 4, .inl uQ)), (ma 16, .inl (cZ, 80, .inl (upd uH (20 * ca + r) (if uK (20 * ca + r) = 1 then (1 : Int32) else 0)))), (ma 17, .inl (cI, 80, .inl xW)), (ma 18, .inl (cI, 80, .inl xV)), (ma 19, .inl (cI, 80, .inl xS)), (ma 20, .inl (cZ, 80, .inl uN))]) := hD
    refine lv_aload_n hx hb dX4_takes_21 rfl (lv_at hl 0 rfl) ?_
    refine va_get (D := (dC, dI)) (ci := 4) (v := .ref (ma 17)) (C := RX4) (T := TX4) (N := 22) hx hb hts hiX4 hown hK hP 0 rfl rfl 17 (by decide) l59 (fun _ h9 => h9) rfl dX4_takes_22 ?_
    refine lv_iload_n hx hb dX4_takes_25 rfl (lv_at hl 2 rfl) ?_
    refine lv_aload_n hx hb dX4_takes_26 rfl (lv_at hl 0 rfl) ?_
    refine va_get (D := (dC, dI)) (ci := 4) (v := .ref (ma 4)) (C := RX4) (T := TX4) (N := 22) hx hb hts hiX4 hown hK hP 0 rfl rfl 4 (by decide) l19 (fun _ h9 => h9) rfl dX4_takes_27 ?_
    refine lv_iload_n hx hb dX4_takes_30 rfl (lv_at hl 2 rfl) ?_
    refine z_iald hx hb hK hP 2 rfl (zix_nI (by first | assumption | omega) (by decide)) dX4_takes_31 ?_
    refine z_tv (v := uW (20 * ca + r)) (rfl) ?_
    refine z_iast hx hb hK hP hD hS 8 rfl (zix_nI (by first | assumption | omega) (by decide)) dX4_takes_32 (fun H locs hP hD hS => ?_)
    have hP : va_P (dC, dI) vwCl ([(ma 0, .inr (4, [.int now, .ref (ma 1), .ref (ma 2), .ref (ma 3), .ref (ma 4), .ref (ma 5), .ref (ma 6), .ref (ma 7), .ref (ma 8), .ref (ma 9), .ref (ma 10), .ref (ma 11), .ref (ma 12), .ref (ma 13), .ref (ma 14), .ref (ma 15), .ref (ma 16), .ref (ma 17), .ref (ma 18), .ref (ma 19), .ref (ma 20), .int th])), (ma 3, .inl (cI, 80, .inl uK)), (ma 4, .inl (cI, 80, .inl uW)), (ma 5, .inl (cI, 80, .inl uV)), (ma 6, .inl (cI, 80, .inl uS)), (ma 14, .inl (cI, 4, .inl uP)), (ma 15, .inl (cI, 4, .inl uQ)), (ma 16, .inl (cZ, 80, .inl (upd uH (20 * ca + r) (if uK (20 * ca + r) = 1 then (1 : Int32) else 0)))), (ma 17, .inl (cI, 80, .inl (upd xW (20 * ca + r) (uW (20 * ca + r))))), (ma 18, .inl (cI, 80, .inl xV)), (ma 19, .inl (cI, 80, .inl xS)), (ma 20, .inl (cZ, 80, .inl uN))]) H := hP
    have hD : va_D A ([(ma 0, .inr (4, [.int now, .ref (ma 1), .ref (ma 2), .ref (ma 3), .ref (ma 4), .ref (ma 5), .ref (ma 6), .ref (ma 7), .ref (ma 8), .ref (ma 9), .ref (ma 10), .ref (ma 11), .ref (ma 12), .ref (ma 13), .ref (ma 14), .ref (ma 15), .ref (ma 16), .ref (ma 17), .ref (ma 18), .ref (ma 19), .ref (ma 20), .int th])), (ma 3, .inl (cI, 80, .inl uK)), (ma 4, .inl (cI, 80, .inl uW)), (ma 5, .inl (cI, 80, .inl uV)), (ma 6, .inl (cI, 80, .inl uS)), (ma 14, .inl (cI, 4, .inl uP)), (ma 15, .inl (cI, 4, .inl uQ)), (ma 16, .inl (cZ, 80, .inl (upd uH (20 * ca + r) (if uK (20 * ca + r) = 1 then (1 : Int32) else 0)))), (ma 17, .inl (cI, 80, .inl (upd xW (20 * ca + r) (uW (20 * ca + r))))), (ma 18, .inl (cI, 80, .inl xV)), (ma 19, .inl (cI, 80, .inl xS)), (ma 20, .inl (cZ, 80, .inl uN))]) := hD
    refine lv_aload_n hx hb dX4_takes_33 rfl (lv_at hl 0 rfl) ?_
    refine va_get (D := (dC, dI)) (ci := 4) (v := .ref (ma 18)) (C := RX4) (T := TX4) (N := 22) hx hb hts hiX4 hown hK hP 0 rfl rfl 18 (by decide) l62 (fun _ h9 => h9) rfl dX4_takes_34 ?_
    refine lv_iload_n hx hb dX4_takes_37 rfl (lv_at hl 2 rfl) ?_
    refine lv_aload_n hx hb dX4_takes_38 rfl (lv_at hl 0 rfl) ?_
    refine va_get (D := (dC, dI)) (ci := 4) (v := .ref (ma 5)) (C := RX4) (T := TX4) (N := 22) hx hb hts hiX4 hown hK hP 0 rfl rfl 5 (by decide) l22 (fun _ h9 => h9) rfl dX4_takes_39 ?_
    refine lv_iload_n hx hb dX4_takes_42 rfl (lv_at hl 2 rfl) ?_
    refine z_iald hx hb hK hP 3 rfl (zix_nI (by first | assumption | omega) (by decide)) dX4_takes_43 ?_
    refine z_tv (v := uV (20 * ca + r)) (rfl) ?_
    refine z_iast hx hb hK hP hD hS 9 rfl (zix_nI (by first | assumption | omega) (by decide)) dX4_takes_44 (fun H locs hP hD hS => ?_)
    have hP : va_P (dC, dI) vwCl ([(ma 0, .inr (4, [.int now, .ref (ma 1), .ref (ma 2), .ref (ma 3), .ref (ma 4), .ref (ma 5), .ref (ma 6), .ref (ma 7), .ref (ma 8), .ref (ma 9), .ref (ma 10), .ref (ma 11), .ref (ma 12), .ref (ma 13), .ref (ma 14), .ref (ma 15), .ref (ma 16), .ref (ma 17), .ref (ma 18), .ref (ma 19), .ref (ma 20), .int th])), (ma 3, .inl (cI, 80, .inl uK)), (ma 4, .inl (cI, 80, .inl uW)), (ma 5, .inl (cI, 80, .inl uV)), (ma 6, .inl (cI, 80, .inl uS)), (ma 14, .inl (cI, 4, .inl uP)), (ma 15, .inl (cI, 4, .inl uQ)), (ma 16, .inl (cZ, 80, .inl (upd uH (20 * ca + r) (if uK (20 * ca + r) = 1 then (1 : Int32) else 0)))), (ma 17, .inl (cI, 80, .inl (upd xW (20 * ca + r) (uW (20 * ca + r))))), (ma 18, .inl (cI, 80, .inl (upd xV (20 * ca + r) (uV (20 * ca + r))))), (ma 19, .inl (cI, 80, .inl xS)), (ma 20, .inl (cZ, 80, .inl uN))]) H := hP
    have hD : va_D A ([(ma 0, .inr (4, [.int now, .ref (ma 1), .ref (ma 2), .ref (ma 3), .ref (ma 4), .ref (ma 5), .ref (ma 6), .ref (ma 7), .ref (ma 8), .ref (ma 9), .ref (ma 10), .ref (ma 11), .ref (ma 12), .ref (ma 13), .ref (ma 14), .ref (ma 15), .ref (ma 16), .ref (ma 17), .ref (ma 18), .ref (ma 19), .ref (ma 20), .int th])), (ma 3, .inl (cI, 80, .inl uK)), (ma 4, .inl (cI, 80, .inl uW)), (ma 5, .inl (cI, 80, .inl uV)), (ma 6, .inl (cI, 80, .inl uS)), (ma 14, .inl (cI, 4, .inl uP)), (ma 15, .inl (cI, 4, .inl uQ)), (ma 16, .inl (cZ, 80, .inl (upd uH (20 * ca + r) (if uK (20 * ca + r) = 1 then (1 : Int32) else 0)))), (ma 17, .inl (cI, 80, .inl (upd xW (20 * ca + r) (uW (20 * ca + r))))), (ma 18, .inl (cI, 80, .inl (upd xV (20 * ca + r) (uV (20 * ca + r))))), (ma 19, .inl (cI, 80, .inl xS)), (ma 20, .inl (cZ, 80, .inl uN))]) := hD
    refine lv_aload_n hx hb dX4_takes_45 rfl (lv_at hl 0 rfl) ?_
    refine va_get (D := (dC, dI)) (ci := 4) (v := .ref (ma 19)) (C := RX4) (T := TX4) (N := 22) hx hb hts hiX4 hown hK hP 0 rfl rfl 19 (by decide) l65 (fun _ h9 => h9) rfl dX4_takes_46 ?_
    refine lv_iload_n hx hb dX4_takes_49 rfl (lv_at hl 2 rfl) ?_
    refine lv_aload_n hx hb dX4_takes_50 rfl (lv_at hl 0 rfl) ?_
    refine va_get (D := (dC, dI)) (ci := 4) (v := .ref (ma 6)) (C := RX4) (T := TX4) (N := 22) hx hb hts hiX4 hown hK hP 0 rfl rfl 6 (by decide) l25 (fun _ h9 => h9) rfl dX4_takes_51 ?_
    refine lv_iload_n hx hb dX4_takes_54 rfl (lv_at hl 2 rfl) ?_
    refine z_iald hx hb hK hP 4 rfl (zix_nI (by first | assumption | omega) (by decide)) dX4_takes_55 ?_
    refine z_tv (v := uS (20 * ca + r)) (rfl) ?_
    refine z_iast hx hb hK hP hD hS 10 rfl (zix_nI (by first | assumption | omega) (by decide)) dX4_takes_56 (fun H locs hP hD hS => ?_)
    have hP : va_P (dC, dI) vwCl ([(ma 0, .inr (4, [.int now, .ref (ma 1), .ref (ma 2), .ref (ma 3), .ref (ma 4), .ref (ma 5), .ref (ma 6), .ref (ma 7), .ref (ma 8), .ref (ma 9), .ref (ma 10), .ref (ma 11), .ref (ma 12), .ref (ma 13), .ref (ma 14), .ref (ma 15), .ref (ma 16), .ref (ma 17), .ref (ma 18), .ref (ma 19), .ref (ma 20), .int th])), (ma 3, .inl (cI, 80, .inl uK)), (ma 4, .inl (cI, 80, .inl uW)), (ma 5, .inl (cI, 80, .inl uV)), (ma 6, .inl (cI, 80, .inl uS)), (ma 14, .inl (cI, 4, .inl uP)), (ma 15, .inl (cI, 4, .inl uQ)), (ma 16, .inl (cZ, 80, .inl (upd uH (20 * ca + r) (if uK (20 * ca + r) = 1 then (1 : Int32) else 0)))), (ma 17, .inl (cI, 80, .inl (upd xW (20 * ca + r) (uW (20 * ca + r))))), (ma 18, .inl (cI, 80, .inl (upd xV (20 * ca + r) (uV (20 * ca + r))))), (ma 19, .inl (cI, 80, .inl (upd xS (20 * ca + r) (uS (20 * ca + r))))), (ma 20, .inl (cZ, 80, .inl uN))]) H := hP
    have hD : va_D A ([(ma 0, .inr (4, [.int now, .ref (ma 1), .ref (ma 2), .ref (ma 3), .ref (ma 4), .ref (ma 5), .ref (ma 6), .ref (ma 7), .ref (ma 8), .ref (ma 9), .ref (ma 10), .ref (ma 11), .ref (ma 12), .ref (ma 13), .ref (ma 14), .ref (ma 15), .ref (ma 16), .ref (ma 17), .ref (ma 18), .ref (ma 19), .ref (ma 20), .int th])), (ma 3, .inl (cI, 80, .inl uK)), (ma 4, .inl (cI, 80, .inl uW)), (ma 5, .inl (cI, 80, .inl uV)), (ma 6, .inl (cI, 80, .inl uS)), (ma 14, .inl (cI, 4, .inl uP)), (ma 15, .inl (cI, 4, .inl uQ)), (ma 16, .inl (cZ, 80, .inl (upd uH (20 * ca + r) (if uK (20 * ca + r) = 1 then (1 : Int32) else 0)))), (ma 17, .inl (cI, 80, .inl (upd xW (20 * ca + r) (uW (20 * ca + r))))), (ma 18, .inl (cI, 80, .inl (upd xV (20 * ca + r) (uV (20 * ca + r))))), (ma 19, .inl (cI, 80, .inl (upd xS (20 * ca + r) (uS (20 * ca + r))))), (ma 20, .inl (cZ, 80, .inl uN))]) := hD
    refine lv_aload_n hx hb dX4_takes_57 rfl (lv_at hl 0 rfl) ?_
    refine va_get (D := (dC, dI)) (ci := 4) (v := .ref (ma 20)) (C := RX4) (T := TX4) (N := 22) hx hb hts hiX4 hown hK hP 0 rfl rfl 20 (by decide) l68 (fun _ h9 => h9) rfl dX4_takes_58 ?_
    refine lv_iload_n hx hb dX4_takes_61 rfl (lv_at hl 2 rfl) ?_
    refine lv_iconst (v := 1) hx hb dX4_takes_62 (by decide) ?_
    refine z_zast (v := 1) hx hb hK hP hD hS 11 rfl (zix_nI (by first | assumption | omega) (by decide)) (rfl) dX4_takes_63 (fun H locs hP hD hS => ?_)
    have hP : va_P (dC, dI) vwCl ([(ma 0, .inr (4, [.int now, .ref (ma 1), .ref (ma 2), .ref (ma 3), .ref (ma 4), .ref (ma 5), .ref (ma 6), .ref (ma 7), .ref (ma 8), .ref (ma 9), .ref (ma 10), .ref (ma 11), .ref (ma 12), .ref (ma 13), .ref (ma 14), .ref (ma 15), .ref (ma 16), .ref (ma 17), .ref (ma 18), .ref (ma 19), .ref (ma 20), .int th])), (ma 3, .inl (cI, 80, .inl uK)), (ma 4, .inl (cI, 80, .inl uW)), (ma 5, .inl (cI, 80, .inl uV)), (ma 6, .inl (cI, 80, .inl uS)), (ma 14, .inl (cI, 4, .inl uP)), (ma 15, .inl (cI, 4, .inl uQ)), (ma 16, .inl (cZ, 80, .inl (upd uH (20 * ca + r) (if uK (20 * ca + r) = 1 then (1 : Int32) else 0)))), (ma 17, .inl (cI, 80, .inl (upd xW (20 * ca + r) (uW (20 * ca + r))))), (ma 18, .inl (cI, 80, .inl (upd xV (20 * ca + r) (uV (20 * ca + r))))), (ma 19, .inl (cI, 80, .inl (upd xS (20 * ca + r) (uS (20 * ca + r))))), (ma 20, .inl (cZ, 80, .inl (upd uN (20 * ca + r) 1)))]) H := hP
    have hD : va_D A ([(ma 0, .inr (4, [.int now, .ref (ma 1), .ref (ma 2), .ref (ma 3), .ref (ma 4), .ref (ma 5), .ref (ma 6), .ref (ma 7), .ref (ma 8), .ref (ma 9), .ref (ma 10), .ref (ma 11), .ref (ma 12), .ref (ma 13), .ref (ma 14), .ref (ma 15), .ref (ma 16), .ref (ma 17), .ref (ma 18), .ref (ma 19), .ref (ma 20), .int th])), (ma 3, .inl (cI, 80, .inl uK)), (ma 4, .inl (cI, 80, .inl uW)), (ma 5, .inl (cI, 80, .inl uV)), (ma 6, .inl (cI, 80, .inl uS)), (ma 14, .inl (cI, 4, .inl uP)), (ma 15, .inl (cI, 4, .inl uQ)), (ma 16, .inl (cZ, 80, .inl (upd uH (20 * ca + r) (if uK (20 * ca + r) = 1 then (1 : Int32) else 0)))), (ma 17, .inl (cI, 80, .inl (upd xW (20 * ca + r) (uW (20 * ca + r))))), (ma 18, .inl (cI, 80, .inl (upd xV (20 * ca + r) (uV (20 * ca + r))))), (ma 19, .inl (cI, 80, .inl (upd xS (20 * ca + r) (uS (20 * ca + r))))), (ma 20, .inl (cZ, 80, .inl (upd uN (20 * ca + r) 1)))]) := hD
    refine lv_aload_n hx hb dX4_takes_64 rfl (lv_at hl 0 rfl) ?_
    refine va_get (D := (dC, dI)) (ci := 4) (v := .ref (ma 14)) (C := RX4) (T := TX4) (N := 22) hx hb hts hiX4 hown hK hP 0 rfl rfl 14 (by decide) l50 (fun _ h9 => h9) rfl dX4_takes_65 ?_
    refine lv_iload_n hx hb dX4_takes_68 rfl (lv_at hl 1 rfl) ?_
    refine lv_aload_n hx hb dX4_takes_69 rfl (lv_at hl 0 rfl) ?_
    refine va_get (D := (dC, dI)) (ci := 4) (v := .ref (ma 6)) (C := RX4) (T := TX4) (N := 22) hx hb hts hiX4 hown hK hP 0 rfl rfl 6 (by decide) l25 (fun _ h9 => h9) rfl dX4_takes_70 ?_
    refine lv_iload_n hx hb dX4_takes_73 rfl (lv_at hl 2 rfl) ?_
    refine z_iald hx hb hK hP 4 rfl (zix_nI (by first | assumption | omega) (by decide)) dX4_takes_74 ?_
    refine z_tv (v := uS (20 * ca + r)) (rfl) ?_
    refine z_iast hx hb hK hP hD hS 5 rfl (zix_nI (by first | assumption | omega) (by decide)) dX4_takes_75 (fun H locs hP hD hS => ?_)
    have hP : va_P (dC, dI) vwCl ([(ma 0, .inr (4, [.int now, .ref (ma 1), .ref (ma 2), .ref (ma 3), .ref (ma 4), .ref (ma 5), .ref (ma 6), .ref (ma 7), .ref (ma 8), .ref (ma 9), .ref (ma 10), .ref (ma 11), .ref (ma 12), .ref (ma 13), .ref (ma 14), .ref (ma 15), .ref (ma 16), .ref (ma 17), .ref (ma 18), .ref (ma 19), .ref (ma 20), .int th])), (ma 3, .inl (cI, 80, .inl uK)), (ma 4, .inl (cI, 80, .inl uW)), (ma 5, .inl (cI, 80, .inl uV)), (ma 6, .inl (cI, 80, .inl uS)), (ma 14, .inl (cI, 4, .inl (upd uP ca (uS (20 * ca + r))))), (ma 15, .inl (cI, 4, .inl uQ)), (ma 16, .inl (cZ, 80, .inl (upd uH (20 * ca + r) (if uK (20 * ca + r) = 1 then (1 : Int32) else 0)))), (ma 17, .inl (cI, 80, .inl (upd xW (20 * ca + r) (uW (20 * ca + r))))), (ma 18, .inl (cI, 80, .inl (upd xV (20 * ca + r) (uV (20 * ca + r))))), (ma 19, .inl (cI, 80, .inl (upd xS (20 * ca + r) (uS (20 * ca + r))))), (ma 20, .inl (cZ, 80, .inl (upd uN (20 * ca + r) 1)))]) H := hP
    have hD : va_D A ([(ma 0, .inr (4, [.int now, .ref (ma 1), .ref (ma 2), .ref (ma 3), .ref (ma 4), .ref (ma 5), .ref (ma 6), .ref (ma 7), .ref (ma 8), .ref (ma 9), .ref (ma 10), .ref (ma 11), .ref (ma 12), .ref (ma 13), .ref (ma 14), .ref (ma 15), .ref (ma 16), .ref (ma 17), .ref (ma 18), .ref (ma 19), .ref (ma 20), .int th])), (ma 3, .inl (cI, 80, .inl uK)), (ma 4, .inl (cI, 80, .inl uW)), (ma 5, .inl (cI, 80, .inl uV)), (ma 6, .inl (cI, 80, .inl uS)), (ma 14, .inl (cI, 4, .inl (upd uP ca (uS (20 * ca + r))))), (ma 15, .inl (cI, 4, .inl uQ)), (ma 16, .inl (cZ, 80, .inl (upd uH (20 * ca + r) (if uK (20 * ca + r) = 1 then (1 : Int32) else 0)))), (ma 17, .inl (cI, 80, .inl (upd xW (20 * ca + r) (uW (20 * ca + r))))), (ma 18, .inl (cI, 80, .inl (upd xV (20 * ca + r) (uV (20 * ca + r))))), (ma 19, .inl (cI, 80, .inl (upd xS (20 * ca + r) (uS (20 * ca + r))))), (ma 20, .inl (cZ, 80, .inl (upd uN (20 * ca + r) 1)))]) := hD
    refine lv_aload_n hx hb dX4_takes_76 rfl (lv_at hl 0 rfl) ?_
    refine va_get (D := (dC, dI)) (ci := 4) (v := .ref (ma 15)) (C := RX4) (T := TX4) (N := 22) hx hb hts hiX4 hown hK hP 0 rfl rfl 15 (by decide) l53 (fun _ h9 => h9) rfl dX4_takes_77 ?_
    refine lv_iload_n hx hb dX4_takes_80 rfl (lv_at hl 1 rfl) ?_
    refine lv_iload_n hx hb dX4_takes_81 rfl (lv_at hl 2 rfl) ?_
    refine lv_bipush (v := 20) hx hb dX4_takes_82 (by decide) ?_
    refine lv_iload_n hx hb dX4_takes_84 rfl (lv_at hl 1 rfl) ?_
    refine lv_imul hx hb dX4_takes_85 ?_
    refine z_tv (v := nI (20 * ca)) (pk_mul 20 ca) ?_
    refine lv_isub hx hb dX4_takes_86 ?_
    refine z_tv (v := nI r) (z_sb) ?_
    refine z_iast hx hb hK hP hD hS 6 rfl (zix_nI (by first | assumption | omega) (by decide)) dX4_takes_87 (fun H locs hP hD hS => ?_)
    have hP : va_P (dC, dI) vwCl ([(ma 0, .inr (4, [.int now, .ref (ma 1), .ref (ma 2), .ref (ma 3), .ref (ma 4), .ref (ma 5), .ref (ma 6), .ref (ma 7), .ref (ma 8), .ref (ma 9), .ref (ma 10), .ref (ma 11), .ref (ma 12), .ref (ma 13), .ref (ma 14), .ref (ma 15), .ref (ma 16), .ref (ma 17), .ref (ma 18), .ref (ma 19), .ref (ma 20), .int th])), (ma 3, .inl (cI, 80, .inl uK)), (ma 4, .inl (cI, 80, .inl uW)), (ma 5, .inl (cI, 80, .inl uV)), (ma 6, .inl (cI, 80, .inl uS)), (ma 14, .inl (cI, 4, .inl (upd uP ca (uS (20 * ca + r))))), (ma 15, .inl (cI, 4, .inl (upd uQ ca (nI r)))), (ma 16, .inl (cZ, 80, .inl (upd uH (20 * ca + r) (if uK (20 * ca + r) = 1 then (1 : Int32) else 0)))), (ma 17, .inl (cI, 80, .inl (upd xW (20 * ca + r) (uW (20 * ca + r))))), (ma 18, .inl (cI, 80, .inl (upd xV (20 * ca + r) (uV (20 * ca + r))))), (ma 19, .inl (cI, 80, .inl (upd xS (20 * ca + r) (uS (20 * ca + r))))), (ma 20, .inl (cZ, 80, .inl (upd uN (20 * ca + r) 1)))]) H := hP
    have hD : va_D A ([(ma 0, .inr (4, [.int now, .ref (ma 1), .ref (ma 2), .ref (ma 3), .ref (ma 4), .ref (ma 5), .ref (ma 6), .ref (ma 7), .ref (ma 8), .ref (ma 9), .ref (ma 10), .ref (ma 11), .ref (ma 12), .ref (ma 13), .ref (ma 14), .ref (ma 15), .ref (ma 16), .ref (ma 17), .ref (ma 18), .ref (ma 19), .ref (ma 20), .int th])), (ma 3, .inl (cI, 80, .inl uK)), (ma 4, .inl (cI, 80, .inl uW)), (ma 5, .inl (cI, 80, .inl uV)), (ma 6, .inl (cI, 80, .inl uS)), (ma 14, .inl (cI, 4, .inl (upd uP ca (uS (20 * ca + r))))), (ma 15, .inl (cI, 4, .inl (upd uQ ca (nI r)))), (ma 16, .inl (cZ, 80, .inl (upd uH (20 * ca + r) (if uK (20 * ca + r) = 1 then (1 : Int32) else 0)))), (ma 17, .inl (cI, 80, .inl (upd xW (20 * ca + r) (uW (20 * ca + r))))), (ma 18, .inl (cI, 80, .inl (upd xV (20 * ca + r) (uV (20 * ca + r))))), (ma 19, .inl (cI, 80, .inl (upd xS (20 * ca + r) (uS (20 * ca + r))))), (ma 20, .inl (cZ, 80, .inl (upd uN (20 * ca + r) 1)))]) := hD
    exact W.vret hx hb hr (fun t ht hW => ⟨rfl, ⟨by rw [ht]; exact hP, hD⟩, hS.F ht⟩) hS.2.2 dX4_takes_88
  refine lv_aload_n hx hb dX4_takes_5 rfl (lv_at hl 0 rfl) ?_
  refine va_get (D := (dC, dI)) (ci := 4) (v := .ref (ma 3)) (C := RX4) (T := TX4) (N := 22) hx hb hts hiX4 hown hK hP 0 rfl rfl 3 (by decide) l16 (fun _ h9 => h9) rfl dX4_takes_6 ?_
  refine lv_iload_n hx hb dX4_takes_9 rfl (lv_at hl 2 rfl) ?_
  refine z_iald hx hb hK hP 1 rfl (zix_nI (by first | assumption | omega) (by decide)) dX4_takes_10 ?_
  refine z_tv (v := uK (20 * ca + r)) (rfl) ?_
  refine lv_iconst (v := 1) hx hb dX4_takes_11 (by decide) ?_
  refine lv_icmp_ne (tgt := 19) hx hb dX4_takes_12 (by decide) (fun c_12 => ?_) (fun c_12 => ?_)
  · skip
    refine lv_iconst (v := 0) hx hb dX4_takes_19 (by decide) ?_
    refine z_tv (v := if uK (20 * ca + r) = 1 then (1 : Int32) else 0) (by simp [c_12]) ?_
    exact J20_1 _ (lv_sub hl [0, 1, 2] rfl)
  · skip
    refine lv_iconst (v := 1) hx hb dX4_takes_15 (by decide) ?_
    refine lv_goto (tgt := 20) hx hb dX4_takes_16 (by decide) ?_
    refine z_tv (v := if uK (20 * ca + r) = 1 then (1 : Int32) else 0) (by simp [c_12]) ?_
    exact J20_1 _ (lv_sub hl [0, 1, 2] rfl)
set_option maxHeartbeats 4000000 in
set_option maxRecDepth 100000 in
/-- Model.isAlike -/
theorem kX4_isAlike (l : Launch) (dC : Nat → ClassId) (dI : Nat → Nat → Nat) (cI cZ cH cJ : ClassId) (ma : Nat → Nat) (now : Int32) (th : Int32) (uW : zI) (uV : zI) (uS : zI) (uH : zI) (xW : zI) (xV : zI) (xS : zI) (k : Nat) (hk : k < 80) : Met l yX4_isAlike wsX4_isAlike ({ frames := 0, cells := 0, slots := 0, locals := 0 }) (zRc dC dI (zTy cI cZ cH cJ) [.ref (ma 0), .int (nI k)] ([(ma 0, .inr (4, [.int now, .ref (ma 1), .ref (ma 2), .ref (ma 3), .ref (ma 4), .ref (ma 5), .ref (ma 6), .ref (ma 7), .ref (ma 8), .ref (ma 9), .ref (ma 10), .ref (ma 11), .ref (ma 12), .ref (ma 13), .ref (ma 14), .ref (ma 15), .ref (ma 16), .ref (ma 17), .ref (ma 18), .ref (ma 19), .ref (ma 20), .int th])), (ma 4, .inl (cI, 80, .inl uW)), (ma 5, .inl (cI, 80, .inl uV)), (ma 6, .inl (cI, 80, .inl uS)), (ma 16, .inl (cZ, 80, .inl uH)), (ma 17, .inl (cI, 80, .inl xW)), (ma 18, .inl (cI, 80, .inl xV)), (ma 19, .inl (cI, 80, .inl xS))])) (zSi (yali uH xW xV xS uW uV uS k)) 0 0 (fun _ => False) := by
  refine Met.ofW (cc := cX4_isAlike) (maxL := 2) (ret := (some .boolean)) (by decide) rfl ?_
  intro p e s m args below meth c s₁ B hml hv
  obtain ⟨rfl, hP, hK⟩ := hv
  have hx := B.exec
  have hb := B.bytes
  have hr := B.returns
  have hts := atoms_spec (ws := wsX4_isAlike) B.pre
  have hown : s.vm.findClass RX4 = some m.cls := findClass_of_methodNamed B.named
  have hlocks := B.notSynchronized
  have hl := lv_entry ([.ref (ma 0), .int (nI k)]) (n := 2) (Nat.le_of_ble_eq_true rfl)
  rw [lg_entry_eq]
  generalize (lg_sl ([.ref (ma 0), .int (nI k)]) ++ List.replicate (2 - (lg_sl ([.ref (ma 0), .int (nI k)])).length) Slot.unset).toArray = ls at hl ⊢
  have hl : lv_has ls 2 [(0, .ref (ma 0)), (1, .int (nI k))] := hl
  have hiX4 : ∀ w ∈ wsX40, w ∈ wsX4_isAlike := by decide +kernel
  have l19 := hts (.fieldLink RX4 19 "CatalogueHarvesterModel" "works" "[I") (by decide +kernel)
  have l22 := hts (.fieldLink RX4 22 "CatalogueHarvesterModel" "values" "[I") (by decide +kernel)
  have l25 := hts (.fieldLink RX4 25 "CatalogueHarvesterModel" "stamps" "[I") (by decide +kernel)
  have l56 := hts (.fieldLink RX4 56 "CatalogueHarvesterModel" "isHeld" "[Z") (by decide +kernel)
  have l59 := hts (.fieldLink RX4 59 "CatalogueHarvesterModel" "heldWorks" "[I") (by decide +kernel)
  have l62 := hts (.fieldLink RX4 62 "CatalogueHarvesterModel" "heldValues" "[I") (by decide +kernel)
  have l65 := hts (.fieldLink RX4 65 "CatalogueHarvesterModel" "heldStamps" "[I") (by decide +kernel)
  refine lv_aload_n hx hb dX4_isAlike_0 rfl (lv_at hl 0 rfl) ?_
  refine va_get (D := (dC, dI)) (ci := 4) (v := .ref (ma 16)) (C := RX4) (T := TX4) (N := 22) hx hb hts hiX4 hown hK hP 0 rfl rfl 16 (by decide) l56 (fun _ h9 => h9) rfl dX4_isAlike_1 ?_
  refine lv_iload_n hx hb dX4_isAlike_4 rfl (lv_at hl 1 rfl) ?_
  refine z_zald hx hb hK hP 4 rfl (zix_nI (by first | assumption | omega) (by decide)) dX4_isAlike_5 ?_
  refine z_tv (v := uH k) (rfl) ?_
  refine lv_if_eq (tgt := 58) hx hb dX4_isAlike_6 (by decide) (fun c_6 => ?_) (fun c_6 => ?_)
  · skip
    refine lv_iconst (v := 0) hx hb dX4_isAlike_58 (by decide) ?_
    refine z_tv (v := yali uH xW xV xS uW uV uS k) (by unfold yali; grind) ?_
    exact W.zret (ty := .boolean) hx hb hr (yali_nl _ _ _ _ _ _ _ _) (fun t ht hW => ⟨rfl, ht⟩) (fun _ h => nomatch h) dX4_isAlike_59
  · skip
    refine lv_aload_n hx hb dX4_isAlike_9 rfl (lv_at hl 0 rfl) ?_
    refine va_get (D := (dC, dI)) (ci := 4) (v := .ref (ma 17)) (C := RX4) (T := TX4) (N := 22) hx hb hts hiX4 hown hK hP 0 rfl rfl 17 (by decide) l59 (fun _ h9 => h9) rfl dX4_isAlike_10 ?_
    refine lv_iload_n hx hb dX4_isAlike_13 rfl (lv_at hl 1 rfl) ?_
    refine z_iald hx hb hK hP 5 rfl (zix_nI (by first | assumption | omega) (by decide)) dX4_isAlike_14 ?_
    refine z_tv (v := xW k) (rfl) ?_
    refine lv_aload_n hx hb dX4_isAlike_15 rfl (lv_at hl 0 rfl) ?_
    refine va_get (D := (dC, dI)) (ci := 4) (v := .ref (ma 4)) (C := RX4) (T := TX4) (N := 22) hx hb hts hiX4 hown hK hP 0 rfl rfl 4 (by decide) l19 (fun _ h9 => h9) rfl dX4_isAlike_16 ?_
    refine lv_iload_n hx hb dX4_isAlike_19 rfl (lv_at hl 1 rfl) ?_
    refine z_iald hx hb hK hP 1 rfl (zix_nI (by first | assumption | omega) (by decide)) dX4_isAlike_20 ?_
    refine z_tv (v := uW k) (rfl) ?_
    refine lv_icmp_ne (tgt := 58) hx hb dX4_isAlike_21 (by decide) (fun c_21 => ?_) (fun c_21 => ?_)
    · skip
      refine lv_iconst (v := 0) hx hb dX4_isAlike_58 (by decide) ?_
      refine z_tv (v := yali uH xW xV xS uW uV uS k) (by unfold yali; grind) ?_
      exact W.zret (ty := .boolean) hx hb hr (yali_nl _ _ _ _ _ _ _ _) (fun t ht hW => ⟨rfl, ht⟩) (fun _ h => nomatch h) dX4_isAlike_59
    · skip
      refine lv_aload_n hx hb dX4_isAlike_24 rfl (lv_at hl 0 rfl) ?_
      refine va_get (D := (dC, dI)) (ci := 4) (v := .ref (ma 18)) (C := RX4) (T := TX4) (N := 22) hx hb hts hiX4 hown hK hP 0 rfl rfl 18 (by decide) l62 (fun _ h9 => h9) rfl dX4_isAlike_25 ?_
      refine lv_iload_n hx hb dX4_isAlike_28 rfl (lv_at hl 1 rfl) ?_
      refine z_iald hx hb hK hP 6 rfl (zix_nI (by first | assumption | omega) (by decide)) dX4_isAlike_29 ?_
      refine z_tv (v := xV k) (rfl) ?_
      refine lv_aload_n hx hb dX4_isAlike_30 rfl (lv_at hl 0 rfl) ?_
      refine va_get (D := (dC, dI)) (ci := 4) (v := .ref (ma 5)) (C := RX4) (T := TX4) (N := 22) hx hb hts hiX4 hown hK hP 0 rfl rfl 5 (by decide) l22 (fun _ h9 => h9) rfl dX4_isAlike_31 ?_
      refine lv_iload_n hx hb dX4_isAlike_34 rfl (lv_at hl 1 rfl) ?_
      refine z_iald hx hb hK hP 2 rfl (zix_nI (by first | assumption | omega) (by decide)) dX4_isAlike_35 ?_
      refine z_tv (v := uV k) (rfl) ?_
      refine lv_icmp_ne (tgt := 58) hx hb dX4_isAlike_36 (by decide) (fun c_36 => ?_) (fun c_36 => ?_)
      · skip
        refine lv_iconst (v := 0) hx hb dX4_isAlike_58 (by decide) ?_
        refine z_tv (v := yali uH xW xV xS uW uV uS k) (by unfold yali; grind) ?_
        exact W.zret (ty := .boolean) hx hb hr (yali_nl _ _ _ _ _ _ _ _) (fun t ht hW => ⟨rfl, ht⟩) (fun _ h => nomatch h) dX4_isAlike_59
      · skip
        refine lv_aload_n hx hb dX4_isAlike_39 rfl (lv_at hl 0 rfl) ?_
        refine va_get (D := (dC, dI)) (ci := 4) (v := .ref (ma 19)) (C := RX4) (T := TX4) (N := 22) hx hb hts hiX4 hown hK hP 0 rfl rfl 19 (by decide) l65 (fun _ h9 => h9) rfl dX4_isAlike_40 ?_
        refine lv_iload_n hx hb dX4_isAlike_43 rfl (lv_at hl 1 rfl) ?_
        refine z_iald hx hb hK hP 7 rfl (zix_nI (by first | assumption | omega) (by decide)) dX4_isAlike_44 ?_
        refine z_tv (v := xS k) (rfl) ?_
        refine lv_aload_n hx hb dX4_isAlike_45 rfl (lv_at hl 0 rfl) ?_
        refine va_get (D := (dC, dI)) (ci := 4) (v := .ref (ma 6)) (C := RX4) (T := TX4) (N := 22) hx hb hts hiX4 hown hK hP 0 rfl rfl 6 (by decide) l25 (fun _ h9 => h9) rfl dX4_isAlike_46 ?_
        refine lv_iload_n hx hb dX4_isAlike_49 rfl (lv_at hl 1 rfl) ?_
        refine z_iald hx hb hK hP 3 rfl (zix_nI (by first | assumption | omega) (by decide)) dX4_isAlike_50 ?_
        refine z_tv (v := uS k) (rfl) ?_
        refine lv_icmp_ne (tgt := 58) hx hb dX4_isAlike_51 (by decide) (fun c_51 => ?_) (fun c_51 => ?_)
        · skip
          refine lv_iconst (v := 0) hx hb dX4_isAlike_58 (by decide) ?_
          refine z_tv (v := yali uH xW xV xS uW uV uS k) (by unfold yali; grind) ?_
          exact W.zret (ty := .boolean) hx hb hr (yali_nl _ _ _ _ _ _ _ _) (fun t ht hW => ⟨rfl, ht⟩) (fun _ h => nomatch h) dX4_isAlike_59
        · skip
          refine lv_iconst (v := 1) hx hb dX4_isAlike_54 (by decide) ?_
          refine lv_goto (tgt := 59) hx hb dX4_isAlike_55 (by decide) ?_
          refine z_tv (v := yali uH xW xV xS uW uV uS k) (by unfold yali; grind) ?_
          exact W.zret (ty := .boolean) hx hb hr (yali_nl _ _ _ _ _ _ _ _) (fun t ht hW => ⟨rfl, ht⟩) (fun _ h => nomatch h) dX4_isAlike_59
end
