section
-- ===== PART A: goes FIRST, ahead of the names: the tables' words, and 'selects' of the private methods out of them =====
/-- a private method of a class that the tables say can be made, by its rows of tables_1 -/
def lw_okq (q : MethodName × Nat) : Prop := (q.1.cls ≠ "java/lang/invoke/MethodHandle" ∧ q.1.cls ≠ "java/lang/invoke/VarHandle") ∧ Cond.instantiable q.1.cls q.2 ∈ tables_1 ∧ Cond.privateMethod q.1 ∈ tables_1 ∧ Cond.instanceMethod q.1 ∈ tables_1
theorem lw_p0 : lw_okq (⟨"SteamBends", "kindOf", "(I)LSteamBends$Kind;"⟩, 4) := ⟨⟨by decide +kernel, by decide +kernel⟩, List.mem_of_getElem? (i := 14) (by decide +kernel), List.mem_of_getElem? (i := 113) (by decide +kernel), List.mem_of_getElem? (i := 114) (by decide +kernel)⟩
theorem lw_p1 : lw_okq (⟨"java/lang/Throwable", "fillInStackTrace", "(I)Ljava/lang/Throwable;"⟩, 6) := ⟨⟨by decide +kernel, by decide +kernel⟩, List.mem_of_getElem? (i := 155) (by decide +kernel), List.mem_of_getElem? (i := 153) (by decide +kernel), List.mem_of_getElem? (i := 154) (by decide +kernel)⟩
theorem lw_p2 : lw_okq (⟨"SteamBends$Pairs", "isPlace", "(I)Z"⟩, 3) := ⟨⟨by decide +kernel, by decide +kernel⟩, List.mem_of_getElem? (i := 30) (by decide +kernel), List.mem_of_getElem? (i := 199) (by decide +kernel), List.mem_of_getElem? (i := 200) (by decide +kernel)⟩
theorem lw_p3 : lw_okq (⟨"SteamBends$Kind", "radiusBetween", "(IID)D"⟩, 4) := ⟨⟨by decide +kernel, by decide +kernel⟩, List.mem_of_getElem? (i := 56) (by decide +kernel), List.mem_of_getElem? (i := 256) (by decide +kernel), List.mem_of_getElem? (i := 257) (by decide +kernel)⟩
theorem lw_p4 : lw_okq (⟨"SteamBends$Shape", "lengthOf", "(IZD)D"⟩, 1) := ⟨⟨by decide +kernel, by decide +kernel⟩, List.mem_of_getElem? (i := 24) (by decide +kernel), List.mem_of_getElem? (i := 363) (by decide +kernel), List.mem_of_getElem? (i := 364) (by decide +kernel)⟩
theorem lw_p5 : lw_okq (⟨"SteamBendsModel", "radiusAt", "(ID)D"⟩, 15) := ⟨⟨by decide +kernel, by decide +kernel⟩, List.mem_of_getElem? (i := 422) (by decide +kernel), List.mem_of_getElem? (i := 497) (by decide +kernel), List.mem_of_getElem? (i := 498) (by decide +kernel)⟩
theorem lw_p6 : lw_okq (⟨"SteamBendsModel", "improves", "(I)Z"⟩, 15) := ⟨⟨by decide +kernel, by decide +kernel⟩, List.mem_of_getElem? (i := 422) (by decide +kernel), List.mem_of_getElem? (i := 514) (by decide +kernel), List.mem_of_getElem? (i := 515) (by decide +kernel)⟩
theorem lw_p7 : lw_okq (⟨"SteamBendsModel", "residue", "(ID)D"⟩, 15) := ⟨⟨by decide +kernel, by decide +kernel⟩, List.mem_of_getElem? (i := 422) (by decide +kernel), List.mem_of_getElem? (i := 518) (by decide +kernel), List.mem_of_getElem? (i := 519) (by decide +kernel)⟩
def lw_privs_1 : List (MethodName × Nat) := [(⟨"SteamBends", "kindOf", "(I)LSteamBends$Kind;"⟩, 4), (⟨"java/lang/Throwable", "fillInStackTrace", "(I)Ljava/lang/Throwable;"⟩, 6), (⟨"SteamBends$Pairs", "isPlace", "(I)Z"⟩, 3), (⟨"SteamBends$Kind", "radiusBetween", "(IID)D"⟩, 4), (⟨"SteamBends$Shape", "lengthOf", "(IZD)D"⟩, 1), (⟨"SteamBendsModel", "radiusAt", "(ID)D"⟩, 15), (⟨"SteamBendsModel", "improves", "(I)Z"⟩, 15), (⟨"SteamBendsModel", "residue", "(ID)D"⟩, 15)]
theorem lw_r1 : ∀ q ∈ lw_privs_1, lw_okq q := List.forall_mem_cons.mpr ⟨lw_p0, List.forall_mem_cons.mpr ⟨lw_p1, List.forall_mem_cons.mpr ⟨lw_p2, List.forall_mem_cons.mpr ⟨lw_p3, List.forall_mem_cons.mpr ⟨lw_p4, List.forall_mem_cons.mpr ⟨lw_p5, List.forall_mem_cons.mpr ⟨lw_p6, List.forall_mem_cons.mpr ⟨lw_p7, fun _ h => absurd h List.not_mem_nil⟩⟩⟩⟩⟩⟩⟩⟩
def lw_privs : List (MethodName × Nat) := lw_privs_1
def lw_tbl : List Cond := k2_sels lw_privs ++ tables_1
theorem lw_privs_ok : ∀ q ∈ lw_privs, lw_okq q := lw_r1
/-- the streams that the claim lets the run draw from -/
abbrev lw_cs : List Choice := [Jvm.Choice.named "NaN.bits"]
theorem lw_bits : nanBits ∈ lw_cs := by first | decide | exact List.mem_cons_self | simp [lw_cs, nanBits]
end
section
/-! ===== BEGIN words of one list among another's, by their places ===== -/
theorem goodIn_r {big : List Cond} (ws : List Cond) (ps : List Nat) (hp : ws = ps.filterMap (fun i => big[i]?)) (h : ws.all goodWord = true) : GoodIn big ws := by
  intro w hw
  have h1 := List.all_eq_true.mp h w hw
  rw [hp] at hw
  obtain ⟨i, -, hi⟩ := List.mem_filterMap.mp hw
  have hm : w ∈ big := by first | exact List.mem_of_getElem? hi | exact List.getElem?_mem hi
  exact ⟨hm, good_of_word h1⟩
theorem goodIn_app {big a b : List Cond} (ha : GoodIn big a) (hb : GoodIn big b) : GoodIn big (a ++ b) := fun w h => (List.mem_append.mp h).elim (ha w) (hb w)
theorem goodIn_ca {big a b : List Cond} {c : Cond} (ha : GoodIn big (c :: a)) (hb : GoodIn big b) : GoodIn big (c :: (a ++ b)) := fun w h => (List.mem_cons.mp h).elim (fun e => ha w (List.mem_cons.mpr (Or.inl e))) (fun h => (List.mem_append.mp h).elim (fun h => ha w (List.mem_cons.mpr (Or.inr h))) (hb w))
theorem goodIn_sub {big ws : List Cond} (hm : ∀ w ∈ ws, w ∈ big) (h : ws.all goodWord = true) : GoodIn big ws := fun w hw => ⟨hm w hw, good_of_word (List.all_eq_true.mp h w hw)⟩
/-! ===== END ===== -/

/-! ===== BEGIN exceptions that leave a method, and their catching by the caller (launches without stack traces) ===== -/
section VXA
/-! The laws vx_back, vx_callV, vx_callS, vx_callSW, vx_throw0, vx_throwS follow proofs of the library, with one case more: JvmDerived/Free/Laws.lean (Back.of_free), Shelf42/LK1.lean (callV, callS), Shelf/KitTraced.lean (throwNew0V, throwNewS). -/
/-- where a method has thrown q: the class by its name, the cell, what was written, the world -/
def vx_T (XC : String → State → State → Prop) (st : State) (q : Addr) (t : State) (mc ms : Nat) (free : Addr → Prop) : Prop :=
  ∃ (E : String) (ce : Cell) (L : List Loc), XC E st t ∧ t.heap[q]? = some ce ∧ ce.vm = .none ∧ st.vm.findClass E = some ce.cls ∧ st.WarmedH t.vm ∧ st.sameButNew ({ t with vm := st.vm } : State) L mc ms ∧ ∀ z ∈ L, free z.base
def vx_Q (Qc : Array Value → State → Outcome → State → Prop) (XC : String → State → State → Prop) (mc ms : Nat) (free : Addr → Prop) : Array Value → State → Outcome → State → Prop := fun a st o t =>
  (Qc a st o t ∧ ∃ L, FrameEnd st o t L mc ms ∧ ∀ q ∈ L, free q.base) ∨ ∃ q, o = .threw q ∧ vx_T XC st q t mc ms free
/-- a callee that returns or throws -/
def vx_Met (l : Launch) (y : MethodName) (ws : List Cond) (rm : Room) (Pc : Array Value → State → Prop) (Qc : Array Value → State → Outcome → State → Prop) (XC : String → State → State → Prop) (mc ms : Nat) (free : Addr → Prop) : Prop :=
  MetFree l y (headSpec ws rm) Pc (fun _ _ _ _ _ => True) (vx_Q Qc XC mc ms free)
def vx_Post (XC : String → State → State → Prop) (mc ms : Nat) (free : Addr → Prop) : Pt → Array Value → Addr → Pt → Prop := fun A a q B =>
  ∃ (g : JFrame) (mk : MethodId) (t : State) (L : List Loc) (E : String) (ce : Cell), B.U.heap = t.heap ∧ B.U.vm = t.vm ∧ XC E (A.U.calling g mk a) t ∧ t.heap[q]? = some ce ∧ ce.vm = .none ∧ A.U.vm.findClass E = some ce.cls ∧ B.locs = A.locs ++ L ∧ (∀ z ∈ L, free z.base) ∧ B.cells = A.cells + mc ∧ B.slots = A.slots + ms
def vx_Back (l : Launch) (R : Room) (p : Program) (e : Env) (below : List Frame) (s : State) (sargs : Array Value) (y : MethodName) (len W9 : Nat)
    (Pre : Pt → Array Value → Prop) (Post : Pt → Array Value → Option Value → Pt → Prop) (PostX : Pt → Array Value → Addr → Pt → Prop) : Prop :=
  ∀ (m : MethodId) (meth : Method) (c : Code) (A : Pt) (g : JFrame) (ig : Instr) (mk : MethodId) (a : Array Value),
    Stand p l e R s m sargs below meth c A.U A.locs A.cells A.slots → g.method = m → g.locals.size = c.maxLocals → decode c.code g.pc = .ok (ig, len) →
    2 * g.monitorRoom + (g.stack.map fun v => v.category).sum ≤ W9 → A.U.methodNamed? y = some mk → Pre A a →
    (∃ (v : Option Value) (B : Pt), Stand p l e R s m sargs below meth c B.U B.locs B.cells B.slots ∧ Post A a v B ∧
      Steps p.tables e below (doInvoke e (A.U.setTop g) [] mk a).1 (B.U.setTop { g with pc := g.pc + len, stack := v.toList ++ g.stack })) ∨
    (∃ (q : Addr) (B : Pt), Stand p l e R s m sargs below meth c B.U B.locs B.cells B.slots ∧ PostX A a q B ∧
      Steps p.tables e below (doInvoke e (A.U.setTop g) [] mk a).1 ((B.U.setTop g).pushFrame (.throwing q)))
section Payer
variable {l : Launch} {R : Room} {p : Program} {e : Env} {below : List Frame} {s : State} {sargs : Array Value} {y : MethodName} {len W9 : Nat}
theorem vx_back {ws : List Cond} {rm : Room} {Pc : Array Value → State → Prop} {Qc : Array Value → State → Outcome → State → Prop} {XC : String → State → State → Prop} {mc ms : Nat} {free : Addr → Prop} {bytes : ByteArray} {maxL : Nat} {ret : Option FieldType}
    (hM : vx_Met l y ws rm Pc Qc XC mc ms free) (hblind : FrameBlind Pc) (hrc : rm.cells = mc) (hrs : rm.slots = ms)
    (hframes : rm.frames + 1 ≤ R.frames) (hlocals : W9 + (maxL + 11) + rm.locals ≤ R.locals)
    (hws : ∀ w ∈ ws, ∀ a' U, s.WarmedH U.vm → w.before a' U = true) (hcode : Cond.code y bytes maxL ret ∈ ws) (hinit : ∀ a' U, s.WarmedH U.vm → (Cond.initialized y.cls).before a' U = true) :
    vx_Back l R p e below s sargs y len W9 (PreOf R mc ms Pc) (PostOf Qc mc ms free) (vx_Post XC mc ms free) := by
  intro m meth c A g ig mk a X hg hsize hdg hW hn hp
  have h1 : (headSpec ws rm).pre.before a A.U = true := atoms_intro fun w hw => hws w hw _ _ X.warmed
  have h2 : (Cond.code y bytes maxL ret).before a A.U = true := hws _ hcode _ _ X.warmed
  have h3 : (Cond.initialized y.cls).before a A.U = true := hinit _ _ X.warmed
  have h4 : A.cells + (headSpec ws rm).room.cells ≤ R.cells := by rw [show (headSpec ws rm).room.cells = mc from hrc]; exact hp.1
  have h5 : A.slots + (headSpec ws rm).room.slots ≤ R.slots := by rw [show (headSpec ws rm).room.slots = ms from hrs]; exact hp.2.1
  have hPc : Pc a (A.U.calling g mk a) := hblind _ _ _ _ hp.2.2
  obtain ⟨U, Ls, c0, s0⟩ := A
  dsimp only [Pt.U, Pt.locs, Pt.cells, Pt.slots] at h1 h2 h3 h4 h5 X hn hPc ⊢
  obtain ⟨methY, cY, hmY, hcY, -, hlY, -, -, -, -⟩ := Cond.code_spec hn h2
  obtain ⟨kY, hkY, -⟩ := className_of_methodNamed hn
  have hinitY : kY.init = .initialized := Cond.initialized_spec (findClass_of_methodNamed hn) hkY h3
  have h : At U g.method c below := by rw [hg]; exact X.here
  have hlocals9 : W9 + (maxL + 11) + (headSpec ws rm).room.locals ≤ R.locals := hlocals
  have happ : (headSpec ws rm).appliesLoose y e.platform (U.calling g mk a) = true :=
    Spec.appliesLoose_calling (g := g) h hdg hn hkY hinitY
      (X.room_calling (g := g) (R' := (headSpec ws rm).room) hsize hmY hcY hframes (by rw [hlY]; omega) h4 h5) h1
  obtain ⟨mid, hmid⟩ := h.above
  have hfr : (U.setTop g).frames = (.java g :: mid) ++ below := by rw [State.frames_setTop' g h.top, hmid]; rfl
  obtain ⟨o, s₂, hsteps, -, hend, hq⟩ := Steps.callFree hM p X.admits X.cas X.clock (acts := []) hfr happ hPc trivial
  have hq' : vx_Q Qc XC mc ms free a (U.calling g mk a) o s₂ := hq
  rw [State.frames_setTop' g h.top] at hend
  obtain ⟨g₀, hg0⟩ := Option.isSome_iff_exists.mp h.top
  obtain ⟨r, hr⟩ := State.topJava?_eq_some.mp hg0
  have hr' : (({ U with heap := s₂.heap, slotsUsed := s₂.slotsUsed } : State).setVm s₂.vm).frames = .java g₀ :: r := hr
  rcases hq' with ⟨hqc, L, hfe, hL⟩ | ⟨q, rfl, E, ce, L, hx, hce, hcv, hcl, hW₂, hsm, hL⟩
  · obtain ⟨⟨v, rfl⟩, hW₂, e2, q2, q3, q4, q5, q6⟩ := id hfe
    have e3 : s₂ = ({ (U.calling g mk a).setFrames s₂.frames with heap := s₂.heap, slotsUsed := s₂.slotsUsed } : State).setVm s₂.vm := by
      have : s₂ = ({ s₂ with vm := (U.calling g mk a).vm } : State).setVm s₂.vm := rfl
      rw [e2] at this
      exact this
    obtain ⟨c₂, i₂, len₂, hc₂, hd₂, hf₂⟩ := hend
    have hW' : U.WarmedH s₂.vm := hW₂
    have hcc : c₂ = c := by
      have h1 : s₂.code? g.method = U.code? g.method := by
        rw [State.code?_eq, State.code?_eq, hW'.alike.method?]
      exact Option.some.inj (hc₂.symm.trans (h1.trans h.code))
    subst hcc
    have hlen : len₂ = len := by rw [hdg] at hd₂; cases hd₂; rfl
    subst hlen
    have hs₂ : s₂ = (({ U with heap := s₂.heap, slotsUsed := s₂.slotsUsed } : State).setVm s₂.vm).setTop { g with pc := g.pc + len₂, stack := v.toList ++ g.stack } := by
      refine e3.trans ?_
      rw [hf₂, State.calling_eq h.top, State.setFrames_setFrames, State.setTop_of_frames _ hr', hr]
      rfl
    have hsame : U.sameButNew ({ U with heap := s₂.heap, slotsUsed := s₂.slotsUsed } : State) L mc ms := by
      refine ⟨?_, q2, q3, q4, q5, q6⟩
      obtain ⟨t, ht, -⟩ := State.frames_cons hr
      show ({ U with heap := s₂.heap, slotsUsed := s₂.slotsUsed } : State) = { U.setFrames U.frames with heap := s₂.heap, slotsUsed := s₂.slotsUsed }
      rw [State.setFrames_self ht]
    subst hg
    refine Or.inl ⟨v, ⟨(({ U with heap := s₂.heap, slotsUsed := s₂.slotsUsed } : State).setVm s₂.vm), Ls ++ L, c0 + mc, s0 + ms⟩,
      ⟨X.admits, X.cas, X.clock, X.frames, X.room, X.hears, X.method, X.code, (X.here.setHeapUsed s₂.heap s₂.slotsUsed).setVm hW'.alike, X.tail, State.WarmedH.trans X.warmed hW', X.limits, X.bytes, X.same.trans (hsame.setVm s.vm)⟩,
      ⟨g, mk, s₂, L, rfl, rfl, hqc, rfl, hL, rfl, rfl⟩, ?_⟩
    show Steps p.tables e below _ ((({ U with heap := s₂.heap, slotsUsed := s₂.slotsUsed } : State).setVm s₂.vm).setTop { g with pc := g.pc + len₂, stack := v.toList ++ g.stack })
    rw [← hs₂]
    exact hsteps
  · obtain ⟨e2, q2, q3, q4, q5, q6⟩ := id hsm
    have e3 : s₂ = ({ (U.calling g mk a).setFrames s₂.frames with heap := s₂.heap, slotsUsed := s₂.slotsUsed } : State).setVm s₂.vm := by
      have : s₂ = ({ s₂ with vm := (U.calling g mk a).vm } : State).setVm s₂.vm := rfl
      rw [e2] at this
      exact this
    have hf₂ : s₂.frames = .throwing q :: .java g :: U.frames.tail := hend
    have hW' : U.WarmedH s₂.vm := hW₂
    have hs₂ : s₂ = ((({ U with heap := s₂.heap, slotsUsed := s₂.slotsUsed } : State).setVm s₂.vm).setTop g).pushFrame (.throwing q) := by
      refine e3.trans ?_
      rw [hf₂, State.calling_eq h.top, State.setFrames_setFrames, State.pushFrame, State.frames_setTop _ hr', State.setTop_of_frames _ hr', State.setFrames_setFrames, hr]
      rfl
    have hsame : U.sameButNew ({ U with heap := s₂.heap, slotsUsed := s₂.slotsUsed } : State) L mc ms := by
      refine ⟨?_, q2, q3, q4, q5, q6⟩
      obtain ⟨t, ht, -⟩ := State.frames_cons hr
      show ({ U with heap := s₂.heap, slotsUsed := s₂.slotsUsed } : State) = { U.setFrames U.frames with heap := s₂.heap, slotsUsed := s₂.slotsUsed }
      rw [State.setFrames_self ht]
    subst hg
    refine Or.inr ⟨q, ⟨(({ U with heap := s₂.heap, slotsUsed := s₂.slotsUsed } : State).setVm s₂.vm), Ls ++ L, c0 + mc, s0 + ms⟩,
      ⟨X.admits, X.cas, X.clock, X.frames, X.room, X.hears, X.method, X.code, (X.here.setHeapUsed s₂.heap s₂.slotsUsed).setVm hW'.alike, X.tail, State.WarmedH.trans X.warmed hW', X.limits, X.bytes, X.same.trans (hsame.setVm s.vm)⟩,
      ⟨g, mk, s₂, L, E, ce, rfl, rfl, hx, hce, hcv, hcl, rfl, hL, rfl, rfl⟩, ?_⟩
    show Steps p.tables e below _ (((({ U with heap := s₂.heap, slotsUsed := s₂.slotsUsed } : State).setVm s₂.vm).setTop g).pushFrame (.throwing q))
    rw [← hs₂]
    exact hsteps
end Payer
section Calls
variable {p : Program} {l : Launch} {e : Env} {R : Room} {s : State} {m : MethodId} {args : Array Value} {below : List Frame} {meth : Method} {c : Code} {T : State} {locs : List Loc} {cells slots : Nat}
theorem vx_callV (X : Stand p l e R s m args below meth c T locs cells slots) (hexec : p.tables.exec = Jvm.exec) {own C : String} {index : Nat} {y : MethodName} {bytes : ByteArray} {maxL : Nat} {ret : Option FieldType}
    (hown : s.vm.findClass own = some m.cls) (hlink : (Cond.methodLink own index y).before args s = true) (hinst : (Cond.instanceMethod y).before args s = true) (hsel : (Cond.selects C y y).before args s = true)
    (hcode : (Cond.code y bytes maxL ret).before args s = true) (hy : y.cls ≠ "java/lang/invoke/MethodHandle" ∧ y.cls ≠ "java/lang/invoke/VarHandle")
    {W9 : Nat} {Pre : Pt → Array Value → Prop} {Post : Pt → Array Value → Option Value → Pt → Prop} {PostX : Pt → Array Value → Addr → Pt → Prop} (hK : vx_Back l R p e below s args y 3 W9 Pre Post PostX)
    {b : Addr} {cellB : Cell} (hcell : T.heap[b]? = some cellB) (hobj : cellB.vm.isStatics = false) (hcls : s.vm.findClass C = some cellB.cls)
    {g : JFrame} (hg : g.method = m) (hsize : g.locals.size = c.maxLocals) {argsL rest : List Value} (hlen : ∀ sig, parseMethodDescriptor y.desc = some sig → argsL.length = sig.parameters.length)
    (hstack : g.stack = argsL.reverse ++ .ref b :: rest) (hW : 2 * g.monitorRoom + (rest.map fun v => v.category).sum ≤ W9) (hdg : decode c.code g.pc = .ok (.invokevirtual index, 3))
    (hpre : ∀ vm₁, s.WarmedH vm₁ → Pre ⟨T.setVm vm₁, locs, cells, slots⟩ (Value.ref b :: argsL).toArray) :
    (∃ (v : Option Value) (vm₁ : Vm) (B : Pt), s.WarmedH vm₁ ∧ Stand p l e R s m args below meth c B.U B.locs B.cells B.slots ∧ Post ⟨T.setVm vm₁, locs, cells, slots⟩ (Value.ref b :: argsL).toArray v B ∧
      ∀ target, Steps p.tables e below (B.U.setTop { g with pc := g.pc + 3, stack := v.toList ++ rest }) target → Steps p.tables e below (T.setTop g) target) ∨
    (∃ (q : Addr) (vm₁ : Vm) (B : Pt), s.WarmedH vm₁ ∧ Stand p l e R s m args below meth c B.U B.locs B.cells B.slots ∧ PostX ⟨T.setVm vm₁, locs, cells, slots⟩ (Value.ref b :: argsL).toArray q B ∧
      Steps p.tables e below (T.setTop g) ((B.U.setTop { g with stack := rest }).pushFrame (.throwing q))) := by
  obtain ⟨mk, methM, hnamed, hmethM, hstM, habM⟩ := Cond.instanceMethod_spec hinst
  obtain ⟨methM', cM, hmethM', -, -, -, -, -, -, hsigM⟩ := Cond.code_spec hnamed hcode
  cases hmethM.symm.trans hmethM'
  obtain ⟨c2, r2, m2, q1, q2, q3, q4, kP, hkP, hkPi⟩ := Cond.selects_spec hsel
  cases hcls.symm.trans q1
  cases (State.methodFound?_of_named hnamed hy).symm.trans q2
  cases hnamed.symm.trans q3
  have hselP : selectMethod e.platform s.vm cellB.cls mk = .method mk := by rw [Launch.admits_selectMethod X.admits]; exact q4
  obtain ⟨vm₁, X₁, hstep₁⟩ := X.invokevirtual hexec hown hlink hnamed hmethM hstM hkP hkPi hy (a := b) (cell := cellB) hcell
    (fun z h => by rw [h] at hobj; cases hobj) hselP hmethM habM hkP hkPi (g := g) hg (argsL := argsL) (rest := rest) (hlen _ hsigM) hstack hdg
  rcases hK m meth c ⟨T.setVm vm₁, locs, cells, slots⟩ { g with stack := rest } (.invokevirtual index) mk (Value.ref b :: argsL).toArray X₁ hg hsize hdg hW (X₁.named hnamed) (hpre vm₁ X₁.warmed) with ⟨v, B, X', hpost, hsteps⟩ | ⟨q, B, X', hpost, hsteps⟩
  · exact Or.inl ⟨v, vm₁, B, X₁.warmed, X', hpost, fun target h => hstep₁ _ fun acts => by rw [doInvoke_state]; exact hsteps.trans h⟩
  · exact Or.inr ⟨q, vm₁, B, X₁.warmed, X', hpost, hstep₁ _ fun acts => by rw [doInvoke_state]; exact hsteps⟩
theorem vx_callS (X : Stand p l e R s m args below meth c T locs cells slots) (hexec : p.tables.exec = Jvm.exec) {own : String} {index : Nat} {y : MethodName} {bytes : ByteArray} {maxL : Nat} {ret : Option FieldType}
    (hown : s.vm.findClass own = some m.cls) (hlink : (Cond.methodLink own index y).before args s = true) (hstat : (Cond.static y).before args s = true) (hinit : (Cond.initialized y.cls).before args s = true)
    (hcode : (Cond.code y bytes maxL ret).before args s = true) (hy : y.cls ≠ "java/lang/invoke/MethodHandle" ∧ y.cls ≠ "java/lang/invoke/VarHandle")
    {W9 : Nat} {Pre : Pt → Array Value → Prop} {Post : Pt → Array Value → Option Value → Pt → Prop} {PostX : Pt → Array Value → Addr → Pt → Prop} (hK : vx_Back l R p e below s args y 3 W9 Pre Post PostX)
    {g : JFrame} (hg : g.method = m) (hsize : g.locals.size = c.maxLocals) {argsL rest : List Value} (hlen : ∀ sig, parseMethodDescriptor y.desc = some sig → argsL.length = sig.parameters.length)
    (hstack : g.stack = argsL.reverse ++ rest) (hW : 2 * g.monitorRoom + (rest.map fun v => v.category).sum ≤ W9) (hdg : decode c.code g.pc = .ok (.invokestatic index, 3))
    (hpre : ∀ vm₁, s.WarmedH vm₁ → Pre ⟨T.setVm vm₁, locs, cells, slots⟩ argsL.toArray) :
    (∃ (v : Option Value) (vm₁ : Vm) (B : Pt), s.WarmedH vm₁ ∧ Stand p l e R s m args below meth c B.U B.locs B.cells B.slots ∧ Post ⟨T.setVm vm₁, locs, cells, slots⟩ argsL.toArray v B ∧
      ∀ target, Steps p.tables e below (B.U.setTop { g with pc := g.pc + 3, stack := v.toList ++ rest }) target → Steps p.tables e below (T.setTop g) target) ∨
    (∃ (q : Addr) (vm₁ : Vm) (B : Pt), s.WarmedH vm₁ ∧ Stand p l e R s m args below meth c B.U B.locs B.cells B.slots ∧ PostX ⟨T.setVm vm₁, locs, cells, slots⟩ argsL.toArray q B ∧
      Steps p.tables e below (T.setTop g) ((B.U.setTop { g with stack := rest }).pushFrame (.throwing q))) := by
  obtain ⟨mk, hnamed⟩ := Cond.code_named hcode
  obtain ⟨methM, cM, hmethM, -, -, -, -, -, -, hsigM⟩ := Cond.code_spec hnamed hcode
  have hstatic : methM.isStatic = true := Cond.static_spec hnamed hmethM hstat
  obtain ⟨kP, hkP, -⟩ := className_of_methodNamed hnamed
  have hinitP : kP.init = .initialized := Cond.initialized_spec (findClass_of_methodNamed hnamed) hkP hinit
  obtain ⟨vm₁, X₁, hstep₁⟩ := X.invokestatic hexec hown hlink hnamed hmethM hstatic hkP hinitP hy (g := g) hg (argsL := argsL) (rest := rest) (hlen _ hsigM) hstack hdg
  rcases hK m meth c ⟨T.setVm vm₁, locs, cells, slots⟩ { g with stack := rest } (.invokestatic index) mk argsL.toArray X₁ hg hsize hdg hW (X₁.named hnamed) (hpre vm₁ X₁.warmed) with ⟨v, B, X', hpost, hsteps⟩ | ⟨q, B, X', hpost, hsteps⟩
  · exact Or.inl ⟨v, vm₁, B, X₁.warmed, X', hpost, fun target h => hstep₁ _ fun acts => by rw [doInvoke_state]; exact hsteps.trans h⟩
  · exact Or.inr ⟨q, vm₁, B, X₁.warmed, X', hpost, hstep₁ _ fun acts => by rw [doInvoke_state]; exact hsteps⟩
end Calls
theorem vx_cls {s : State} {T : State} {vm₁ : Vm} {E : String} {k : ClassId} (hW : s.WarmedH vm₁) (h : (T.setVm vm₁).vm.findClass E = some k) : s.vm.findClass E = some k := by
  have h1 : vm₁.findClass E = some k := h
  rw [hW.alike.findClass] at h1
  exact h1
/-- the method's frame g, with q thrown over it -/
def vx_W (p : Program) (l : Launch) (e : Env) (R : Room) (s : State) (m : MethodId) (args : Array Value) (below : List Frame) (meth : Method) (c : Code) (H : Heap) (locs : List Loc) (cells slots : Nat) (Q : State → Prop) (g : JFrame) (q : Addr) : Prop :=
  ∀ T : State, T.heap = H → Stand p l e R s m args below meth c T locs cells slots → ∃ t, Steps p.tables e below ((T.setTop g).pushFrame (.throwing q)) t ∧ Q t
def vx_Run (p : Program) (l : Launch) (e : Env) (R : Room) (s : State) (m : MethodId) (args : Array Value) (below : List Frame) (meth : Method) (c : Code) (H : Heap) (locs : List Loc) (cells slots mc ms : Nat) (g : JFrame) (rest : List Value) (Qa : State → Outcome → State → Prop) (XC : String → State → State → Prop) (free : Addr → Prop) : Prop :=
  ∀ T : State, T.heap = H → Stand p l e R s m args below meth c T locs cells slots →
    (∃ (v : Option Value) (st₀ t T' : State) (L : List Loc), st₀.heap = H ∧ Stand p l e R s m args below meth c T' (locs ++ L) (cells + mc) (slots + ms) ∧ (∀ q ∈ L, free q.base) ∧ T'.heap = t.heap ∧ T'.vm = t.vm ∧ Qa st₀ (.returned v) t ∧
      Goes p e below T g T' { g with pc := g.pc + 3, stack := v.toList ++ rest }) ∨
    (∃ (q : Addr) (st₀ t T' : State) (L : List Loc) (E : String) (ce : Cell), st₀.heap = H ∧ Stand p l e R s m args below meth c T' (locs ++ L) (cells + mc) (slots + ms) ∧ (∀ z ∈ L, free z.base) ∧ T'.heap = t.heap ∧ T'.vm = t.vm ∧ XC E st₀ t ∧ t.heap[q]? = some ce ∧ ce.vm = .none ∧ s.vm.findClass E = some ce.cls ∧
      Steps p.tables e below (T.setTop g) ((T'.setTop { g with stack := rest }).pushFrame (.throwing q)))
def vx_X {S : Type} (px : S → Prop) (B : String → S → State → Prop) (A : Nat → Prop) : String → State → State → Prop := fun E st t => ∃ u : S, px u ∧ B E u t ∧ va_F A st t
section Runs
variable {p : Program} {l : Launch} {e : Env} {R : Room} {s : State} {m : MethodId} {args : Array Value} {below : List Frame} {meth : Method} {c : Code} {H : Heap} {locs : List Loc} {cells slots : Nat}
variable {y : MethodName} {bytes cc : ByteArray} {maxL nL mc ms n index : Nat} {ret : Option FieldType} {ws : List Cond} {rm : Room} {Pc : Array Value → State → Prop} {Qc : Array Value → State → Outcome → State → Prop} {XC : String → State → State → Prop} {free : Addr → Prop} {Ts : List Cond} {own C : String} {b : Addr} {As rest : List Value} {g : JFrame}
theorem vx_callBack (cb : CallB R s args own index y bytes maxL ret ws rm mc ms n) (hM : vx_Met l y ws rm Pc Qc XC mc ms free) (hbl : FrameBlind Pc) : vx_Back l R p e below s args y 3 8 (PreOf R mc ms Pc) (PostOf Qc mc ms free) (vx_Post XC mc ms free) := by
  obtain ⟨hrc, hrs, hfr, hlo, hws, hcw, -, hini, -⟩ := cb
  exact vx_back (bytes := bytes) (maxL := maxL) (ret := ret) hM hbl hrc hrs hfr hlo hws hcw (fun a' U hW => word_at hW (Or.inl (by first | rfl | simp [Cond.onTables, Cond.keeps, Cond.steady])) hini)
theorem vx_runV (S : CallFix p m c cc nL s args Ts own) (hM : vx_Met l y ws rm Pc Qc XC mc ms free) (cw : CallW R s args own C index y bytes maxL ret ws rm mc ms n) (hp : PreV s H C b Pc As)
    (hg : g.method = m) (hn : As.length = n) (hsize : g.locals.size = nL) (hstack : g.stack = As.reverse ++ .ref b :: rest) (hW : 2 * g.monitorRoom + (rest.map fun v => v.category).sum ≤ 8) (hdg : decode cc g.pc = .ok (.invokevirtual index, 3)) (hf : cells + mc ≤ R.cells ∧ slots + ms ≤ R.slots) :
    vx_Run p l e R s m args below meth c H locs cells slots mc ms g rest (Qc (Value.ref b :: As).toArray) XC free := by
  have hK : vx_Back l R p e below s args y 3 8 (PreOf R mc ms Pc) (PostOf Qc mc ms free) (vx_Post XC mc ms free) := vx_callBack cw.1 hM hp.1
  obtain ⟨⟨-, -, -, -, -, -, hcode, -, hy, hlen, hl⟩, hin, hse⟩ := cw
  obtain ⟨hx, hb, hml, ho, -⟩ := S
  obtain ⟨-, ⟨cellB, hcB, hoB, hclB⟩, hPc⟩ := hp
  intro T hT X
  rcases vx_callV X hx (C := C) (bytes := bytes) (maxL := maxL) (ret := ret) ho hl hin hse hcode hy hK (by rw [hT]; exact hcB) hoB hclB hg (hsize.trans hml.symm) (argsL := As) (rest := rest) (fun sig h => hn.trans (hlen sig h)) hstack hW (by rw [hb]; exact hdg)
    (fun vm₁ hW₁ => ⟨hf.1, hf.2, hPc (T.setVm vm₁) hT hW₁⟩) with ⟨v, vm₁, ⟨U', l2, c2, s2⟩, hW₁, X', ⟨g', mk, t, L, e1, e2, hq, h1, hL, h2, h3⟩, st⟩ | ⟨q, vm₁, ⟨U', l2, c2, s2⟩, hW₁, X', ⟨g', mk, t, L, E, ce, e1, e2, hq, hce, hcv, hcl, h1, hL, h2, h3⟩, st⟩
  · dsimp only [Pt.U, Pt.locs, Pt.cells, Pt.slots] at X' e1 e2 h1 h2 h3 st
    subst h1; subst h2; subst h3
    exact Or.inl ⟨v, (T.setVm vm₁).calling g' mk (Value.ref b :: As).toArray, t, U', L, hT, X', hL, e1, e2, hq, st⟩
  · dsimp only [Pt.U, Pt.locs, Pt.cells, Pt.slots] at X' e1 e2 h1 h2 h3 st hcl
    subst h1; subst h2; subst h3
    exact Or.inr ⟨q, (T.setVm vm₁).calling g' mk (Value.ref b :: As).toArray, t, U', L, E, ce, hT, X', hL, e1, e2, hq, hce, hcv, vx_cls hW₁ hcl, st⟩
theorem vx_runS (S : CallFix p m c cc nL s args Ts own) (hM : vx_Met l y ws rm Pc Qc XC mc ms free) (cw : CallB R s args own index y bytes maxL ret ws rm mc ms n ∧ (Cond.static y).before args s = true) (hp : PreS s H Pc As)
    (hg : g.method = m) (hn : As.length = n) (hsize : g.locals.size = nL) (hstack : g.stack = As.reverse ++ rest) (hW : 2 * g.monitorRoom + (rest.map fun v => v.category).sum ≤ 8) (hdg : decode cc g.pc = .ok (.invokestatic index, 3)) (hf : cells + mc ≤ R.cells ∧ slots + ms ≤ R.slots) :
    vx_Run p l e R s m args below meth c H locs cells slots mc ms g rest (Qc As.toArray) XC free := by
  have hK : vx_Back l R p e below s args y 3 8 (PreOf R mc ms Pc) (PostOf Qc mc ms free) (vx_Post XC mc ms free) := vx_callBack cw.1 hM hp.1
  obtain ⟨⟨-, -, -, -, -, -, hcode, hini, hy, hlen, hl⟩, hstt⟩ := cw
  obtain ⟨hx, hb, hml, ho, -⟩ := S
  intro T hT X
  rcases vx_callS X hx (bytes := bytes) (maxL := maxL) (ret := ret) ho hl hstt hini hcode hy hK hg (hsize.trans hml.symm) (argsL := As) (rest := rest) (fun sig h => hn.trans (hlen sig h)) hstack hW (by rw [hb]; exact hdg)
    (fun vm₁ hW₁ => ⟨hf.1, hf.2, hp.2 (T.setVm vm₁) hT hW₁⟩) with ⟨v, vm₁, ⟨U', l2, c2, s2⟩, hW₁, X', ⟨g', mk, t, L, e1, e2, hq, h1, hL, h2, h3⟩, st⟩ | ⟨q, vm₁, ⟨U', l2, c2, s2⟩, hW₁, X', ⟨g', mk, t, L, E, ce, e1, e2, hq, hce, hcv, hcl, h1, hL, h2, h3⟩, st⟩
  · dsimp only [Pt.U, Pt.locs, Pt.cells, Pt.slots] at X' e1 e2 h1 h2 h3 st
    subst h1; subst h2; subst h3
    exact Or.inl ⟨v, (T.setVm vm₁).calling g' mk As.toArray, t, U', L, hT, X', hL, e1, e2, hq, st⟩
  · dsimp only [Pt.U, Pt.locs, Pt.cells, Pt.slots] at X' e1 e2 h1 h2 h3 st hcl
    subst h1; subst h2; subst h3
    exact Or.inr ⟨q, (T.setVm vm₁).calling g' mk As.toArray, t, U', L, E, ce, hT, X', hL, e1, e2, hq, hce, hcv, vx_cls hW₁ hcl, st⟩
end Runs
section Rows
variable {p : Program} {l : Launch} {e : Env} {R : Room} {s : State} {m : MethodId} {args : Array Value} {below : List Frame} {meth : Method} {c : Code} {H : Heap} {locs : List Loc} {cells slots : Nat} {Q : State → Prop}
variable {mc ms : Nat} {free : Addr → Prop} {A0 A1 : Nat → Prop} {H0 : Heap} {a : Array Value} {pc : Nat} {ls : Array Slot} {st0 rest : List Value}
theorem vx_keep {st₀ t T' : State} {L : List Loc} (h0 : st₀.heap = H) (e1 : T'.heap = t.heap) (hS : va_S A0 H0 H locs) (hA : ∀ q, q < H.size → A1 q → A0 q) (hf : ∀ q, free q → A0 q) (hL : ∀ q ∈ L, free q.base) (hF : va_F A1 st₀ t) :
    H.size ≤ T'.heap.size ∧ (∀ q : Nat, q < H.size → ¬ A1 q → T'.heap[q]? = H[q]?) ∧ va_S A0 H0 T'.heap (locs ++ L) := by
  obtain ⟨hz, hk⟩ := hF
  rw [h0] at hz hk
  exact ⟨by rw [e1]; exact hz, fun q h1 h2 => by rw [e1]; exact hk q h1 h2,
    ⟨Nat.le_trans hS.1 (by rw [e1]; exact hz), fun q h1 h2 => by rw [e1, hk q (Nat.lt_of_lt_of_le h1 hS.1) (fun z => h2 (hA q (Nat.lt_of_lt_of_le h1 hS.1) z))]; exact hS.2.1 q h1 h2, fun q hq => by
      rcases List.mem_append.mp hq with h | h
      · exact hS.2.2 q h
      · exact hf _ (hL q h)⟩⟩
theorem vx_calli {S SX : Type} {post : Int32 → S → Prop} {px : SX → Prop} {B : S → State → Prop} {BX : String → SX → State → Prop} {AX : Nat → Prop} (hr : vx_Run p l e R s m args below meth c H locs cells slots mc ms (F0 m pc ls st0) rest (va_Qi post B A1 a) (vx_X px BX AX) free) (hS : va_S A0 H0 H locs) (hA : ∀ q, q < H.size → A1 q → A0 q) (hf : ∀ q, free q → A0 q) (hAX : ∀ q, q < H.size → AX q → A0 q)
    (kx : ∀ (E : String) (ce : Cell) (q9 : Addr) (u : SX) (t : State) (H1 : Heap) (locs1 : List Loc), t.heap = H1 → s.vm.Alike t.vm → px u → BX E u t → H.size ≤ H1.size → (∀ q : Nat, q < H.size → ¬ AX q → H1[q]? = H[q]?) → va_S A0 H0 H1 locs1 → H1[q9]? = some ce → ce.vm = .none → s.vm.findClass E = some ce.cls → vx_W p l e R s m args below meth c H1 locs1 (cells + mc) (slots + ms) Q (F0 m pc ls rest) q9)
    (kk : ∀ (r : Int32) (u : S) (t : State) (H1 : Heap) (locs1 : List Loc), t.heap = H1 → s.vm.Alike t.vm → post r u → B u t → H.size ≤ H1.size → (∀ q : Nat, q < H.size → ¬ A1 q → H1[q]? = H[q]?) → va_S A0 H0 H1 locs1 → W p l e R s m args below meth c H1 locs1 (cells + mc) (slots + ms) Q (F0 m (pc + 3) ls (.int r :: rest))) : W p l e R s m args below meth c H locs cells slots Q (F0 m pc ls st0) := by
  intro T hT X
  rcases hr T hT X with ⟨v, st₀, t, T', L, h0, X', hL, e1, e2, ⟨⟨r, u, hv, hp, hb⟩, hF⟩, st⟩ | ⟨q, st₀, t, T', L, E, ce, h0, X', hL, e1, e2, ⟨u, hp, hb, hF⟩, hce, hcv, hcl, st⟩
  · cases hv
    obtain ⟨k1, k2, k3⟩ := vx_keep h0 e1 hS hA hf hL hF
    obtain ⟨t2, a1, b1⟩ := kk r u t T'.heap (locs ++ L) e1.symm (by rw [← e2]; exact X'.warmed.alike) hp hb k1 k2 k3 T' rfl X'
    exact ⟨t2, st t2 a1, b1⟩
  · obtain ⟨k1, k2, k3⟩ := vx_keep h0 e1 hS hAX hf hL hF
    obtain ⟨t2, a1, b1⟩ := kx E ce q u t T'.heap (locs ++ L) e1.symm (by rw [← e2]; exact X'.warmed.alike) hp hb k1 k2 k3 (by rw [e1]; exact hce) hcv hcl T' rfl X'
    exact ⟨t2, st.trans a1, b1⟩
theorem vx_calll {S SX : Type} {post : Int64 → S → Prop} {px : SX → Prop} {B : S → State → Prop} {BX : String → SX → State → Prop} {AX : Nat → Prop} (hr : vx_Run p l e R s m args below meth c H locs cells slots mc ms (F0 m pc ls st0) rest (va_Ql post B A1 a) (vx_X px BX AX) free) (hS : va_S A0 H0 H locs) (hA : ∀ q, q < H.size → A1 q → A0 q) (hf : ∀ q, free q → A0 q) (hAX : ∀ q, q < H.size → AX q → A0 q)
    (kx : ∀ (E : String) (ce : Cell) (q9 : Addr) (u : SX) (t : State) (H1 : Heap) (locs1 : List Loc), t.heap = H1 → s.vm.Alike t.vm → px u → BX E u t → H.size ≤ H1.size → (∀ q : Nat, q < H.size → ¬ AX q → H1[q]? = H[q]?) → va_S A0 H0 H1 locs1 → H1[q9]? = some ce → ce.vm = .none → s.vm.findClass E = some ce.cls → vx_W p l e R s m args below meth c H1 locs1 (cells + mc) (slots + ms) Q (F0 m pc ls rest) q9)
    (kk : ∀ (r : Int64) (u : S) (t : State) (H1 : Heap) (locs1 : List Loc), t.heap = H1 → s.vm.Alike t.vm → post r u → B u t → H.size ≤ H1.size → (∀ q : Nat, q < H.size → ¬ A1 q → H1[q]? = H[q]?) → va_S A0 H0 H1 locs1 → W p l e R s m args below meth c H1 locs1 (cells + mc) (slots + ms) Q (F0 m (pc + 3) ls (.long r :: rest))) : W p l e R s m args below meth c H locs cells slots Q (F0 m pc ls st0) := by
  intro T hT X
  rcases hr T hT X with ⟨v, st₀, t, T', L, h0, X', hL, e1, e2, ⟨⟨r, u, hv, hp, hb⟩, hF⟩, st⟩ | ⟨q, st₀, t, T', L, E, ce, h0, X', hL, e1, e2, ⟨u, hp, hb, hF⟩, hce, hcv, hcl, st⟩
  · cases hv
    obtain ⟨k1, k2, k3⟩ := vx_keep h0 e1 hS hA hf hL hF
    obtain ⟨t2, a1, b1⟩ := kk r u t T'.heap (locs ++ L) e1.symm (by rw [← e2]; exact X'.warmed.alike) hp hb k1 k2 k3 T' rfl X'
    exact ⟨t2, st t2 a1, b1⟩
  · obtain ⟨k1, k2, k3⟩ := vx_keep h0 e1 hS hAX hf hL hF
    obtain ⟨t2, a1, b1⟩ := kx E ce q u t T'.heap (locs ++ L) e1.symm (by rw [← e2]; exact X'.warmed.alike) hp hb k1 k2 k3 (by rw [e1]; exact hce) hcv hcl T' rfl X'
    exact ⟨t2, st.trans a1, b1⟩
theorem vx_callf {S SX : Type} {post : UInt32 → S → Prop} {px : SX → Prop} {B : S → State → Prop} {BX : String → SX → State → Prop} {AX : Nat → Prop} (hr : vx_Run p l e R s m args below meth c H locs cells slots mc ms (F0 m pc ls st0) rest (va_Qf post B A1 a) (vx_X px BX AX) free) (hS : va_S A0 H0 H locs) (hA : ∀ q, q < H.size → A1 q → A0 q) (hf : ∀ q, free q → A0 q) (hAX : ∀ q, q < H.size → AX q → A0 q)
    (kx : ∀ (E : String) (ce : Cell) (q9 : Addr) (u : SX) (t : State) (H1 : Heap) (locs1 : List Loc), t.heap = H1 → s.vm.Alike t.vm → px u → BX E u t → H.size ≤ H1.size → (∀ q : Nat, q < H.size → ¬ AX q → H1[q]? = H[q]?) → va_S A0 H0 H1 locs1 → H1[q9]? = some ce → ce.vm = .none → s.vm.findClass E = some ce.cls → vx_W p l e R s m args below meth c H1 locs1 (cells + mc) (slots + ms) Q (F0 m pc ls rest) q9)
    (kk : ∀ (r : UInt32) (u : S) (t : State) (H1 : Heap) (locs1 : List Loc), t.heap = H1 → s.vm.Alike t.vm → post r u → B u t → H.size ≤ H1.size → (∀ q : Nat, q < H.size → ¬ A1 q → H1[q]? = H[q]?) → va_S A0 H0 H1 locs1 → W p l e R s m args below meth c H1 locs1 (cells + mc) (slots + ms) Q (F0 m (pc + 3) ls (.float r :: rest))) : W p l e R s m args below meth c H locs cells slots Q (F0 m pc ls st0) := by
  intro T hT X
  rcases hr T hT X with ⟨v, st₀, t, T', L, h0, X', hL, e1, e2, ⟨⟨r, u, hv, hp, hb⟩, hF⟩, st⟩ | ⟨q, st₀, t, T', L, E, ce, h0, X', hL, e1, e2, ⟨u, hp, hb, hF⟩, hce, hcv, hcl, st⟩
  · cases hv
    obtain ⟨k1, k2, k3⟩ := vx_keep h0 e1 hS hA hf hL hF
    obtain ⟨t2, a1, b1⟩ := kk r u t T'.heap (locs ++ L) e1.symm (by rw [← e2]; exact X'.warmed.alike) hp hb k1 k2 k3 T' rfl X'
    exact ⟨t2, st t2 a1, b1⟩
  · obtain ⟨k1, k2, k3⟩ := vx_keep h0 e1 hS hAX hf hL hF
    obtain ⟨t2, a1, b1⟩ := kx E ce q u t T'.heap (locs ++ L) e1.symm (by rw [← e2]; exact X'.warmed.alike) hp hb k1 k2 k3 (by rw [e1]; exact hce) hcv hcl T' rfl X'
    exact ⟨t2, st.trans a1, b1⟩
theorem vx_calld {S SX : Type} {post : UInt64 → S → Prop} {px : SX → Prop} {B : S → State → Prop} {BX : String → SX → State → Prop} {AX : Nat → Prop} (hr : vx_Run p l e R s m args below meth c H locs cells slots mc ms (F0 m pc ls st0) rest (va_Qd post B A1 a) (vx_X px BX AX) free) (hS : va_S A0 H0 H locs) (hA : ∀ q, q < H.size → A1 q → A0 q) (hf : ∀ q, free q → A0 q) (hAX : ∀ q, q < H.size → AX q → A0 q)
    (kx : ∀ (E : String) (ce : Cell) (q9 : Addr) (u : SX) (t : State) (H1 : Heap) (locs1 : List Loc), t.heap = H1 → s.vm.Alike t.vm → px u → BX E u t → H.size ≤ H1.size → (∀ q : Nat, q < H.size → ¬ AX q → H1[q]? = H[q]?) → va_S A0 H0 H1 locs1 → H1[q9]? = some ce → ce.vm = .none → s.vm.findClass E = some ce.cls → vx_W p l e R s m args below meth c H1 locs1 (cells + mc) (slots + ms) Q (F0 m pc ls rest) q9)
    (kk : ∀ (r : UInt64) (u : S) (t : State) (H1 : Heap) (locs1 : List Loc), t.heap = H1 → s.vm.Alike t.vm → post r u → B u t → H.size ≤ H1.size → (∀ q : Nat, q < H.size → ¬ A1 q → H1[q]? = H[q]?) → va_S A0 H0 H1 locs1 → W p l e R s m args below meth c H1 locs1 (cells + mc) (slots + ms) Q (F0 m (pc + 3) ls (.double r :: rest))) : W p l e R s m args below meth c H locs cells slots Q (F0 m pc ls st0) := by
  intro T hT X
  rcases hr T hT X with ⟨v, st₀, t, T', L, h0, X', hL, e1, e2, ⟨⟨r, u, hv, hp, hb⟩, hF⟩, st⟩ | ⟨q, st₀, t, T', L, E, ce, h0, X', hL, e1, e2, ⟨u, hp, hb, hF⟩, hce, hcv, hcl, st⟩
  · cases hv
    obtain ⟨k1, k2, k3⟩ := vx_keep h0 e1 hS hA hf hL hF
    obtain ⟨t2, a1, b1⟩ := kk r u t T'.heap (locs ++ L) e1.symm (by rw [← e2]; exact X'.warmed.alike) hp hb k1 k2 k3 T' rfl X'
    exact ⟨t2, st t2 a1, b1⟩
  · obtain ⟨k1, k2, k3⟩ := vx_keep h0 e1 hS hAX hf hL hF
    obtain ⟨t2, a1, b1⟩ := kx E ce q u t T'.heap (locs ++ L) e1.symm (by rw [← e2]; exact X'.warmed.alike) hp hb k1 k2 k3 (by rw [e1]; exact hce) hcv hcl T' rfl X'
    exact ⟨t2, st.trans a1, b1⟩
theorem vx_callv {S SX : Type} {post : S → Prop} {px : SX → Prop} {B : S → State → Prop} {BX : String → SX → State → Prop} {AX : Nat → Prop} (hr : vx_Run p l e R s m args below meth c H locs cells slots mc ms (F0 m pc ls st0) rest (va_Qv post B A1 a) (vx_X px BX AX) free) (hS : va_S A0 H0 H locs) (hA : ∀ q, q < H.size → A1 q → A0 q) (hf : ∀ q, free q → A0 q) (hAX : ∀ q, q < H.size → AX q → A0 q)
    (kx : ∀ (E : String) (ce : Cell) (q9 : Addr) (u : SX) (t : State) (H1 : Heap) (locs1 : List Loc), t.heap = H1 → s.vm.Alike t.vm → px u → BX E u t → H.size ≤ H1.size → (∀ q : Nat, q < H.size → ¬ AX q → H1[q]? = H[q]?) → va_S A0 H0 H1 locs1 → H1[q9]? = some ce → ce.vm = .none → s.vm.findClass E = some ce.cls → vx_W p l e R s m args below meth c H1 locs1 (cells + mc) (slots + ms) Q (F0 m pc ls rest) q9)
    (kk : ∀ (u : S) (t : State) (H1 : Heap) (locs1 : List Loc), t.heap = H1 → s.vm.Alike t.vm → post u → B u t → H.size ≤ H1.size → (∀ q : Nat, q < H.size → ¬ A1 q → H1[q]? = H[q]?) → va_S A0 H0 H1 locs1 → W p l e R s m args below meth c H1 locs1 (cells + mc) (slots + ms) Q (F0 m (pc + 3) ls (rest))) : W p l e R s m args below meth c H locs cells slots Q (F0 m pc ls st0) := by
  intro T hT X
  rcases hr T hT X with ⟨v, st₀, t, T', L, h0, X', hL, e1, e2, ⟨⟨u, hv, hp, hb⟩, hF⟩, st⟩ | ⟨q, st₀, t, T', L, E, ce, h0, X', hL, e1, e2, ⟨u, hp, hb, hF⟩, hce, hcv, hcl, st⟩
  · cases hv
    obtain ⟨k1, k2, k3⟩ := vx_keep h0 e1 hS hA hf hL hF
    obtain ⟨t2, a1, b1⟩ := kk u t T'.heap (locs ++ L) e1.symm (by rw [← e2]; exact X'.warmed.alike) hp hb k1 k2 k3 T' rfl X'
    exact ⟨t2, st t2 a1, b1⟩
  · obtain ⟨k1, k2, k3⟩ := vx_keep h0 e1 hS hAX hf hL hF
    obtain ⟨t2, a1, b1⟩ := kx E ce q u t T'.heap (locs ++ L) e1.symm (by rw [← e2]; exact X'.warmed.alike) hp hb k1 k2 k3 (by rw [e1]; exact hce) hcv hcl T' rfl X'
    exact ⟨t2, st.trans a1, b1⟩
/-- caught by the row x of this method's table; the rows ahead don't take it -/
theorem vx_catch {own name : String} {E : String} {ce : Cell} {q : Addr} (hown : s.vm.findClass own = some m.cls) (pre : List ExceptionTableEntry) (x : ExceptionTableEntry) (suf : List ExceptionTableEntry) (hsplit : c.exceptionTable.toList = pre ++ x :: suf)
    (hpass : ∀ z ∈ pre, covers z pc = false ∨ (z.catchType ≠ 0 ∧ ∃ nm : String, (Cond.classLink own z.catchType nm).before args s = true ∧ va_Nc E nm s)) (hx : covers x pc = true) (h0 : x.catchType ≠ 0)
    (hlink : (Cond.classLink own x.catchType name).before args s = true) (hcast : (Cond.castable E name).before args s = true) (hcell : H[q]? = some ce) (hv : ce.vm = .none) (hcl : s.vm.findClass E = some ce.cls)
    (kk : W p l e R s m args below meth c H locs cells slots Q (F0 m x.handlerPc ls [.ref q])) : vx_W p l e R s m args below meth c H locs cells slots Q (F0 m pc ls rest) q := by
  intro T hT X
  have hpl : e.platform.magicAccessors = ({} : Platform).magicAccessors := by rw [X.admits.platform]
  obtain ⟨c3, c4, hc3, hc4, hasg⟩ := Cond.castable_spec hcast
  cases Option.some.inj (hc3.symm.trans hcl)
  obtain ⟨c5, hc5, hcl5⟩ := Cond.classLink_spec hown hlink e.platform hpl
  cases Option.some.inj (hc4.symm.trans hc5)
  obtain ⟨vm', X', st⟩ := X.thenCaughtThrough q (g := F0 m pc ls rest) rfl (Steps.refl _) (by rw [hT]; exact hcell) (by rw [hv]; rfl) (by obtain ⟨k9, h9, -⟩ := Vm.findClass_spec hcl; exact ⟨k9, h9⟩) pre x suf hsplit
    (fun z hz => by
      rcases hpass z hz with h | ⟨hz0, nm, hl1, hn1⟩
      · exact Or.inl h
      · obtain ⟨c6, hc6, hcl6⟩ := Cond.classLink_spec hown hl1 e.platform hpl
        obtain ⟨a8, b8, h1, h2, h3⟩ := hn1
        cases Option.some.inj (h1.symm.trans hcl)
        cases Option.some.inj (h2.symm.trans hc6)
        exact Or.inr ⟨hz0, _, hcl6, h3⟩) hx (Or.inr ⟨h0, c4, hcl5, hasg⟩)
  obtain ⟨t, a1, b1⟩ := kk (T.setVm vm') hT X'
  exact ⟨t, st.trans a1, b1⟩
end Rows
section Ends
variable {p : Program} {l : Launch} {e : Env} {R : Room} {s : State} {m : MethodId} {args : Array Value} {below : List Frame} {meth : Method} {c : Code} {H : Heap} {locs : List Loc} {cells slots : Nat} {Q : State → Prop}
variable {mc ms : Nat} {free : Addr → Prop} {A0 A1 : Nat → Prop} {H0 : Heap} {a : Array Value} {ls : Array Slot} {st0 rest : List Value}
variable {Qc : Array Value → State → Outcome → State → Prop} {XC : String → State → State → Prop}
/-- what a body that may throw owes at its end -/
def vx_MQ (below : List Frame) (Qc : Array Value → State → Outcome → State → Prop) (XC : String → State → State → Prop) (a : Array Value) (s : State) (mc ms : Nat) (free : Addr → Prop) : State → Prop := fun t =>
  ∃ o, t.status = .running ∧ Ended t below o ∧ vx_Q Qc XC mc ms free a s o t
theorem vx_ret {g : JFrame} {mc ms : Nat} (k : W p l e R s m args below meth c H locs cells slots (MQ below Qc args s mc ms free) g) : W p l e R s m args below meth c H locs cells slots (vx_MQ below Qc XC args s mc ms free) g := by
  intro T hT X
  obtain ⟨t, a1, o, b1, b2, b3, b4⟩ := k T hT X
  exact ⟨t, a1, o, b1, b2, Or.inl ⟨b3, b4⟩⟩
/-- not caught here: it goes on to the caller -/
theorem vx_widen {g : JFrame} {q : Addr} {k n : Nat} (h1 : cells ≤ k) (h2 : slots ≤ n) (kk : vx_W p l e R s m args below meth c H locs k n Q g q) : vx_W p l e R s m args below meth c H locs cells slots Q g q := fun T hT X => kk T hT (stand_widen X h1 h2)
theorem vx_out {pc : Nat} {E : String} {ce : Cell} {q : Addr} {mc ms : Nat} (hout : ∀ x ∈ c.exceptionTable.toList, covers x pc = false) (hlocks : meth.locks = false) (hcell : H[q]? = some ce) (hv : ce.vm = .none) (hcl : s.vm.findClass E = some ce.cls)
    (hx : ∀ t : State, t.heap = H → s.vm.Alike t.vm → XC E s t) (hf : ∀ z ∈ locs, free z.base) (hc : cells ≤ mc) (hs : slots ≤ ms) :
    vx_W p l e R s m args below meth c H locs cells slots (vx_MQ below Qc XC args s mc ms free) (F0 m pc ls rest) q := by
  intro T hT X
  obtain ⟨st1, hrun, hend, hW, hsm⟩ := X.leaveThrown q (g := F0 m pc ls rest) rfl rfl rfl hout hlocks
  have hcell9 : (T.setFrames (.throwing q :: below)).heap[q]? = some ce := by
    show T.heap[q]? = some ce
    rw [hT]; exact hcell
  exact ⟨_, st1, .threw q, hrun, hend, Or.inr ⟨q, rfl, E, ce, locs, hx _ hT hW.alike, hcell9, hv, hcl, hW, hsm.mono hc hs, hf⟩⟩
theorem vx_frame {U : State} {k n : Nat} (h : s.sameButNew ({ U with vm := s.vm } : State) locs k n) : s.heap.size ≤ U.heap.size ∧ ∀ q : Nat, q < s.heap.size → (∀ z ∈ locs, z.base ≠ q) → U.heap[q]? = s.heap[q]? := by
  obtain ⟨-, h2, -, -, -, h6⟩ := h
  refine ⟨h2, fun q hq hz => ?_⟩
  obtain ⟨c9, e1, e2, e3, e4⟩ := h6 q _ (Array.getElem?_eq_getElem hq)
  have hs : c9.slots = (s.heap[q]).slots := Array.ext_getElem? fun i => e4 i fun hm => hz _ hm rfl
  have h9 : c9 = s.heap[q] := by
    rw [hs] at e2
    exact e2
  have e5 : U.heap[q]? = some c9 := e1
  rw [e5, h9, Array.getElem?_eq_getElem hq]
/-- the words of a throw but the four that speak of the heap -/
def vx_no (w : Cond) : Bool := decide (w ≠ .isRef (.static Bundle.tN "UNASSIGNED_STACK" Bundle.steD)) && decide (w ≠ .isRef (.static Bundle.tN "SUPPRESSED_SENTINEL" Bundle.listD)) && decide (w ≠ .laysStatic Bundle.tN "UNASSIGNED_STACK" Bundle.steD) && decide (w ≠ .laysStatic Bundle.tN "SUPPRESSED_SENTINEL" Bundle.listD)
def vx_at0 (own : String) (ic : Nat) (X : String) (names : List String) : List Cond := (Bundle.ownAtoms0 own ic X names).filter vx_no
def vx_atS (own : String) (ic : Nat) (X : String) (names : List String) : List Cond := (Bundle.ownAtoms own ic X names).filter vx_no
/-- a word that the tables alone decide, or a good one -/
def vx_ot (w : Cond) : Bool := w.onTables || goodWord w
theorem vx_ot_at {args a' : Array Value} {s U : State} {w : Cond} (hW : s.WarmedH U.vm) (hvm : s.vm = U.vm) (hg : vx_ot w = true) (h : w.before args s = true) : w.before a' U = true := by
  simp only [vx_ot, Bool.or_eq_true] at hg
  rcases hg with hg | hg
  · exact va_tabs hg hvm h
  · exact word_at hW (good_of_word hg) h
/-- a list's words: the good ones out of the method's own list, the others by premises of their own -/
theorem vx_hat {args : Array Value} {s : State} {L B : List Cond} (h1 : ∀ w ∈ L.filter goodWord, w.before args s = true) (h2 : ∀ w ∈ L.filter (fun w => !goodWord w), w ∈ B) (h3 : ∀ w ∈ B, w.before args s = true) : ∀ w ∈ L, w.before args s = true := by
  intro w hw
  by_cases g : goodWord w = true
  · exact h1 w (List.mem_filter.mpr ⟨hw, g⟩)
  · refine h3 w (h2 w (List.mem_filter.mpr ⟨hw, ?_⟩))
    show (!goodWord w) = true
    cases hgw : goodWord w
    · rfl
    · exact absurd hgw g
theorem vx_c {args : Array Value} {s : State} {w : Cond} {B : List Cond} (h : w.before args s = true) (t : ∀ w ∈ B, w.before args s = true) : ∀ w' ∈ w :: B, w'.before args s = true := fun w' h' => (List.mem_cons.mp h').elim (fun e => by rw [e]; exact h) (t w')
theorem vx_n {args : Array Value} {s : State} : ∀ w ∈ ([] : List Cond), w.before args s = true := fun _ h => nomatch h
theorem vx_own {args : Array Value} {s : State} {L : List Cond} (h1 : ∀ w ∈ L.filter vx_no, w.before args s = true)
    (hU : (Cond.isRef (.static Bundle.tN "UNASSIGNED_STACK" Bundle.steD)).before args s = true) (hN : (Cond.isRef (.static Bundle.tN "SUPPRESSED_SENTINEL" Bundle.listD)).before args s = true)
    (lU : (Cond.laysStatic Bundle.tN "UNASSIGNED_STACK" Bundle.steD).before args s = true) (lN : (Cond.laysStatic Bundle.tN "SUPPRESSED_SENTINEL" Bundle.listD).before args s = true) : ∀ w ∈ L, w.before args s = true := by
  intro w hw
  by_cases e1 : w = .isRef (.static Bundle.tN "UNASSIGNED_STACK" Bundle.steD)
  · rw [e1]; exact hU
  · by_cases e2 : w = .isRef (.static Bundle.tN "SUPPRESSED_SENTINEL" Bundle.listD)
    · rw [e2]; exact hN
    · by_cases e3 : w = .laysStatic Bundle.tN "UNASSIGNED_STACK" Bundle.steD
      · rw [e3]; exact lU
      · by_cases e4 : w = .laysStatic Bundle.tN "SUPPRESSED_SENTINEL" Bundle.listD
        · rw [e4]; exact lN
        · exact h1 w (List.mem_filter.mpr ⟨hw, by unfold vx_no; rw [decide_eq_true e1, decide_eq_true e2, decide_eq_true e3, decide_eq_true e4]; rfl⟩)
/-- where a static field lies, its class's statics cell in H -/
def vx_L (C n d : String) (A : Nat → Prop) (U : State) (H : Heap) : Prop := ∃ (c : ClassId) (k : Class) (i : Nat) (f : Field) (a : Nat) (cell : Cell), U.vm.findClass C = some c ∧ U.fieldFound? C n d = some (c, k, i, f) ∧ f.isStatic = true ∧ k.statics = some a ∧ H[a]? = some cell ∧ cell.vm.isStatics = true ∧ cell.cls = c ∧ f.slot < cell.slots.size ∧ k.staticTypes[f.slot]? = some f.type ∧ ¬ A a
theorem vx_L.moved {C n d : String} {A : Nat → Prop} {u U : State} {H : Heap} (hvm : u.vm.Alike U.vm) (h : vx_L C n d A u H) : vx_L C n d A U H := by
  obtain ⟨c, k, i, f, a, cell, h1, h2, h3, h4, h5, h6, h7, h8, h9, h10⟩ := h
  obtain ⟨k', hi', he⟩ := State.fieldFound?_setVm hvm h2
  exact ⟨c, k', i, f, a, cell, by rw [hvm.findClass]; exact h1, hi', h3, by rw [he]; exact h4, h5, h6, h7, h8, by rw [he]; exact h9, h10⟩
theorem vx_L.kept {C n d : String} {A : Nat → Prop} {U : State} {H H1 : Heap} (h : vx_L C n d A U H) (hq : ∀ a : Nat, a < H.size → ¬ A a → H1[a]? = H[a]?) : vx_L C n d A U H1 := by
  obtain ⟨c, k, i, f, a, cell, h1, h2, h3, h4, h5, h6, h7, h8, h9, h10⟩ := h
  exact ⟨c, k, i, f, a, cell, h1, h2, h3, h4, by rw [hq a (Array.getElem?_eq_some_iff.mp h5).1 h10]; exact h5, h6, h7, h8, h9, h10⟩
theorem vx_L.narrow {C n d : String} {A B : Nat → Prop} {U : State} {H : Heap} (h : vx_L C n d A U H) (hAB : ∀ q, B q → A q) : vx_L C n d B U H := by
  obtain ⟨c, k, i, f, a, cell, h1, h2, h3, h4, h5, h6, h7, h8, h9, h10⟩ := h
  exact ⟨c, k, i, f, a, cell, h1, h2, h3, h4, h5, h6, h7, h8, h9, fun z => h10 (hAB _ z)⟩
theorem vx_L.word {C n d : String} {A : Nat → Prop} {s : State} {args : Array Value} (h : vx_L C n d A s s.heap) : (Cond.laysStatic C n d).before args s = true := by
  obtain ⟨c, k, i, f, a, cell, h1, h2, h3, h4, h5, h6, h7, h8, h9, -⟩ := h
  show (Cond.laysStatic C n d).holds args s none s [] = true
  exact Cond.laysStatic_of h1 h2 h3 h4 h5 h6 h7 h8 h9
/-- .. and what it holds: null or some reference -/
def vx_Zq (C n d : String) (A : Nat → Prop) (U : State) (H : Heap) : Prop := va_Zq C n d A U H ∧ vx_L C n d A U H
theorem vx_Zq.moved {C n d : String} {A : Nat → Prop} {u U : State} {H : Heap} (hvm : u.vm.Alike U.vm) (h : vx_Zq C n d A u H) : vx_Zq C n d A U H := ⟨va_Zq.moved hvm h.1, vx_L.moved hvm h.2⟩
theorem vx_Zq.kept {C n d : String} {A : Nat → Prop} {U : State} {H H1 : Heap} (h : vx_Zq C n d A U H) (hq : ∀ a : Nat, a < H.size → ¬ A a → H1[a]? = H[a]?) : vx_Zq C n d A U H1 := ⟨va_Zq.kept h.1 hq, vx_L.kept h.2 hq⟩
theorem vx_Zq.narrow {C n d : String} {A B : Nat → Prop} {U : State} {H : Heap} (h : vx_Zq C n d A U H) (hAB : ∀ q, B q → A q) : vx_Zq C n d B U H := ⟨va_Zq.narrow h.1 hAB, vx_L.narrow h.2 hAB⟩
theorem vx_Zqof {args : Array Value} {s : State} {C n d : String} {A : Nat → Prop} (hl : (Cond.laysStatic C n d).before args s = true) (hini : (Cond.initialized C).before args s = true) (h : (Cond.isRef (.static C n d)).before args s = true) (hA : ∀ a : Nat, a < s.heap.size → ¬ A a) : vx_Zq C n d A s s.heap := by
  refine ⟨va_Zqof hl hini h hA, ?_⟩
  obtain ⟨c, k, i, f, a, cell, h1, h2, h3, h4, h5, h6, h7, h8, h9⟩ := Cond.laysStatic_spec hl
  exact ⟨c, k, i, f, a, cell, h1, h2, h3, h4, h5, h6, h7, h8, h9, hA a (Array.getElem?_eq_some_iff.mp h5).1⟩
theorem vx_isRef {C n d : String} {v : Value} {A : Nat → Prop} {s : State} {args : Array Value} (h : va_Z C n d v A s s.heap) (hv : v.isRef = true) : (Cond.isRef (.static C n d)).before args s = true := by
  obtain ⟨cf, kf, fi, f, a, cell, h1, h2, h3, h4, h5, h6, h7, -⟩ := h
  have he : (Term.static C n d).eval args s none [] s = some v := by
    simp [Term.eval, State.fieldNamed?, h1, h2, h4, h5, h6, h7]
  simp only [Cond.before, Cond.holds, Cond.value, he]
  cases v <;> simp_all [Value.isRef]
theorem vx_isRefq {C n d : String} {A : Nat → Prop} {s : State} {args : Array Value} (h : va_Zq C n d A s s.heap) : (Cond.isRef (.static C n d)).before args s = true := by
  rcases h with h | ⟨t, h⟩
  · exact vx_isRef h rfl
  · exact vx_isRef h rfl
/-- the same frame, seen from here: as if the method were called anew in this heap -/
theorem vx_rebase {T : State} (X : Stand p l e R s m args below meth c T locs cells slots) {R' : Room} (hf : R'.frames ≤ R.frames) (hl : R'.locals ≤ R.locals) (hc : cells + R'.cells ≤ R.cells) (hs : slots + R'.slots ≤ R.slots) :
    Stand p l e R' ((T.setVm s.vm).setFrames (.invoking m args :: below)) m args below meth c T [] 0 0 := by
  have htop : (T.setVm s.vm).topJava?.isSome := X.here.top
  have hF : ((T.setVm s.vm).setFrames (.invoking m args :: below)).frames = .invoking m args :: below := State.frames_setFrames _ (State.cur_lt_of_top htop)
  obtain ⟨g₀, hg0⟩ := Option.isSome_iff_exists.mp htop
  obtain ⟨r, hr⟩ := State.topJava?_eq_some.mp hg0
  have hl9 : e.platform.stackLimits (T.setVm s.vm).me = e.platform.stackLimits s.me := X.limits
  have hb9 : (T.setVm s.vm).me.stackBytes = s.me.stackBytes := X.bytes
  refine ⟨X.admits, X.cas, X.clock, hF, ?_, X.hears, X.method, X.code, X.here, X.tail, X.warmed, ?_, ?_, ?_⟩
  · have h := X.room
    have hU : ((T.setVm s.vm).setFrames (.invoking m args :: below)).localsInUse = s.localsInUse := by
      rw [State.localsInUse_invoking hF (meth := meth) (c := c) X.method X.code, State.localsInUse_invoking X.frames X.method X.code]
    simp only [State.hasRoom, Bool.and_eq_true, decide_eq_true_eq] at h ⊢
    obtain ⟨⟨⟨⟨h1, h2, h3, h4, h5, h6⟩, h7⟩, h8⟩, h9⟩ := h
    rw [X.frames, List.length_cons] at h2 h3
    have q1 := X.heapSize
    have q2 := X.used
    simp only [hF, hU, List.length_cons, State.stackLimits_setFrames, State.stackBytes_setFrames, hl9, hb9]
    refine ⟨⟨⟨⟨by omega, by omega, by omega, by omega, by omega, h6⟩, ?_⟩, ?_⟩, X.book⟩
    · show T.heap.size + R'.cells ≤ e.platform.maxCells
      omega
    · show T.slotsUsed + R'.slots ≤ e.platform.maxSlots
      omega
  · rw [State.stackLimits_setFrames]; rfl
  · rw [State.stackBytes_setFrames]; rfl
  · refine ⟨?_, Nat.le_refl _, Nat.le_refl _, ?_, ?_, fun a c9 h9 => ⟨c9, h9, rfl, rfl, fun _ _ => rfl⟩⟩
    · obtain ⟨t, ht, -⟩ := State.frames_cons hr
      show T.setVm s.vm = { ((T.setVm s.vm).setFrames (.invoking m args :: below)).setFrames (T.setVm s.vm).frames with heap := T.heap, slotsUsed := T.slotsUsed }
      rw [State.setFrames_setFrames, State.setFrames_self ht]
      rfl
    · show T.slotsUsed = T.slotsUsed + ((T.heap.toList.drop T.heap.size).map (·.slots.size)).sum
      rw [List.drop_eq_nil_of_le (Nat.le_of_eq Array.length_toList)]
      rfl
    · show ((T.heap.toList.drop T.heap.size).map (·.slots.size)).sum ≤ 0
      rw [List.drop_eq_nil_of_le (Nat.le_of_eq Array.length_toList)]
      exact Nat.le_refl _
/-- 'throw new E()': new; dup; invokespecial; athrow -/
theorem vx_throw0 {cc : ByteArray} {pc : Nat} (hexec : p.tables.exec = Jvm.exec) (hb : c.code = cc) (hl : l.stackTraces = false) {own cls : String} {names : List String} {ik ic mc ms : Nat} {A : Nat → Prop}
    (hown : s.vm.findClass own = some m.cls) (hcls : Bundle.fit cls = true) (hnames : ∀ n ∈ names, Bundle.fit n = true)
    (hk : (Cond.classLink own ik cls).before args s = true) (hini : (Cond.initialized cls).before args s = true) (hat : ∀ w ∈ vx_at0 own ic cls names, w.before args s = true)
    (hgood : ∀ w ∈ Cond.classLink own ik cls :: Cond.initialized cls :: vx_at0 own ic cls names, vx_ot w = true)
    (hU : vx_Zq Bundle.tN "UNASSIGNED_STACK" Bundle.steD A s s.heap) (hN : vx_Zq Bundle.tN "SUPPRESSED_SENTINEL" Bundle.listD A s s.heap) (hS : va_S A s.heap H locs) (hsize : ls.size = c.maxLocals)
    (d0 : decode cc pc = .ok (.new ik, 3)) (d3 : decode cc (pc + 3) = .ok (.dup, 1)) (d4 : decode cc (pc + 4) = .ok (.invokespecial ic, 3)) (d7 : decode cc (pc + 7) = .ok (.athrow, 1))
    (hout : ∀ x ∈ c.exceptionTable.toList, covers x (pc + 7) = false)
    (hRframes : names.length + 3 < R.frames) (hRlocals : (rest.map fun v => v.category).sum + (13 * (names.length + 1) + 42) ≤ R.locals) (hRcells : cells + 1 ≤ R.cells) (hRslots : slots + 6 ≤ R.slots) (hlocks : meth.locks = false)
    (hx : ∀ t : State, s.vm.Alike t.vm → H.size ≤ t.heap.size → (∀ q : Nat, q < H.size → t.heap[q]? = H[q]?) → XC cls s t)
    (hf : ∀ z ∈ locs, free z.base) (hc : cells + 1 ≤ mc) (hs : slots + 6 ≤ ms) :
    W p l e R s m args below meth c H locs cells slots (vx_MQ below Qc XC args s mc ms free) (F0 m pc ls rest) := by
  intro T hT X
  have htr : e.platform.stackTraces = false := (show e.platform.stackTraces = l.stackTraces by rw [X.admits.platform]).trans hl
  have Y := vx_rebase X (R' := { frames := R.frames, locals := R.locals, cells := 1, slots := 6 }) (Nat.le_refl _) (Nat.le_refl _) hRcells hRslots
  obtain ⟨s', hA⟩ : ∃ z, z = (T.setVm s.vm).setFrames (.invoking m args :: below) := ⟨_, rfl⟩
  rw [← hA] at Y
  have hvm : s'.vm = s.vm := by rw [hA]; rfl
  have hhp : s'.heap = H := by rw [hA]; exact hT
  have hW0 : s.WarmedH s'.vm := by rw [hvm]; exact State.WarmedH.refl s
  have hat' : ∀ w ∈ vx_at0 own ic cls names, w.before args s' = true := fun w hw => vx_ot_at hW0 hvm.symm (hgood w (List.mem_cons_of_mem _ (List.mem_cons_of_mem _ hw))) (hat w hw)
  have hk' : (Cond.classLink own ik cls).before args s' = true := vx_ot_at hW0 hvm.symm (hgood _ List.mem_cons_self) hk
  have hini' : (Cond.initialized cls).before args s' = true := vx_ot_at hW0 hvm.symm (hgood _ (List.mem_cons_of_mem _ List.mem_cons_self)) hini
  have hU' : vx_Zq Bundle.tN "UNASSIGNED_STACK" Bundle.steD A s' s'.heap := by rw [hhp]; exact vx_Zq.moved hW0.alike (hU.kept hS.2.1)
  have hN' : vx_Zq Bundle.tN "SUPPRESSED_SENTINEL" Bundle.listD A s' s'.heap := by rw [hhp]; exact vx_Zq.moved hW0.alike (hN.kept hS.2.1)
  have h : ∀ w ∈ Bundle.ownAtoms0 own ic cls names, w.before args s' = true := vx_own hat' (vx_isRefq hU'.1) (vx_isRefq hN'.1) hU'.2.word hN'.2.word
  have hown' : s'.vm.findClass own = some m.cls := by rw [hvm]; exact hown
  have hins : (Cond.instantiable cls 6).before args s' = true := h _ (by simp [Bundle.ownAtoms0])
  obtain ⟨vm₁, cX, kX, hfX, hkX, -, -, X₁, st1⟩ := Y.newCold hexec (own := own) (C := cls) (index := ik) (n := 6) hown' hk' hins hini'
    (g := F0 m pc ls rest) rfl (by rw [hb]; exact d0) (Nat.le_refl _) (Nat.le_refl _)
  generalize hT1 : (T.setVm vm₁).pushCell { cls := cX, slots := kX.instanceTypes.map defaultValue, vm := .none } = T1 at X₁ st1
  have hcat : (Value.ref T.heap.size).category = 1 := rfl
  have hcellA : T1.heap[T.heap.size]? = some (freshCell cX kX) := by rw [← hT1]; exact State.heap_pushCell_size _ _
  have d3' : decode c.code (pc + 3) = .ok (.dup, 1) := by rw [hb]; exact d3
  obtain ⟨U, hsteps, hrun, hend, hW, hsame, ce, hce, hO⟩ := X₁.ctorThrow0 hexec htr (own := own) (cls := cls) (names := names) (ic := ic) hown' hcls hnames h (fun x hx => nomatch hx) hfX hkX hcellA (by rw [hhp, hT]; exact Nat.le_refl _)
    (g := { method := m, pc := pc + 4, locals := ls, stack := .ref T.heap.size :: .ref T.heap.size :: rest, locked := none }) rfl hsize rfl rfl (rest := rest) rfl
    (by rw [hb]; exact d4) (by rw [hb]; exact d7) hout hRframes (by simp only [List.map_cons, List.sum_cons, hcat]; omega) hlocks
  obtain ⟨f1, f2⟩ := vx_frame hsame
  rw [hhp] at f1 f2
  have hWs : s.WarmedH U.vm := State.WarmedH.trans hW0 hW
  have hcl : s.vm.findClass cls = some ce.cls := by
    have h9 := hO.cls
    rw [hvm] at h9
    exact h9
  have hall : s.sameButNew ({ U with vm := s.vm } : State) locs mc ms := by
    subst hA
    obtain ⟨e1, e2⟩ := hsame
    rw [State.setFrames_setFrames] at e1
    have h2 : (T.setVm s.vm).sameButNew ({ U with vm := s.vm } : State) [] (0 + 1) (0 + 6) := ⟨e1, e2⟩
    have h3 := X.same.trans h2
    rw [List.append_nil] at h3
    exact h3.mono hc hs
  refine ⟨U, ?_, .threw T.heap.size, hrun, hend, Or.inr ⟨T.heap.size, rfl, cls, ce, locs, hx U hWs.alike f1 (fun q hq => f2 q hq (fun z hz => nomatch hz)), hce, hO.vm, hcl, hWs, hall, hf⟩⟩
  refine st1 _ ?_
  show Steps p.tables e below (T1.setTop { method := m, pc := pc + 3, locals := ls, stack := .ref T.heap.size :: rest, locked := none }) _
  jvm_step X₁.here [X₁.here.top, hexec, d3', Value.category]
  exact hsteps
/-- 'throw new E("text")': new; dup; ldc; invokespecial; athrow -/
theorem vx_throwS {cc : ByteArray} {pc : Nat} (hexec : p.tables.exec = Jvm.exec) (hb : c.code = cc) (hl : l.stackTraces = false) {own cls text : String} {names : List String} {ik is ic mc ms sa : Nat} {A : Nat → Prop}
    (hown : s.vm.findClass own = some m.cls) (hcls : Bundle.fit cls = true) (hnames : ∀ n ∈ names, Bundle.fit n = true)
    (hk : (Cond.classLink own ik cls).before args s = true) (hini : (Cond.initialized cls).before args s = true) (hstr : vk_R own is text sa s) (hat : ∀ w ∈ vx_atS own ic cls names, w.before args s = true)
    (hgood : ∀ w ∈ Cond.classLink own ik cls :: Cond.initialized cls :: vx_atS own ic cls names, vx_ot w = true)
    (hU : vx_Zq Bundle.tN "UNASSIGNED_STACK" Bundle.steD A s s.heap) (hN : vx_Zq Bundle.tN "SUPPRESSED_SENTINEL" Bundle.listD A s s.heap) (hS : va_S A s.heap H locs) (hsize : ls.size = c.maxLocals)
    (d0 : decode cc pc = .ok (.new ik, 3)) (d3 : decode cc (pc + 3) = .ok (.dup, 1)) (d4 : decode cc (pc + 4) = .ok (.ldc is, 2)) (d6 : decode cc (pc + 6) = .ok (.invokespecial ic, 3)) (d9 : decode cc (pc + 9) = .ok (.athrow, 1))
    (hout : ∀ x ∈ c.exceptionTable.toList, covers x (pc + 9) = false)
    (hRframes : names.length + 3 < R.frames) (hRlocals : (rest.map fun v => v.category).sum + (13 * (names.length + 1) + 43) ≤ R.locals) (hRcells : cells + 1 ≤ R.cells) (hRslots : slots + 6 ≤ R.slots) (hlocks : meth.locks = false)
    (hx : ∀ t : State, s.vm.Alike t.vm → H.size ≤ t.heap.size → (∀ q : Nat, q < H.size → t.heap[q]? = H[q]?) → XC cls s t)
    (hf : ∀ z ∈ locs, free z.base) (hc : cells + 1 ≤ mc) (hs : slots + 6 ≤ ms) :
    W p l e R s m args below meth c H locs cells slots (vx_MQ below Qc XC args s mc ms free) (F0 m pc ls rest) := by
  intro T hT X
  have htr : e.platform.stackTraces = false := (show e.platform.stackTraces = l.stackTraces by rw [X.admits.platform]).trans hl
  have Y := vx_rebase X (R' := { frames := R.frames, locals := R.locals, cells := 1, slots := 6 }) (Nat.le_refl _) (Nat.le_refl _) hRcells hRslots
  obtain ⟨s', hA⟩ : ∃ z, z = (T.setVm s.vm).setFrames (.invoking m args :: below) := ⟨_, rfl⟩
  rw [← hA] at Y
  have hvm : s'.vm = s.vm := by rw [hA]; rfl
  have hhp : s'.heap = H := by rw [hA]; exact hT
  have hW0 : s.WarmedH s'.vm := by rw [hvm]; exact State.WarmedH.refl s
  have hat' : ∀ w ∈ vx_atS own ic cls names, w.before args s' = true := fun w hw => vx_ot_at hW0 hvm.symm (hgood w (List.mem_cons_of_mem _ (List.mem_cons_of_mem _ hw))) (hat w hw)
  have hk' : (Cond.classLink own ik cls).before args s' = true := vx_ot_at hW0 hvm.symm (hgood _ List.mem_cons_self) hk
  have hini' : (Cond.initialized cls).before args s' = true := vx_ot_at hW0 hvm.symm (hgood _ (List.mem_cons_of_mem _ List.mem_cons_self)) hini
  have hU' : vx_Zq Bundle.tN "UNASSIGNED_STACK" Bundle.steD A s' s'.heap := by rw [hhp]; exact vx_Zq.moved hW0.alike (hU.kept hS.2.1)
  have hN' : vx_Zq Bundle.tN "SUPPRESSED_SENTINEL" Bundle.listD A s' s'.heap := by rw [hhp]; exact vx_Zq.moved hW0.alike (hN.kept hS.2.1)
  have h : ∀ w ∈ Bundle.ownAtoms own ic cls names, w.before args s' = true := vx_own hat' (vx_isRefq hU'.1) (vx_isRefq hN'.1) hU'.2.word hN'.2.word
  have hown' : s'.vm.findClass own = some m.cls := by rw [hvm]; exact hown
  have hins : (Cond.instantiable cls 6).before args s' = true := h _ (by simp [Bundle.ownAtoms])
  obtain ⟨vm₁, cX, kX, hfX, hkX, -, -, X₁, st1⟩ := Y.newCold hexec (own := own) (C := cls) (index := ik) (n := 6) hown' hk' hins hini'
    (g := F0 m pc ls rest) rfl (by rw [hb]; exact d0) (Nat.le_refl _) (Nat.le_refl _)
  generalize hT1 : (T.setVm vm₁).pushCell { cls := cX, slots := kX.instanceTypes.map defaultValue, vm := .none } = T1 at X₁ st1
  have hcat : (Value.ref T.heap.size).category = 1 := rfl
  have hcellA : T1.heap[T.heap.size]? = some (freshCell cX kX) := by rw [← hT1]; exact State.heap_pushCell_size _ _
  have d3' : decode c.code (pc + 3) = .ok (.dup, 1) := by rw [hb]; exact d3
  have d4' : decode c.code (pc + 4) = .ok (.ldc is, 2) := by rw [hb]; exact d4
  have hstr' : vk_R own is text sa s' := vk_R.warm hW0 hstr
  obtain ⟨U, hsteps, hrun, hend, hW, hsame, ce, hce, hO⟩ := X₁.ctorThrowS hexec htr (own := own) (cls := cls) (names := names) (ic := ic) hown' hcls hnames h (fun x hx => nomatch hx) hfX hkX hcellA (by rw [hhp, hT]; exact Nat.le_refl _) (msg := .ref sa) rfl
    (g := { method := m, pc := pc + 6, locals := ls, stack := .ref sa :: .ref T.heap.size :: .ref T.heap.size :: rest, locked := none }) rfl hsize rfl rfl (rest := rest) rfl
    (by rw [hb]; exact d6) (by rw [hb]; exact d9) hout hRframes (by simp only [List.map_cons, List.sum_cons, hcat]; omega) hlocks
  obtain ⟨f1, f2⟩ := vx_frame hsame
  rw [hhp] at f1 f2
  have hWs : s.WarmedH U.vm := State.WarmedH.trans hW0 hW
  have hcl : s.vm.findClass cls = some ce.cls := by
    have h9 := hO.cls
    rw [hvm] at h9
    exact h9
  have hall : s.sameButNew ({ U with vm := s.vm } : State) locs mc ms := by
    subst hA
    obtain ⟨e1, e2⟩ := hsame
    rw [State.setFrames_setFrames] at e1
    have h2 : (T.setVm s.vm).sameButNew ({ U with vm := s.vm } : State) [] (0 + 1) (0 + 6) := ⟨e1, e2⟩
    have h3 := X.same.trans h2
    rw [List.append_nil] at h3
    exact h3.mono hc hs
  refine ⟨U, ?_, .threw T.heap.size, hrun, hend, Or.inr ⟨T.heap.size, rfl, cls, ce, locs, hx U hWs.alike f1 (fun q hq => f2 q hq (fun z hz => nomatch hz)), hce, hO.vm, hcl, hWs, hall, hf⟩⟩
  refine st1 _ ?_
  show Steps p.tables e below (T1.setTop { method := m, pc := pc + 3, locals := ls, stack := .ref T.heap.size :: rest, locked := none }) _
  jvm_step X₁.here [X₁.here.top, hexec, d3', Value.category]
  exact X₁.ldcString hexec (own := own) (text := text) (index := is) (a := sa) hown' hstr'.1 hstr'.2
    (g := { method := m, pc := pc + 4, locals := ls, stack := .ref T.heap.size :: .ref T.heap.size :: rest, locked := none }) rfl d4' _ hsteps
/-- 'throw new E("text")', the text by a wide index -/
theorem vx_throwSW {cc : ByteArray} {pc : Nat} (hexec : p.tables.exec = Jvm.exec) (hb : c.code = cc) (hl : l.stackTraces = false) {own cls text : String} {names : List String} {ik is ic mc ms sa : Nat} {A : Nat → Prop}
    (hown : s.vm.findClass own = some m.cls) (hcls : Bundle.fit cls = true) (hnames : ∀ n ∈ names, Bundle.fit n = true)
    (hk : (Cond.classLink own ik cls).before args s = true) (hini : (Cond.initialized cls).before args s = true) (hstr : vk_R own is text sa s) (hat : ∀ w ∈ vx_atS own ic cls names, w.before args s = true)
    (hgood : ∀ w ∈ Cond.classLink own ik cls :: Cond.initialized cls :: vx_atS own ic cls names, vx_ot w = true)
    (hU : vx_Zq Bundle.tN "UNASSIGNED_STACK" Bundle.steD A s s.heap) (hN : vx_Zq Bundle.tN "SUPPRESSED_SENTINEL" Bundle.listD A s s.heap) (hS : va_S A s.heap H locs) (hsize : ls.size = c.maxLocals)
    (d0 : decode cc pc = .ok (.new ik, 3)) (d3 : decode cc (pc + 3) = .ok (.dup, 1)) (d4 : decode cc (pc + 4) = .ok (.ldc_w is, 3)) (d7 : decode cc (pc + 7) = .ok (.invokespecial ic, 3)) (d10 : decode cc (pc + 10) = .ok (.athrow, 1))
    (hout : ∀ x ∈ c.exceptionTable.toList, covers x (pc + 10) = false)
    (hRframes : names.length + 3 < R.frames) (hRlocals : (rest.map fun v => v.category).sum + (13 * (names.length + 1) + 43) ≤ R.locals) (hRcells : cells + 1 ≤ R.cells) (hRslots : slots + 6 ≤ R.slots) (hlocks : meth.locks = false)
    (hx : ∀ t : State, s.vm.Alike t.vm → H.size ≤ t.heap.size → (∀ q : Nat, q < H.size → t.heap[q]? = H[q]?) → XC cls s t)
    (hf : ∀ z ∈ locs, free z.base) (hc : cells + 1 ≤ mc) (hs : slots + 6 ≤ ms) :
    W p l e R s m args below meth c H locs cells slots (vx_MQ below Qc XC args s mc ms free) (F0 m pc ls rest) := by
  intro T hT X
  have htr : e.platform.stackTraces = false := (show e.platform.stackTraces = l.stackTraces by rw [X.admits.platform]).trans hl
  have Y := vx_rebase X (R' := { frames := R.frames, locals := R.locals, cells := 1, slots := 6 }) (Nat.le_refl _) (Nat.le_refl _) hRcells hRslots
  obtain ⟨s', hA⟩ : ∃ z, z = (T.setVm s.vm).setFrames (.invoking m args :: below) := ⟨_, rfl⟩
  rw [← hA] at Y
  have hvm : s'.vm = s.vm := by rw [hA]; rfl
  have hhp : s'.heap = H := by rw [hA]; exact hT
  have hW0 : s.WarmedH s'.vm := by rw [hvm]; exact State.WarmedH.refl s
  have hat' : ∀ w ∈ vx_atS own ic cls names, w.before args s' = true := fun w hw => vx_ot_at hW0 hvm.symm (hgood w (List.mem_cons_of_mem _ (List.mem_cons_of_mem _ hw))) (hat w hw)
  have hk' : (Cond.classLink own ik cls).before args s' = true := vx_ot_at hW0 hvm.symm (hgood _ List.mem_cons_self) hk
  have hini' : (Cond.initialized cls).before args s' = true := vx_ot_at hW0 hvm.symm (hgood _ (List.mem_cons_of_mem _ List.mem_cons_self)) hini
  have hU' : vx_Zq Bundle.tN "UNASSIGNED_STACK" Bundle.steD A s' s'.heap := by rw [hhp]; exact vx_Zq.moved hW0.alike (hU.kept hS.2.1)
  have hN' : vx_Zq Bundle.tN "SUPPRESSED_SENTINEL" Bundle.listD A s' s'.heap := by rw [hhp]; exact vx_Zq.moved hW0.alike (hN.kept hS.2.1)
  have h : ∀ w ∈ Bundle.ownAtoms own ic cls names, w.before args s' = true := vx_own hat' (vx_isRefq hU'.1) (vx_isRefq hN'.1) hU'.2.word hN'.2.word
  have hown' : s'.vm.findClass own = some m.cls := by rw [hvm]; exact hown
  have hins : (Cond.instantiable cls 6).before args s' = true := h _ (by simp [Bundle.ownAtoms])
  obtain ⟨vm₁, cX, kX, hfX, hkX, -, -, X₁, st1⟩ := Y.newCold hexec (own := own) (C := cls) (index := ik) (n := 6) hown' hk' hins hini'
    (g := F0 m pc ls rest) rfl (by rw [hb]; exact d0) (Nat.le_refl _) (Nat.le_refl _)
  generalize hT1 : (T.setVm vm₁).pushCell { cls := cX, slots := kX.instanceTypes.map defaultValue, vm := .none } = T1 at X₁ st1
  have hcat : (Value.ref T.heap.size).category = 1 := rfl
  have hcellA : T1.heap[T.heap.size]? = some (freshCell cX kX) := by rw [← hT1]; exact State.heap_pushCell_size _ _
  have d3' : decode c.code (pc + 3) = .ok (.dup, 1) := by rw [hb]; exact d3
  have d4' : decode c.code (pc + 4) = .ok (.ldc_w is, 3) := by rw [hb]; exact d4
  have hstr' : vk_R own is text sa s' := vk_R.warm hW0 hstr
  obtain ⟨U, hsteps, hrun, hend, hW, hsame, ce, hce, hO⟩ := X₁.ctorThrowS hexec htr (own := own) (cls := cls) (names := names) (ic := ic) hown' hcls hnames h (fun x hx => nomatch hx) hfX hkX hcellA (by rw [hhp, hT]; exact Nat.le_refl _) (msg := .ref sa) rfl
    (g := { method := m, pc := pc + 7, locals := ls, stack := .ref sa :: .ref T.heap.size :: .ref T.heap.size :: rest, locked := none }) rfl hsize rfl rfl (rest := rest) rfl
    (by rw [hb]; exact d7) (by rw [hb]; exact d10) hout hRframes (by simp only [List.map_cons, List.sum_cons, hcat]; omega) hlocks
  obtain ⟨f1, f2⟩ := vx_frame hsame
  rw [hhp] at f1 f2
  have hWs : s.WarmedH U.vm := State.WarmedH.trans hW0 hW
  have hcl : s.vm.findClass cls = some ce.cls := by
    have h9 := hO.cls
    rw [hvm] at h9
    exact h9
  have hall : s.sameButNew ({ U with vm := s.vm } : State) locs mc ms := by
    subst hA
    obtain ⟨e1, e2⟩ := hsame
    rw [State.setFrames_setFrames] at e1
    have h2 : (T.setVm s.vm).sameButNew ({ U with vm := s.vm } : State) [] (0 + 1) (0 + 6) := ⟨e1, e2⟩
    have h3 := X.same.trans h2
    rw [List.append_nil] at h3
    exact h3.mono hc hs
  refine ⟨U, ?_, .threw T.heap.size, hrun, hend, Or.inr ⟨T.heap.size, rfl, cls, ce, locs, hx U hWs.alike f1 (fun q hq => f2 q hq (fun z hz => nomatch hz)), hce, hO.vm, hcl, hWs, hall, hf⟩⟩
  refine st1 _ ?_
  show Steps p.tables e below (T1.setTop { method := m, pc := pc + 3, locals := ls, stack := .ref T.heap.size :: rest, locked := none }) _
  jvm_step X₁.here [X₁.here.top, hexec, d3', Value.category]
  exact X₁.ldcStringW hexec (own := own) (text := text) (index := is) (a := sa) hown' hstr'.1 hstr'.2
    (g := { method := m, pc := pc + 4, locals := ls, stack := .ref T.heap.size :: .ref T.heap.size :: rest, locked := none }) rfl d4' _ hsteps
end Ends
section Bodies
variable {l : Launch}
theorem vx_ofW {y : MethodName} {ws ws' : List Cond} {rm : Room} {Pc : Array Value → State → Prop} {Qc : Array Value → State → Outcome → State → Prop} {XC : String → State → State → Prop} {mc ms : Nat} {free : Addr → Prop} {cc : ByteArray} {maxL : Nat} {ret : Option FieldType}
    (hy : plainName y.cls = true) (hw : ws = Cond.code y cc maxL ret :: ws')
    (body : ∀ p e s m args below meth c s₁, BodyLoose p l y (headSpec ws rm) cc maxL ret e s m args below meth c s₁ → c.maxLocals = maxL → (∀ x ∈ c.exceptionTable.toList, False) → Pc args s →
      W p l e (headSpec ws rm).room s m args below meth c s.heap [] 0 0 (vx_MQ below Qc XC args s mc ms free) (entryFrame m args maxL)) : vx_Met l y ws rm Pc Qc XC mc ms free := by
  refine MetFree.of_bodyS (code := cc) (maxLocals := maxL) (ret := ret) hy ?_ ?_
  · intro args s m h hn
    obtain ⟨meth, c, h1, h2, h3, h4, h5, h6, -, -⟩ := Cond.code_spec hn (atoms_spec (ws := ws) h _ (by rw [hw]; exact List.mem_cons_self))
    exact ⟨meth, c, h1, h2, h3, h4, h5, h6⟩
  · intro p e s m args below meth c s₁ B hml hP _
    have hh0 : s₁.heap = s.heap := by rw [B.state]; rfl
    have ht : ∀ x ∈ c.exceptionTable.toList, False := by
      obtain ⟨meth9, c9, h1, h2, -, -, -, -, h7, -⟩ := Cond.code_spec B.named (atoms_spec (ws := ws) B.pre _ (by rw [hw]; exact List.mem_cons_self))
      cases Option.some.inj (h1.symm.trans B.method)
      cases Option.some.inj (h2.symm.trans (Stand.of_body B).code)
      intro x hx
      rw [Array.isEmpty_iff.mp h7] at hx
      cases hx
    obtain ⟨t, a1, o, b1, b2, b3⟩ := body p e s m args below meth c s₁ B hml ht hP s₁ hh0 (Stand.of_body B)
    exact ⟨t, o, a1, b1, b2, b3⟩
/-- the table of a body with handlers -/
theorem vx_table {p : Program} {x y : MethodName} {S : Spec} {cc bytes : ByteArray} {maxL maxL' : Nat} {ret ret' : Option FieldType} {e : Env} {s s₁ : State} {m : MethodId} {args : Array Value} {below : List Frame} {meth : Method} {c : Code} {hh : List (Nat × Nat × Nat × Nat)}
    (B : BodyLoose p l y S cc maxL ret e s m args below meth c s₁) (h : (Cond.codeWith y bytes maxL' ret' hh).before args s = true) : c.exceptionTable.toList = tableOf hh := by
  obtain ⟨m9, meth9, c9, hn9, h1, h2, -, -, h6, -⟩ := Cond.codeWith_spec h
  cases Option.some.inj (hn9.symm.trans B.named)
  cases Option.some.inj (h1.symm.trans B.method)
  cases Option.some.inj (h2.symm.trans (Stand.of_body B).code)
  rw [← h6, table_eq]
end Bodies
end VXA
/-! ===== END ===== -/
/-! ===== BEGIN a static call of a method with an exception table ===== -/
section VXS
variable {p : Program} {l : Launch} {e : Env} {R : Room} {s : State} {m : MethodId} {args : Array Value} {below : List Frame} {meth : Method} {c : Code} {T : State} {H : Heap} {locs : List Loc} {cells slots : Nat}
abbrev vx_CSW (R : Room) (s : State) (args : Array Value) (own : String) (index : Nat) (y : MethodName) (bytes : ByteArray) (maxL : Nat) (ret : Option FieldType) (hh : List (Nat × Nat × Nat × Nat)) (ws : List Cond) (rm : Room) (mc ms n : Nat) : Prop :=
  (rm.cells = mc ∧ rm.slots = ms ∧ rm.frames + 1 ≤ R.frames ∧ 8 + (maxL + 11) + rm.locals ≤ R.locals ∧ (∀ w ∈ ws, ∀ (a' : Array Value) (U : State), s.WarmedH U.vm → w.before a' U = true) ∧ Cond.codeWith y bytes maxL ret hh ∈ ws) ∧
  (Cond.codeWith y bytes maxL ret hh).before args s = true ∧ (Cond.initialized y.cls).before args s = true ∧ (y.cls ≠ "java/lang/invoke/MethodHandle" ∧ y.cls ≠ "java/lang/invoke/VarHandle") ∧
  (∀ sig, parseMethodDescriptor y.desc = some sig → n = sig.parameters.length) ∧ (Cond.methodLink own index y).before args s = true ∧ (Cond.static y).before args s = true
theorem vx_cwSW {own : String} {index maxL mc ms : Nat} {y : MethodName} {bytes : ByteArray} {ret : Option FieldType} {hh : List (Nat × Nat × Nat × Nat)} {Ts ws ws' : List Cond} {rm : Room} (n : Nat) (ht : ∀ w ∈ Ts, w.before args s = true) (hT : GoodIn Ts (va_wsS own index y ws)) (hw : ws = Cond.codeWith y bytes maxL ret hh :: ws') (hrc : rm.cells = mc) (hrs : rm.slots = ms)
    (hd : y.cls ≠ "java/lang/invoke/MethodHandle" ∧ y.cls ≠ "java/lang/invoke/VarHandle" ∧ (parseMethodDescriptor y.desc).map (fun d => d.parameters.length) = some n) (hR : rm.frames + 1 ≤ R.frames ∧ 8 + (maxL + 11) + rm.locals ≤ R.locals) :
    vx_CSW R s args own index y bytes maxL ret hh ws rm mc ms n := by
  have ok : ∀ w ∈ va_wsS own index y ws, w.before args s = true := fun w h => ht w (hT w h).1
  have hG : GoodIn Ts ws := fun w h => hT w (by unfold va_wsS; exact List.mem_append_right _ h)
  have hc : Cond.codeWith y bytes maxL ret hh ∈ ws := by rw [hw]; exact List.mem_cons_self
  refine ⟨⟨hrc, hrs, hR.1, hR.2, pay_in ht hG, hc⟩, ht _ (hG _ hc).1, ok _ (by simp [va_wsS]), ⟨hd.1, hd.2.1⟩, fun sig h => ?_, ok _ (by simp [va_wsS]), ok _ (by simp [va_wsS])⟩
  have h2 := hd.2.2
  rw [h] at h2
  exact (Option.some.inj h2).symm
theorem vx_callSW (X : Stand p l e R s m args below meth c T locs cells slots) (hexec : p.tables.exec = Jvm.exec) {own : String} {index : Nat} {y : MethodName} {bytes : ByteArray} {maxL : Nat} {ret : Option FieldType} {hh : List (Nat × Nat × Nat × Nat)}
    (hown : s.vm.findClass own = some m.cls) (hlink : (Cond.methodLink own index y).before args s = true) (hstat : (Cond.static y).before args s = true) (hinit : (Cond.initialized y.cls).before args s = true)
    (hcode : (Cond.codeWith y bytes maxL ret hh).before args s = true) (hy : y.cls ≠ "java/lang/invoke/MethodHandle" ∧ y.cls ≠ "java/lang/invoke/VarHandle")
    {W9 : Nat} {Pre : Pt → Array Value → Prop} {Post : Pt → Array Value → Option Value → Pt → Prop} (hK : Back l R p e below s args y 3 W9 Pre Post)
    {g : JFrame} (hg : g.method = m) (hsize : g.locals.size = c.maxLocals) {argsL rest : List Value} (hlen : ∀ sig, parseMethodDescriptor y.desc = some sig → argsL.length = sig.parameters.length)
    (hstack : g.stack = argsL.reverse ++ rest) (hW : 2 * g.monitorRoom + (rest.map fun v => v.category).sum ≤ W9) (hdg : decode c.code g.pc = .ok (.invokestatic index, 3))
    (hpre : ∀ vm₁, s.WarmedH vm₁ → Pre ⟨T.setVm vm₁, locs, cells, slots⟩ argsL.toArray) :
    ∃ (v : Option Value) (vm₁ : Vm) (B : Pt), s.WarmedH vm₁ ∧ Stand p l e R s m args below meth c B.U B.locs B.cells B.slots ∧ Post ⟨T.setVm vm₁, locs, cells, slots⟩ argsL.toArray v B ∧
      ∀ target, Steps p.tables e below (B.U.setTop { g with pc := g.pc + 3, stack := v.toList ++ rest }) target → Steps p.tables e below (T.setTop g) target := by
  obtain ⟨mk, methM, cM, hnamed, hmethM, -, -, -, -, -, -, hsigM⟩ := Cond.codeWith_spec hcode
  have hstatic : methM.isStatic = true := Cond.static_spec hnamed hmethM hstat
  obtain ⟨kP, hkP, -⟩ := className_of_methodNamed hnamed
  have hinitP : kP.init = .initialized := Cond.initialized_spec (findClass_of_methodNamed hnamed) hkP hinit
  obtain ⟨vm₁, X₁, hstep₁⟩ := X.invokestatic hexec hown hlink hnamed hmethM hstatic hkP hinitP hy (g := g) hg (argsL := argsL) (rest := rest) (hlen _ hsigM) hstack hdg
  obtain ⟨v, B, X', hpost, hsteps⟩ := hK m meth c ⟨T.setVm vm₁, locs, cells, slots⟩ { g with stack := rest } (.invokestatic index) mk argsL.toArray X₁ hg hsize hdg hW (X₁.named hnamed) (hpre vm₁ X₁.warmed)
  exact ⟨v, vm₁, B, X₁.warmed, X', hpost, fun target h => hstep₁ _ fun acts => by rw [doInvoke_state]; exact hsteps.trans h⟩
theorem vx_runSW {y : MethodName} {bytes cc : ByteArray} {maxL nL mc ms n index : Nat} {ret : Option FieldType} {hh : List (Nat × Nat × Nat × Nat)} {ws : List Cond} {rm : Room} {Pc : Array Value → State → Prop} {Qc : Array Value → State → Outcome → State → Prop} {free : Addr → Prop} {Ts : List Cond} {own : String} {As rest : List Value} {g : JFrame}
    (S : CallFix p m c cc nL s args Ts own) (hM : Met l y ws rm Pc Qc mc ms free) (cw : vx_CSW R s args own index y bytes maxL ret hh ws rm mc ms n) (hp : PreS s H Pc As)
    (hg : g.method = m) (hn : As.length = n) (hsize : g.locals.size = nL) (hstack : g.stack = As.reverse ++ rest) (hW : 2 * g.monitorRoom + (rest.map fun v => v.category).sum ≤ 8) (hdg : decode cc g.pc = .ok (.invokestatic index, 3)) (hf : cells + mc ≤ R.cells ∧ slots + ms ≤ R.slots) :
    va_Run p l e R s m args below meth c H locs cells slots mc ms g rest (Qc As.toArray) (free) := by
  obtain ⟨⟨hrc, hrs, hfr, hlo, hws, hcw⟩, hcode, hini, hy, hlen, hl, hstt⟩ := cw
  have hK : Back l R p e below s args y 3 8 (PreOf R mc ms Pc) (PostOf Qc mc ms free) := va_backW (hh := hh) (bytes := bytes) (maxL := maxL) (ret := ret) hM hp.1 hrc hrs hfr hlo hws hcw (fun a' U hW => word_at hW (Or.inl (by first | rfl | simp [Cond.onTables, Cond.keeps, Cond.steady])) hini)
  obtain ⟨hx, hb, hml, ho, -⟩ := S
  intro T hT X
  obtain ⟨v, vm₁, ⟨U', l2, c2, s2⟩, hW₁, X', ⟨g', mk, t, L, e1, e2, hq, h1, hL, h2, h3⟩, st⟩ := vx_callSW X hx (hh := hh) (bytes := bytes) (maxL := maxL) (ret := ret) ho hl hstt hini hcode hy hK hg (hsize.trans hml.symm) (argsL := As) (rest := rest) (fun sig h => hn.trans (hlen sig h)) hstack hW (by rw [hb]; exact hdg)
    (fun vm₁ hW₁ => ⟨hf.1, hf.2, hp.2 (T.setVm vm₁) hT hW₁⟩)
  dsimp only [Pt.U, Pt.locs, Pt.cells, Pt.slots] at X' e1 e2 h1 h2 h3 st
  subst h1; subst h2; subst h3
  exact ⟨v, (T.setVm vm₁).calling g' mk As.toArray, t, U', L, hT, X', hL, e1, e2, hq, st⟩
/-- not caught here, past rows that name other classes: it goes on to the caller -/
theorem vx_outP {p : Program} {l : Launch} {e : Env} {R : Room} {s : State} {m : MethodId} {args : Array Value} {below : List Frame} {meth : Method} {c : Code} {H : Heap} {locs : List Loc} {cells slots : Nat} {free : Addr → Prop} {ls : Array Slot} {rest : List Value} {Qc : Array Value → State → Outcome → State → Prop} {XC : String → State → State → Prop}
    {pc : Nat} {own E : String} {ce : Cell} {q : Addr} {mc ms : Nat} (hown : s.vm.findClass own = some m.cls) (hlocks : meth.locks = false)
    (hpass : ∀ z ∈ c.exceptionTable.toList, covers z pc = false ∨ (z.catchType ≠ 0 ∧ ∃ nm : String, (Cond.classLink own z.catchType nm).before args s = true ∧ va_Nc E nm s)) (hcell : H[q]? = some ce) (hv : ce.vm = .none) (hcl : s.vm.findClass E = some ce.cls)
    (hx : ∀ t : State, t.heap = H → s.vm.Alike t.vm → XC E s t) (hf : ∀ z ∈ locs, free z.base) (hc : cells ≤ mc) (hs : slots ≤ ms) :
    vx_W p l e R s m args below meth c H locs cells slots (vx_MQ below Qc XC args s mc ms free) (F0 m pc ls rest) q := by
  intro T hT X
  have hpl : e.platform.magicAccessors = ({} : Platform).magicAccessors := by rw [X.admits.platform]
  obtain ⟨vm', hW', X', st⟩ := X.outThrough hlocks q (g := F0 m pc ls rest) rfl rfl rfl (cell := ce) (by rw [hT]; exact hcell) (by rw [hv]; rfl)
    (by obtain ⟨k9, h9, -⟩ := Vm.findClass_spec hcl; exact ⟨k9, h9⟩) (fun z hz => by
      rcases hpass z hz with h | ⟨hz0, nm, hl1, hn1⟩
      · exact Or.inl h
      · obtain ⟨c6, hc6, hcl6⟩ := Cond.classLink_spec hown hl1 e.platform hpl
        obtain ⟨a8, b8, h1, h2, h3⟩ := hn1
        cases Option.some.inj (h1.symm.trans hcl)
        cases Option.some.inj (h2.symm.trans hc6)
        exact Or.inr ⟨hz0, _, hcl6, h3⟩)
  obtain ⟨g₀, hfr⟩ := X'.frames_eq
  have hcell9 : ((T.setVm vm').setFrames (.throwing q :: below)).heap[q]? = some ce := by
    show T.heap[q]? = some ce
    rw [hT]; exact hcell
  have hend : Ended ((T.setVm vm').setFrames (.throwing q :: below)) below (.threw q) := State.frames_setFrames _ (State.cur_lt_of_frames hfr)
  refine ⟨(T.setVm vm').setFrames (.throwing q :: below), ?_, .threw q, X'.here.running, hend, Or.inr ⟨q, rfl, E, ce, locs, hx _ hT (X'.ends _).1.alike, hcell9, hv, hcl, (X'.ends _).1, (X'.ends _).2.mono hc hs, hf⟩⟩
  rw [X.pushThrowing_eq]
  exact st
/-- a thing of a world lies in the heap -/
theorem vx_lt {D : va_G} {cl : List vw_C} {ws : va_W} {H1 : Heap} (h : va_P D cl ws H1) {k : Nat} {q : Nat × va_E} (hk : ws[k]? = some q) : q.1 < H1.size := (h k q hk).lt
end VXS
/-! ===== END ===== -/
/-! ===== BEGIN methods with a table of their own: called by a name, returning or throwing ===== -/
section VXH
/-! vx_backW, vx_callVX, vx_callSX, vx_callVW, vx_runVW, vx_runVX, vx_runSX, vx_ofWH follow the same proofs as their sisters above (Free/Laws.lean, Shelf42/LK1.lean); vx_outP calls Shelf42/NT130.lean (outThrough). -/
section
variable {l : Launch} {R : Room} {p : Program} {e : Env} {below : List Frame} {s : State} {sargs : Array Value} {y : MethodName} {len W9 : Nat}
theorem vx_backW {ws : List Cond} {rm : Room} {Pc : Array Value → State → Prop} {Qc : Array Value → State → Outcome → State → Prop} {XC : String → State → State → Prop} {mc ms : Nat} {free : Addr → Prop} {bytes : ByteArray} {maxL : Nat} {ret : Option FieldType} {hh : List (Nat × Nat × Nat × Nat)}
    (hM : vx_Met l y ws rm Pc Qc XC mc ms free) (hblind : FrameBlind Pc) (hrc : rm.cells = mc) (hrs : rm.slots = ms)
    (hframes : rm.frames + 1 ≤ R.frames) (hlocals : W9 + (maxL + 11) + rm.locals ≤ R.locals)
    (hws : ∀ w ∈ ws, ∀ a' U, s.WarmedH U.vm → w.before a' U = true) (hcode : Cond.codeWith y bytes maxL ret hh ∈ ws) (hinit : ∀ a' U, s.WarmedH U.vm → (Cond.initialized y.cls).before a' U = true) :
    vx_Back l R p e below s sargs y len W9 (PreOf R mc ms Pc) (PostOf Qc mc ms free) (vx_Post XC mc ms free) := by
  intro m meth c A g ig mk a X hg hsize hdg hW hn hp
  have h1 : (headSpec ws rm).pre.before a A.U = true := atoms_intro fun w hw => hws w hw _ _ X.warmed
  have h2 : (Cond.codeWith y bytes maxL ret hh).before a A.U = true := hws _ hcode _ _ X.warmed
  have h3 : (Cond.initialized y.cls).before a A.U = true := hinit _ _ X.warmed
  have h4 : A.cells + (headSpec ws rm).room.cells ≤ R.cells := by rw [show (headSpec ws rm).room.cells = mc from hrc]; exact hp.1
  have h5 : A.slots + (headSpec ws rm).room.slots ≤ R.slots := by rw [show (headSpec ws rm).room.slots = ms from hrs]; exact hp.2.1
  have hPc : Pc a (A.U.calling g mk a) := hblind _ _ _ _ hp.2.2
  obtain ⟨U, Ls, c0, s0⟩ := A
  dsimp only [Pt.U, Pt.locs, Pt.cells, Pt.slots] at h1 h2 h3 h4 h5 X hn hPc ⊢
  obtain ⟨m9, methY, cY, hn9, hmY, hcY, -, hlY, -⟩ := Cond.codeWith_spec h2
  cases Option.some.inj (hn9.symm.trans hn)
  obtain ⟨kY, hkY, -⟩ := className_of_methodNamed hn
  have hinitY : kY.init = .initialized := Cond.initialized_spec (findClass_of_methodNamed hn) hkY h3
  have h : At U g.method c below := by rw [hg]; exact X.here
  have hlocals9 : W9 + (maxL + 11) + (headSpec ws rm).room.locals ≤ R.locals := hlocals
  have happ : (headSpec ws rm).appliesLoose y e.platform (U.calling g mk a) = true :=
    Spec.appliesLoose_calling (g := g) h hdg hn hkY hinitY
      (X.room_calling (g := g) (R' := (headSpec ws rm).room) hsize hmY hcY hframes (by rw [hlY]; omega) h4 h5) h1
  obtain ⟨mid, hmid⟩ := h.above
  have hfr : (U.setTop g).frames = (.java g :: mid) ++ below := by rw [State.frames_setTop' g h.top, hmid]; rfl
  obtain ⟨o, s₂, hsteps, -, hend, hq⟩ := Steps.callFree hM p X.admits X.cas X.clock (acts := []) hfr happ hPc trivial
  have hq' : vx_Q Qc XC mc ms free a (U.calling g mk a) o s₂ := hq
  rw [State.frames_setTop' g h.top] at hend
  obtain ⟨g₀, hg0⟩ := Option.isSome_iff_exists.mp h.top
  obtain ⟨r, hr⟩ := State.topJava?_eq_some.mp hg0
  have hr' : (({ U with heap := s₂.heap, slotsUsed := s₂.slotsUsed } : State).setVm s₂.vm).frames = .java g₀ :: r := hr
  rcases hq' with ⟨hqc, L, hfe, hL⟩ | ⟨q, rfl, E, ce, L, hx, hce, hcv, hcl, hW₂, hsm, hL⟩
  · obtain ⟨⟨v, rfl⟩, hW₂, e2, q2, q3, q4, q5, q6⟩ := id hfe
    have e3 : s₂ = ({ (U.calling g mk a).setFrames s₂.frames with heap := s₂.heap, slotsUsed := s₂.slotsUsed } : State).setVm s₂.vm := by
      have : s₂ = ({ s₂ with vm := (U.calling g mk a).vm } : State).setVm s₂.vm := rfl
      rw [e2] at this
      exact this
    obtain ⟨c₂, i₂, len₂, hc₂, hd₂, hf₂⟩ := hend
    have hW' : U.WarmedH s₂.vm := hW₂
    have hcc : c₂ = c := by
      have h1 : s₂.code? g.method = U.code? g.method := by
        rw [State.code?_eq, State.code?_eq, hW'.alike.method?]
      exact Option.some.inj (hc₂.symm.trans (h1.trans h.code))
    subst hcc
    have hlen : len₂ = len := by rw [hdg] at hd₂; cases hd₂; rfl
    subst hlen
    have hs₂ : s₂ = (({ U with heap := s₂.heap, slotsUsed := s₂.slotsUsed } : State).setVm s₂.vm).setTop { g with pc := g.pc + len₂, stack := v.toList ++ g.stack } := by
      refine e3.trans ?_
      rw [hf₂, State.calling_eq h.top, State.setFrames_setFrames, State.setTop_of_frames _ hr', hr]
      rfl
    have hsame : U.sameButNew ({ U with heap := s₂.heap, slotsUsed := s₂.slotsUsed } : State) L mc ms := by
      refine ⟨?_, q2, q3, q4, q5, q6⟩
      obtain ⟨t, ht, -⟩ := State.frames_cons hr
      show ({ U with heap := s₂.heap, slotsUsed := s₂.slotsUsed } : State) = { U.setFrames U.frames with heap := s₂.heap, slotsUsed := s₂.slotsUsed }
      rw [State.setFrames_self ht]
    subst hg
    refine Or.inl ⟨v, ⟨(({ U with heap := s₂.heap, slotsUsed := s₂.slotsUsed } : State).setVm s₂.vm), Ls ++ L, c0 + mc, s0 + ms⟩,
      ⟨X.admits, X.cas, X.clock, X.frames, X.room, X.hears, X.method, X.code, (X.here.setHeapUsed s₂.heap s₂.slotsUsed).setVm hW'.alike, X.tail, State.WarmedH.trans X.warmed hW', X.limits, X.bytes, X.same.trans (hsame.setVm s.vm)⟩,
      ⟨g, mk, s₂, L, rfl, rfl, hqc, rfl, hL, rfl, rfl⟩, ?_⟩
    show Steps p.tables e below _ ((({ U with heap := s₂.heap, slotsUsed := s₂.slotsUsed } : State).setVm s₂.vm).setTop { g with pc := g.pc + len₂, stack := v.toList ++ g.stack })
    rw [← hs₂]
    exact hsteps
  · obtain ⟨e2, q2, q3, q4, q5, q6⟩ := id hsm
    have e3 : s₂ = ({ (U.calling g mk a).setFrames s₂.frames with heap := s₂.heap, slotsUsed := s₂.slotsUsed } : State).setVm s₂.vm := by
      have : s₂ = ({ s₂ with vm := (U.calling g mk a).vm } : State).setVm s₂.vm := rfl
      rw [e2] at this
      exact this
    have hf₂ : s₂.frames = .throwing q :: .java g :: U.frames.tail := hend
    have hW' : U.WarmedH s₂.vm := hW₂
    have hs₂ : s₂ = ((({ U with heap := s₂.heap, slotsUsed := s₂.slotsUsed } : State).setVm s₂.vm).setTop g).pushFrame (.throwing q) := by
      refine e3.trans ?_
      rw [hf₂, State.calling_eq h.top, State.setFrames_setFrames, State.pushFrame, State.frames_setTop _ hr', State.setTop_of_frames _ hr', State.setFrames_setFrames, hr]
      rfl
    have hsame : U.sameButNew ({ U with heap := s₂.heap, slotsUsed := s₂.slotsUsed } : State) L mc ms := by
      refine ⟨?_, q2, q3, q4, q5, q6⟩
      obtain ⟨t, ht, -⟩ := State.frames_cons hr
      show ({ U with heap := s₂.heap, slotsUsed := s₂.slotsUsed } : State) = { U.setFrames U.frames with heap := s₂.heap, slotsUsed := s₂.slotsUsed }
      rw [State.setFrames_self ht]
    subst hg
    refine Or.inr ⟨q, ⟨(({ U with heap := s₂.heap, slotsUsed := s₂.slotsUsed } : State).setVm s₂.vm), Ls ++ L, c0 + mc, s0 + ms⟩,
      ⟨X.admits, X.cas, X.clock, X.frames, X.room, X.hears, X.method, X.code, (X.here.setHeapUsed s₂.heap s₂.slotsUsed).setVm hW'.alike, X.tail, State.WarmedH.trans X.warmed hW', X.limits, X.bytes, X.same.trans (hsame.setVm s.vm)⟩,
      ⟨g, mk, s₂, L, E, ce, rfl, rfl, hx, hce, hcv, hcl, rfl, hL, rfl, rfl⟩, ?_⟩
    show Steps p.tables e below _ (((({ U with heap := s₂.heap, slotsUsed := s₂.slotsUsed } : State).setVm s₂.vm).setTop g).pushFrame (.throwing q))
    rw [← hs₂]
    exact hsteps
end
variable {p : Program} {l : Launch} {e : Env} {R : Room} {s : State} {m : MethodId} {args : Array Value} {below : List Frame} {meth : Method} {c : Code} {T : State} {H : Heap} {locs : List Loc} {cells slots : Nat}
theorem vx_callVX (X : Stand p l e R s m args below meth c T locs cells slots) (hexec : p.tables.exec = Jvm.exec) {own C : String} {index : Nat} {y : MethodName} {bytes : ByteArray} {maxL : Nat} {ret : Option FieldType} {hh : List (Nat × Nat × Nat × Nat)}
    (hown : s.vm.findClass own = some m.cls) (hlink : (Cond.methodLink own index y).before args s = true) (hinst : (Cond.instanceMethod y).before args s = true) (hsel : (Cond.selects C y y).before args s = true)
    (hcode : (Cond.codeWith y bytes maxL ret hh).before args s = true) (hy : y.cls ≠ "java/lang/invoke/MethodHandle" ∧ y.cls ≠ "java/lang/invoke/VarHandle")
    {W9 : Nat} {Pre : Pt → Array Value → Prop} {Post : Pt → Array Value → Option Value → Pt → Prop} {PostX : Pt → Array Value → Addr → Pt → Prop} (hK : vx_Back l R p e below s args y 3 W9 Pre Post PostX)
    {b : Addr} {cellB : Cell} (hcell : T.heap[b]? = some cellB) (hobj : cellB.vm.isStatics = false) (hcls : s.vm.findClass C = some cellB.cls)
    {g : JFrame} (hg : g.method = m) (hsize : g.locals.size = c.maxLocals) {argsL rest : List Value} (hlen : ∀ sig, parseMethodDescriptor y.desc = some sig → argsL.length = sig.parameters.length)
    (hstack : g.stack = argsL.reverse ++ .ref b :: rest) (hW : 2 * g.monitorRoom + (rest.map fun v => v.category).sum ≤ W9) (hdg : decode c.code g.pc = .ok (.invokevirtual index, 3))
    (hpre : ∀ vm₁, s.WarmedH vm₁ → Pre ⟨T.setVm vm₁, locs, cells, slots⟩ (Value.ref b :: argsL).toArray) :
    (∃ (v : Option Value) (vm₁ : Vm) (B : Pt), s.WarmedH vm₁ ∧ Stand p l e R s m args below meth c B.U B.locs B.cells B.slots ∧ Post ⟨T.setVm vm₁, locs, cells, slots⟩ (Value.ref b :: argsL).toArray v B ∧
      ∀ target, Steps p.tables e below (B.U.setTop { g with pc := g.pc + 3, stack := v.toList ++ rest }) target → Steps p.tables e below (T.setTop g) target) ∨
    (∃ (q : Addr) (vm₁ : Vm) (B : Pt), s.WarmedH vm₁ ∧ Stand p l e R s m args below meth c B.U B.locs B.cells B.slots ∧ PostX ⟨T.setVm vm₁, locs, cells, slots⟩ (Value.ref b :: argsL).toArray q B ∧
      Steps p.tables e below (T.setTop g) ((B.U.setTop { g with stack := rest }).pushFrame (.throwing q))) := by
  obtain ⟨mk, methM, hnamed, hmethM, hstM, habM⟩ := Cond.instanceMethod_spec hinst
  obtain ⟨m8, methM', cM, hn8, hmethM', -, -, -, -, -, -, hsigM⟩ := Cond.codeWith_spec hcode
  cases Option.some.inj (hn8.symm.trans hnamed)
  cases hmethM.symm.trans hmethM'
  obtain ⟨c2, r2, m2, q1, q2, q3, q4, kP, hkP, hkPi⟩ := Cond.selects_spec hsel
  cases hcls.symm.trans q1
  cases (State.methodFound?_of_named hnamed hy).symm.trans q2
  cases hnamed.symm.trans q3
  have hselP : selectMethod e.platform s.vm cellB.cls mk = .method mk := by rw [Launch.admits_selectMethod X.admits]; exact q4
  obtain ⟨vm₁, X₁, hstep₁⟩ := X.invokevirtual hexec hown hlink hnamed hmethM hstM hkP hkPi hy (a := b) (cell := cellB) hcell
    (fun z h => by rw [h] at hobj; cases hobj) hselP hmethM habM hkP hkPi (g := g) hg (argsL := argsL) (rest := rest) (hlen _ hsigM) hstack hdg
  rcases hK m meth c ⟨T.setVm vm₁, locs, cells, slots⟩ { g with stack := rest } (.invokevirtual index) mk (Value.ref b :: argsL).toArray X₁ hg hsize hdg hW (X₁.named hnamed) (hpre vm₁ X₁.warmed) with ⟨v, B, X', hpost, hsteps⟩ | ⟨q, B, X', hpost, hsteps⟩
  · exact Or.inl ⟨v, vm₁, B, X₁.warmed, X', hpost, fun target h => hstep₁ _ fun acts => by rw [doInvoke_state]; exact hsteps.trans h⟩
  · exact Or.inr ⟨q, vm₁, B, X₁.warmed, X', hpost, hstep₁ _ fun acts => by rw [doInvoke_state]; exact hsteps⟩
theorem vx_callSX (X : Stand p l e R s m args below meth c T locs cells slots) (hexec : p.tables.exec = Jvm.exec) {own : String} {index : Nat} {y : MethodName} {bytes : ByteArray} {maxL : Nat} {ret : Option FieldType} {hh : List (Nat × Nat × Nat × Nat)}
    (hown : s.vm.findClass own = some m.cls) (hlink : (Cond.methodLink own index y).before args s = true) (hstat : (Cond.static y).before args s = true) (hinit : (Cond.initialized y.cls).before args s = true)
    (hcode : (Cond.codeWith y bytes maxL ret hh).before args s = true) (hy : y.cls ≠ "java/lang/invoke/MethodHandle" ∧ y.cls ≠ "java/lang/invoke/VarHandle")
    {W9 : Nat} {Pre : Pt → Array Value → Prop} {Post : Pt → Array Value → Option Value → Pt → Prop} {PostX : Pt → Array Value → Addr → Pt → Prop} (hK : vx_Back l R p e below s args y 3 W9 Pre Post PostX)
    {g : JFrame} (hg : g.method = m) (hsize : g.locals.size = c.maxLocals) {argsL rest : List Value} (hlen : ∀ sig, parseMethodDescriptor y.desc = some sig → argsL.length = sig.parameters.length)
    (hstack : g.stack = argsL.reverse ++ rest) (hW : 2 * g.monitorRoom + (rest.map fun v => v.category).sum ≤ W9) (hdg : decode c.code g.pc = .ok (.invokestatic index, 3))
    (hpre : ∀ vm₁, s.WarmedH vm₁ → Pre ⟨T.setVm vm₁, locs, cells, slots⟩ argsL.toArray) :
    (∃ (v : Option Value) (vm₁ : Vm) (B : Pt), s.WarmedH vm₁ ∧ Stand p l e R s m args below meth c B.U B.locs B.cells B.slots ∧ Post ⟨T.setVm vm₁, locs, cells, slots⟩ argsL.toArray v B ∧
      ∀ target, Steps p.tables e below (B.U.setTop { g with pc := g.pc + 3, stack := v.toList ++ rest }) target → Steps p.tables e below (T.setTop g) target) ∨
    (∃ (q : Addr) (vm₁ : Vm) (B : Pt), s.WarmedH vm₁ ∧ Stand p l e R s m args below meth c B.U B.locs B.cells B.slots ∧ PostX ⟨T.setVm vm₁, locs, cells, slots⟩ argsL.toArray q B ∧
      Steps p.tables e below (T.setTop g) ((B.U.setTop { g with stack := rest }).pushFrame (.throwing q))) := by
  obtain ⟨mk, methM, cM, hnamed, hmethM, -, -, -, -, -, -, hsigM⟩ := Cond.codeWith_spec hcode
  have hstatic : methM.isStatic = true := Cond.static_spec hnamed hmethM hstat
  obtain ⟨kP, hkP, -⟩ := className_of_methodNamed hnamed
  have hinitP : kP.init = .initialized := Cond.initialized_spec (findClass_of_methodNamed hnamed) hkP hinit
  obtain ⟨vm₁, X₁, hstep₁⟩ := X.invokestatic hexec hown hlink hnamed hmethM hstatic hkP hinitP hy (g := g) hg (argsL := argsL) (rest := rest) (hlen _ hsigM) hstack hdg
  rcases hK m meth c ⟨T.setVm vm₁, locs, cells, slots⟩ { g with stack := rest } (.invokestatic index) mk argsL.toArray X₁ hg hsize hdg hW (X₁.named hnamed) (hpre vm₁ X₁.warmed) with ⟨v, B, X', hpost, hsteps⟩ | ⟨q, B, X', hpost, hsteps⟩
  · exact Or.inl ⟨v, vm₁, B, X₁.warmed, X', hpost, fun target h => hstep₁ _ fun acts => by rw [doInvoke_state]; exact hsteps.trans h⟩
  · exact Or.inr ⟨q, vm₁, B, X₁.warmed, X', hpost, hstep₁ _ fun acts => by rw [doInvoke_state]; exact hsteps⟩
theorem vx_callVW (X : Stand p l e R s m args below meth c T locs cells slots) (hexec : p.tables.exec = Jvm.exec) {own C : String} {index : Nat} {y : MethodName} {bytes : ByteArray} {maxL : Nat} {ret : Option FieldType} {hh : List (Nat × Nat × Nat × Nat)}
    (hown : s.vm.findClass own = some m.cls) (hlink : (Cond.methodLink own index y).before args s = true) (hinst : (Cond.instanceMethod y).before args s = true) (hsel : (Cond.selects C y y).before args s = true)
    (hcode : (Cond.codeWith y bytes maxL ret hh).before args s = true) (hy : y.cls ≠ "java/lang/invoke/MethodHandle" ∧ y.cls ≠ "java/lang/invoke/VarHandle")
    {W9 : Nat} {Pre : Pt → Array Value → Prop} {Post : Pt → Array Value → Option Value → Pt → Prop} (hK : Back l R p e below s args y 3 W9 Pre Post)
    {b : Addr} {cellB : Cell} (hcell : T.heap[b]? = some cellB) (hobj : cellB.vm.isStatics = false) (hcls : s.vm.findClass C = some cellB.cls)
    {g : JFrame} (hg : g.method = m) (hsize : g.locals.size = c.maxLocals) {argsL rest : List Value} (hlen : ∀ sig, parseMethodDescriptor y.desc = some sig → argsL.length = sig.parameters.length)
    (hstack : g.stack = argsL.reverse ++ .ref b :: rest) (hW : 2 * g.monitorRoom + (rest.map fun v => v.category).sum ≤ W9) (hdg : decode c.code g.pc = .ok (.invokevirtual index, 3))
    (hpre : ∀ vm₁, s.WarmedH vm₁ → Pre ⟨T.setVm vm₁, locs, cells, slots⟩ (Value.ref b :: argsL).toArray) :
    ∃ (v : Option Value) (vm₁ : Vm) (B : Pt), s.WarmedH vm₁ ∧ Stand p l e R s m args below meth c B.U B.locs B.cells B.slots ∧ Post ⟨T.setVm vm₁, locs, cells, slots⟩ (Value.ref b :: argsL).toArray v B ∧
      ∀ target, Steps p.tables e below (B.U.setTop { g with pc := g.pc + 3, stack := v.toList ++ rest }) target → Steps p.tables e below (T.setTop g) target := by
  obtain ⟨mk, methM, hnamed, hmethM, hstM, habM⟩ := Cond.instanceMethod_spec hinst
  obtain ⟨m8, methM', cM, hn8, hmethM', -, -, -, -, -, -, hsigM⟩ := Cond.codeWith_spec hcode
  cases Option.some.inj (hn8.symm.trans hnamed)
  cases hmethM.symm.trans hmethM'
  obtain ⟨c2, r2, m2, q1, q2, q3, q4, kP, hkP, hkPi⟩ := Cond.selects_spec hsel
  cases hcls.symm.trans q1
  cases (State.methodFound?_of_named hnamed hy).symm.trans q2
  cases hnamed.symm.trans q3
  have hselP : selectMethod e.platform s.vm cellB.cls mk = .method mk := by rw [Launch.admits_selectMethod X.admits]; exact q4
  obtain ⟨vm₁, X₁, hstep₁⟩ := X.invokevirtual hexec hown hlink hnamed hmethM hstM hkP hkPi hy (a := b) (cell := cellB) hcell
    (fun z h => by rw [h] at hobj; cases hobj) hselP hmethM habM hkP hkPi (g := g) hg (argsL := argsL) (rest := rest) (hlen _ hsigM) hstack hdg
  obtain ⟨v, B, X', hpost, hsteps⟩ := hK m meth c ⟨T.setVm vm₁, locs, cells, slots⟩ { g with stack := rest } (.invokevirtual index) mk (Value.ref b :: argsL).toArray X₁ hg hsize hdg hW (X₁.named hnamed) (hpre vm₁ X₁.warmed)
  exact ⟨v, vm₁, B, X₁.warmed, X', hpost, fun target h => hstep₁ _ fun acts => by rw [doInvoke_state]; exact hsteps.trans h⟩
abbrev vx_CVW (R : Room) (s : State) (args : Array Value) (own C : String) (index : Nat) (y : MethodName) (bytes : ByteArray) (maxL : Nat) (ret : Option FieldType) (hh : List (Nat × Nat × Nat × Nat)) (ws : List Cond) (rm : Room) (mc ms n : Nat) : Prop :=
  (rm.cells = mc ∧ rm.slots = ms ∧ rm.frames + 1 ≤ R.frames ∧ 8 + (maxL + 11) + rm.locals ≤ R.locals ∧ (∀ w ∈ ws, ∀ (a' : Array Value) (U : State), s.WarmedH U.vm → w.before a' U = true) ∧ Cond.codeWith y bytes maxL ret hh ∈ ws) ∧
  (Cond.codeWith y bytes maxL ret hh).before args s = true ∧ (Cond.initialized y.cls).before args s = true ∧ (y.cls ≠ "java/lang/invoke/MethodHandle" ∧ y.cls ≠ "java/lang/invoke/VarHandle") ∧
  (∀ sig, parseMethodDescriptor y.desc = some sig → n = sig.parameters.length) ∧ (Cond.methodLink own index y).before args s = true ∧ (Cond.instanceMethod y).before args s = true ∧ (Cond.selects C y y).before args s = true
theorem vx_cwVW {own C : String} {index maxL mc ms : Nat} {y : MethodName} {bytes : ByteArray} {ret : Option FieldType} {hh : List (Nat × Nat × Nat × Nat)} {Ts ws ws' : List Cond} {rm : Room} (n : Nat) (ht : ∀ w ∈ Ts, w.before args s = true) (hT : GoodIn Ts (wsV own index C y ws)) (hw : ws = Cond.codeWith y bytes maxL ret hh :: ws') (hrc : rm.cells = mc) (hrs : rm.slots = ms)
    (hd : y.cls = C ∧ y.cls ≠ "java/lang/invoke/MethodHandle" ∧ y.cls ≠ "java/lang/invoke/VarHandle" ∧ (parseMethodDescriptor y.desc).map (fun d => d.parameters.length) = some n) (hR : rm.frames + 1 ≤ R.frames ∧ 8 + (maxL + 11) + rm.locals ≤ R.locals) :
    vx_CVW R s args own C index y bytes maxL ret hh ws rm mc ms n := by
  obtain ⟨hC, hd⟩ := hd
  subst hC
  have ok : ∀ w ∈ wsV own index y.cls y ws, w.before args s = true := fun w h => ht w (hT w h).1
  have hG : GoodIn Ts ws := fun w h => hT w (by unfold wsV; exact List.mem_append_right _ h)
  have hc : Cond.codeWith y bytes maxL ret hh ∈ ws := by rw [hw]; exact List.mem_cons_self
  refine ⟨⟨hrc, hrs, hR.1, hR.2, pay_in ht hG, hc⟩, ht _ (hG _ hc).1, ok _ (by simp [wsV]), ⟨hd.1, hd.2.1⟩, fun sig h => ?_, ok _ (by simp [wsV]), ok _ (by simp [wsV]), ok _ (by simp [wsV])⟩
  have h2 := hd.2.2
  rw [h] at h2
  exact (Option.some.inj h2).symm
theorem vx_runVW {y : MethodName} {bytes cc : ByteArray} {maxL nL mc ms n index : Nat} {ret : Option FieldType} {hh : List (Nat × Nat × Nat × Nat)} {ws : List Cond} {rm : Room} {Pc : Array Value → State → Prop} {Qc : Array Value → State → Outcome → State → Prop} {free : Addr → Prop} {Ts : List Cond} {own C : String} {b : Addr} {As rest : List Value} {g : JFrame}
    (S : CallFix p m c cc nL s args Ts own) (hM : Met l y ws rm Pc Qc mc ms free) (cw : vx_CVW R s args own C index y bytes maxL ret hh ws rm mc ms n) (hp : PreV s H C b Pc As)
    (hg : g.method = m) (hn : As.length = n) (hsize : g.locals.size = nL) (hstack : g.stack = As.reverse ++ .ref b :: rest) (hW : 2 * g.monitorRoom + (rest.map fun v => v.category).sum ≤ 8) (hdg : decode cc g.pc = .ok (.invokevirtual index, 3)) (hf : cells + mc ≤ R.cells ∧ slots + ms ≤ R.slots) :
    va_Run p l e R s m args below meth c H locs cells slots mc ms g rest (Qc (Value.ref b :: As).toArray) free := by
  obtain ⟨⟨hrc, hrs, hfr, hlo, hws, hcw⟩, hcode, hini, hy, hlen, hl, hin, hse⟩ := cw
  have hK : Back l R p e below s args y 3 8 (PreOf R mc ms Pc) (PostOf Qc mc ms free) := va_backW (hh := hh) (bytes := bytes) (maxL := maxL) (ret := ret) hM hp.1 hrc hrs hfr hlo hws hcw (fun a' U hW => word_at hW (Or.inl (by first | rfl | simp [Cond.onTables, Cond.keeps, Cond.steady])) hini)
  obtain ⟨hx, hb, hml, ho, -⟩ := S
  obtain ⟨-, ⟨cellB, hcB, hoB, hclB⟩, hPc⟩ := hp
  intro T hT X
  obtain ⟨v, vm₁, ⟨U', l2, c2, s2⟩, hW₁, X', ⟨g', mk, t, L, e1, e2, hq, h1, hL, h2, h3⟩, st⟩ := vx_callVW X hx (C := C) (hh := hh) (bytes := bytes) (maxL := maxL) (ret := ret) ho hl hin hse hcode hy hK (by rw [hT]; exact hcB) hoB hclB hg (hsize.trans hml.symm) (argsL := As) (rest := rest) (fun sig h => hn.trans (hlen sig h)) hstack hW (by rw [hb]; exact hdg)
    (fun vm₁ hW₁ => ⟨hf.1, hf.2, hPc (T.setVm vm₁) hT hW₁⟩)
  dsimp only [Pt.U, Pt.locs, Pt.cells, Pt.slots] at X' e1 e2 h1 h2 h3 st
  subst h1; subst h2; subst h3
  exact ⟨v, (T.setVm vm₁).calling g' mk (Value.ref b :: As).toArray, t, U', L, hT, X', hL, e1, e2, hq, st⟩
section
variable {y : MethodName} {bytes cc : ByteArray} {maxL nL mc ms n index : Nat} {ret : Option FieldType} {ws : List Cond} {rm : Room} {Pc : Array Value → State → Prop} {Qc : Array Value → State → Outcome → State → Prop} {XC : String → State → State → Prop} {free : Addr → Prop} {Ts : List Cond} {own C : String} {b : Addr} {As rest : List Value} {g : JFrame}
theorem vx_runVX {hh : List (Nat × Nat × Nat × Nat)} (S : CallFix p m c cc nL s args Ts own) (hM : vx_Met l y ws rm Pc Qc XC mc ms free) (cw : vx_CVW R s args own C index y bytes maxL ret hh ws rm mc ms n) (hp : PreV s H C b Pc As)
    (hg : g.method = m) (hn : As.length = n) (hsize : g.locals.size = nL) (hstack : g.stack = As.reverse ++ .ref b :: rest) (hW : 2 * g.monitorRoom + (rest.map fun v => v.category).sum ≤ 8) (hdg : decode cc g.pc = .ok (.invokevirtual index, 3)) (hf : cells + mc ≤ R.cells ∧ slots + ms ≤ R.slots) :
    vx_Run p l e R s m args below meth c H locs cells slots mc ms g rest (Qc (Value.ref b :: As).toArray) XC free := by
  obtain ⟨⟨hrc, hrs, hfr, hlo, hws, hcw⟩, hcode, hini, hy, hlen, hl, hin, hse⟩ := cw
  have hK : vx_Back l R p e below s args y 3 8 (PreOf R mc ms Pc) (PostOf Qc mc ms free) (vx_Post XC mc ms free) := vx_backW (hh := hh) (bytes := bytes) (maxL := maxL) (ret := ret) hM hp.1 hrc hrs hfr hlo hws hcw (fun a' U hW => word_at hW (Or.inl (by first | rfl | simp [Cond.onTables, Cond.keeps, Cond.steady])) hini)
  obtain ⟨hx, hb, hml, ho, -⟩ := S
  obtain ⟨-, ⟨cellB, hcB, hoB, hclB⟩, hPc⟩ := hp
  intro T hT X
  rcases vx_callVX X hx (C := C) (hh := hh) (bytes := bytes) (maxL := maxL) (ret := ret) ho hl hin hse hcode hy hK (by rw [hT]; exact hcB) hoB hclB hg (hsize.trans hml.symm) (argsL := As) (rest := rest) (fun sig h => hn.trans (hlen sig h)) hstack hW (by rw [hb]; exact hdg)
    (fun vm₁ hW₁ => ⟨hf.1, hf.2, hPc (T.setVm vm₁) hT hW₁⟩) with ⟨v, vm₁, ⟨U', l2, c2, s2⟩, hW₁, X', ⟨g', mk, t, L, e1, e2, hq, h1, hL, h2, h3⟩, st⟩ | ⟨q, vm₁, ⟨U', l2, c2, s2⟩, hW₁, X', ⟨g', mk, t, L, E, ce, e1, e2, hq, hce, hcv, hcl, h1, hL, h2, h3⟩, st⟩
  · dsimp only [Pt.U, Pt.locs, Pt.cells, Pt.slots] at X' e1 e2 h1 h2 h3 st
    subst h1; subst h2; subst h3
    exact Or.inl ⟨v, (T.setVm vm₁).calling g' mk (Value.ref b :: As).toArray, t, U', L, hT, X', hL, e1, e2, hq, st⟩
  · dsimp only [Pt.U, Pt.locs, Pt.cells, Pt.slots] at X' e1 e2 h1 h2 h3 st hcl
    subst h1; subst h2; subst h3
    exact Or.inr ⟨q, (T.setVm vm₁).calling g' mk (Value.ref b :: As).toArray, t, U', L, E, ce, hT, X', hL, e1, e2, hq, hce, hcv, vx_cls hW₁ hcl, st⟩
theorem vx_runSX {hh : List (Nat × Nat × Nat × Nat)} (S : CallFix p m c cc nL s args Ts own) (hM : vx_Met l y ws rm Pc Qc XC mc ms free) (cw : vx_CSW R s args own index y bytes maxL ret hh ws rm mc ms n) (hp : PreS s H Pc As)
    (hg : g.method = m) (hn : As.length = n) (hsize : g.locals.size = nL) (hstack : g.stack = As.reverse ++ rest) (hW : 2 * g.monitorRoom + (rest.map fun v => v.category).sum ≤ 8) (hdg : decode cc g.pc = .ok (.invokestatic index, 3)) (hf : cells + mc ≤ R.cells ∧ slots + ms ≤ R.slots) :
    vx_Run p l e R s m args below meth c H locs cells slots mc ms g rest (Qc As.toArray) XC free := by
  obtain ⟨⟨hrc, hrs, hfr, hlo, hws, hcw⟩, hcode, hini, hy, hlen, hl, hstt⟩ := cw
  have hK : vx_Back l R p e below s args y 3 8 (PreOf R mc ms Pc) (PostOf Qc mc ms free) (vx_Post XC mc ms free) := vx_backW (hh := hh) (bytes := bytes) (maxL := maxL) (ret := ret) hM hp.1 hrc hrs hfr hlo hws hcw (fun a' U hW => word_at hW (Or.inl (by first | rfl | simp [Cond.onTables, Cond.keeps, Cond.steady])) hini)
  obtain ⟨hx, hb, hml, ho, -⟩ := S
  intro T hT X
  rcases vx_callSX X hx (hh := hh) (bytes := bytes) (maxL := maxL) (ret := ret) ho hl hstt hini hcode hy hK hg (hsize.trans hml.symm) (argsL := As) (rest := rest) (fun sig h => hn.trans (hlen sig h)) hstack hW (by rw [hb]; exact hdg)
    (fun vm₁ hW₁ => ⟨hf.1, hf.2, hp.2 (T.setVm vm₁) hT hW₁⟩) with ⟨v, vm₁, ⟨U', l2, c2, s2⟩, hW₁, X', ⟨g', mk, t, L, e1, e2, hq, h1, hL, h2, h3⟩, st⟩ | ⟨q, vm₁, ⟨U', l2, c2, s2⟩, hW₁, X', ⟨g', mk, t, L, E, ce, e1, e2, hq, hce, hcv, hcl, h1, hL, h2, h3⟩, st⟩
  · dsimp only [Pt.U, Pt.locs, Pt.cells, Pt.slots] at X' e1 e2 h1 h2 h3 st
    subst h1; subst h2; subst h3
    exact Or.inl ⟨v, (T.setVm vm₁).calling g' mk As.toArray, t, U', L, hT, X', hL, e1, e2, hq, st⟩
  · dsimp only [Pt.U, Pt.locs, Pt.cells, Pt.slots] at X' e1 e2 h1 h2 h3 st hcl
    subst h1; subst h2; subst h3
    exact Or.inr ⟨q, (T.setVm vm₁).calling g' mk As.toArray, t, U', L, E, ce, hT, X', hL, e1, e2, hq, hce, hcv, vx_cls hW₁ hcl, st⟩
end
end VXH
theorem vx_ofWH {l : Launch} {y : MethodName} {ws ws' : List Cond} {rm : Room} {Pc : Array Value → State → Prop} {Qc : Array Value → State → Outcome → State → Prop} {XC : String → State → State → Prop} {mc ms : Nat} {free : Addr → Prop} {cc : ByteArray} {maxL : Nat} {ret : Option FieldType} {hh : List (Nat × Nat × Nat × Nat)}
    (hy : plainName y.cls = true) (hw : ws = Cond.codeWith y cc maxL ret hh :: ws')
    (body : ∀ p e s m args below meth c s₁, BodyLoose p l y (headSpec ws rm) cc maxL ret e s m args below meth c s₁ → c.maxLocals = maxL → Pc args s →
      W p l e (headSpec ws rm).room s m args below meth c s.heap [] 0 0 (vx_MQ below Qc XC args s mc ms free) (entryFrame m args maxL)) : vx_Met l y ws rm Pc Qc XC mc ms free := by
  refine MetFree.of_bodyS (code := cc) (maxLocals := maxL) (ret := ret) hy ?_ ?_
  · intro args s m h hn
    obtain ⟨m9, meth, c, hn9, h1, h2, h3, h4, -, h5, h6, -⟩ := Cond.codeWith_spec (atoms_spec (ws := ws) h _ (by rw [hw]; exact List.mem_cons_self))
    cases hn.symm.trans hn9
    exact ⟨meth, c, h1, h2, h3, h4, h5, h6⟩
  · intro p e s m args below meth c s₁ B hml hP _
    have hh0 : s₁.heap = s.heap := by rw [B.state]; rfl
    obtain ⟨t, a1, o, b1, b2, b3⟩ := body p e s m args below meth c s₁ B hml hP s₁ hh0 (Stand.of_body B)
    exact ⟨t, o, a1, b1, b2, b3⟩
/-! ===== END ===== -/
end
section
/-! ===== BEGIN printed: names, fields, word lists, decode rows ===== -/
def RX0 : String := "SteamBends$Kind"
def TX0 : u_T := fun k => match k with
  | 0 => ("SteamBends$Kind", "rows", "LSteamBends$Pairs;", true)
  | 1 => ("SteamBends$Kind", "readings", "LSteamBends$Pairs;", true)
  | 2 => ("SteamBends$Kind", "spring", "D", false)
  | _ => ("SteamBends$Kind", "step", "D", false)
def tyX0 : Nat → FieldType := fun k => match k with
  | 0 => .object "SteamBends$Pairs"
  | 1 => .object "SteamBends$Pairs"
  | 2 => .double
  | _ => .double
abbrev wsX00 : List Cond := u_ws RX0 TX0 4
theorem nmX0 : ∀ a, a < 4 → ∀ b, b < 4 → a ≠ b → (TX0 a).2.1 ≠ (TX0 b).2.1 := by decide +kernel
theorem tyX0_ok : ∀ k, k < 4 → parseFieldDescriptor (TX0 k).2.2.1 = some (tyX0 k) := by decide +kernel
abbrev cX0_init : ByteArray := prog_2_method_1_code
def yX0_init : MethodName := ⟨RX0, "<init>", "()V"⟩
abbrev cX0_isAboveRows : ByteArray := prog_2_method_2_code
def yX0_isAboveRows : MethodName := ⟨RX0, "isAboveRows", "(D)Z"⟩
abbrev cX0_leastRadius : ByteArray := prog_2_method_3_code
def yX0_leastRadius : MethodName := ⟨RX0, "leastRadius", "(D)D"⟩
abbrev cX0_radiusBetween : ByteArray := prog_2_method_4_code
def yX0_radiusBetween : MethodName := ⟨RX0, "radiusBetween", "(IID)D"⟩
abbrev cX0_leastStrips : ByteArray := prog_2_method_5_code
def yX0_leastStrips : MethodName := ⟨RX0, "leastStrips", "(DD)I"⟩
abbrev cX0_residue : ByteArray := prog_2_method_6_code
def yX0_residue : MethodName := ⟨RX0, "residue", "(D)D"⟩
abbrev cX0_fitsBetter : ByteArray := prog_2_method_7_code
def yX0_fitsBetter : MethodName := ⟨RX0, "fitsBetter", "()Z"⟩
abbrev cX0_formFor : ByteArray := prog_2_method_8_code
def yX0_formFor : MethodName := ⟨RX0, "formFor", "(D)D"⟩
def RX1 : String := "SteamBends$Pairs"
def TX1 : u_T := fun k => match k with
  | 0 => ("SteamBends$Pairs", "firsts", "[D", true)
  | 1 => ("SteamBends$Pairs", "seconds", "[D", true)
  | _ => ("SteamBends$Pairs", "count", "I", false)
def tyX1 : Nat → FieldType := fun k => match k with
  | 0 => .array .double
  | 1 => .array .double
  | _ => .int
abbrev wsX10 : List Cond := u_ws RX1 TX1 3
theorem nmX1 : ∀ a, a < 3 → ∀ b, b < 3 → a ≠ b → (TX1 a).2.1 ≠ (TX1 b).2.1 := by decide +kernel
theorem tyX1_ok : ∀ k, k < 3 → parseFieldDescriptor (TX1 k).2.2.1 = some (tyX1 k) := by decide +kernel
abbrev cX1_init : ByteArray := prog_3_method_1_code
def yX1_init : MethodName := ⟨RX1, "<init>", "(I)V"⟩
abbrev cX1_add : ByteArray := prog_3_method_2_code
def yX1_add : MethodName := ⟨RX1, "add", "(DD)I"⟩
abbrev cX1_removeAll : ByteArray := prog_3_method_3_code
def yX1_removeAll : MethodName := ⟨RX1, "removeAll", "()V"⟩
abbrev cX1_first : ByteArray := prog_3_method_4_code
def yX1_first : MethodName := ⟨RX1, "first", "(I)D"⟩
abbrev cX1_second : ByteArray := prog_3_method_5_code
def yX1_second : MethodName := ⟨RX1, "second", "(I)D"⟩
abbrev cX1_isPlace : ByteArray := prog_3_method_6_code
def yX1_isPlace : MethodName := ⟨RX1, "isPlace", "(I)Z"⟩
def RX2 : String := "SteamBends$Shape"
def TX2 : u_T := fun k => match k with
  | _ => ("SteamBends$Shape", "pieces", "LSteamBends$Pairs;", true)
def tyX2 : Nat → FieldType := fun k => match k with
  | _ => .object "SteamBends$Pairs"
abbrev wsX20 : List Cond := u_ws RX2 TX2 1
theorem nmX2 : ∀ a, a < 1 → ∀ b, b < 1 → a ≠ b → (TX2 a).2.1 ≠ (TX2 b).2.1 := by decide +kernel
theorem tyX2_ok : ∀ k, k < 1 → parseFieldDescriptor (TX2 k).2.2.1 = some (tyX2 k) := by decide +kernel
abbrev cX2_init : ByteArray := prog_4_method_1_code
def yX2_init : MethodName := ⟨RX2, "<init>", "()V"⟩
abbrev cX2_isBendable : ByteArray := prog_4_method_2_code
def yX2_isBendable : MethodName := ⟨RX2, "isBendable", "(D)Z"⟩
abbrev cX2_sumOfLengths : ByteArray := prog_4_method_3_code
def yX2_sumOfLengths : MethodName := ⟨RX2, "sumOfLengths", "(ZD)D"⟩
abbrev cX2_lengthOf : ByteArray := prog_4_method_4_code
def yX2_lengthOf : MethodName := ⟨RX2, "lengthOf", "(IZD)D"⟩
def RX3 : String := "SteamBends"
def TX3 : u_T := fun k => match k with
  | 0 => ("SteamBends", "kinds", "[LSteamBends$Kind;", true)
  | 1 => ("SteamBends", "shape", "LSteamBends$Shape;", true)
  | 2 => ("SteamBends", "kerfCount", "I", false)
  | _ => ("SteamBends", "kerfRest", "D", false)
def tyX3 : Nat → FieldType := fun k => match k with
  | 0 => .array (.object "SteamBends$Kind")
  | 1 => .object "SteamBends$Shape"
  | 2 => .int
  | _ => .double
abbrev wsX30 : List Cond := u_ws RX3 TX3 4
theorem nmX3 : ∀ a, a < 4 → ∀ b, b < 4 → a ≠ b → (TX3 a).2.1 ≠ (TX3 b).2.1 := by decide +kernel
theorem tyX3_ok : ∀ k, k < 4 → parseFieldDescriptor (TX3 k).2.2.1 = some (tyX3 k) := by decide +kernel
abbrev cX3_init : ByteArray := prog_1_method_1_code
def yX3_init : MethodName := ⟨RX3, "<init>", "()V"⟩
abbrev cX3_table : ByteArray := prog_1_method_2_code
def yX3_table : MethodName := ⟨RX3, "table", "(IDD)I"⟩
abbrev cX3_radius : ByteArray := prog_1_method_3_code
def yX3_radius : MethodName := ⟨RX3, "radius", "(ID)D"⟩
abbrev cX3_strips : ByteArray := prog_1_method_4_code
def yX3_strips : MethodName := ⟨RX3, "strips", "(IDD)I"⟩
abbrev cX3_read : ByteArray := prog_1_method_5_code
def yX3_read : MethodName := ⟨RX3, "read", "(IDD)I"⟩
abbrev cX3_fit : ByteArray := prog_1_method_6_code
def yX3_fit : MethodName := ⟨RX3, "fit", "(II)I"⟩
abbrev cX3_back : ByteArray := prog_1_method_7_code
def yX3_back : MethodName := ⟨RX3, "back", "(II)D"⟩
abbrev cX3_form : ByteArray := prog_1_method_8_code
def yX3_form : MethodName := ⟨RX3, "form", "(ID)D"⟩
abbrev cX3_minutes : ByteArray := prog_1_method_9_code
def yX3_minutes : MethodName := ⟨RX3, "minutes", "(D)D"⟩
abbrev cX3_piece : ByteArray := prog_1_method_10_code
def yX3_piece : MethodName := ⟨RX3, "piece", "(DD)I"⟩
abbrev cX3_clear : ByteArray := prog_1_method_11_code
def yX3_clear : MethodName := ⟨RX3, "clear", "()V"⟩
abbrev cX3_length : ByteArray := prog_1_method_12_code
def yX3_length : MethodName := ⟨RX3, "length", "(ZD)D"⟩
abbrev cX3_kerfs : ByteArray := prog_1_method_13_code
def yX3_kerfs : MethodName := ⟨RX3, "kerfs", "(DDDD)I"⟩
abbrev cX3_kerfAt : ByteArray := prog_1_method_14_code
def yX3_kerfAt : MethodName := ⟨RX3, "kerfAt", "(ID)D"⟩
abbrev cX3_rest : ByteArray := prog_1_method_15_code
def yX3_rest : MethodName := ⟨RX3, "rest", "()D"⟩
abbrev cX3_broken : ByteArray := prog_1_method_16_code
def yX3_broken : MethodName := ⟨RX3, "broken", "(III)J"⟩
abbrev cX3_relaxed : ByteArray := prog_1_method_17_code
def yX3_relaxed : MethodName := ⟨RX3, "relaxed", "(II)D"⟩
abbrev cX3_kindOf : ByteArray := prog_1_method_18_code
def yX3_kindOf : MethodName := ⟨RX3, "kindOf", "(I)LSteamBends$Kind;"⟩
abbrev cX3_isWithin : ByteArray := prog_1_method_19_code
def yX3_isWithin : MethodName := ⟨RX3, "isWithin", "(DDD)Z"⟩
abbrev cX3_isNone : ByteArray := prog_1_method_20_code
def yX3_isNone : MethodName := ⟨RX3, "isNone", "(D)Z"⟩
abbrev cX3_leastKerfs : ByteArray := prog_1_method_21_code
def yX3_leastKerfs : MethodName := ⟨RX3, "leastKerfs", "(DD)I"⟩
abbrev cX3_commonDivisor : ByteArray := prog_1_method_22_code
def yX3_commonDivisor : MethodName := ⟨RX3, "commonDivisor", "(II)I"⟩
def RX4 : String := "SteamBendsModel"
def TX4 : u_T := fun k => match k with
  | 0 => ("SteamBendsModel", "code", "I", false)
  | 1 => ("SteamBendsModel", "rows", "[I", true)
  | 2 => ("SteamBendsModel", "thicks", "[D", true)
  | 3 => ("SteamBendsModel", "radii", "[D", true)
  | 4 => ("SteamBendsModel", "readings", "[I", true)
  | 5 => ("SteamBendsModel", "bents", "[D", true)
  | 6 => ("SteamBendsModel", "kepts", "[D", true)
  | 7 => ("SteamBendsModel", "springs", "[D", true)
  | 8 => ("SteamBendsModel", "steps", "[D", true)
  | 9 => ("SteamBendsModel", "pieces", "I", false)
  | 10 => ("SteamBendsModel", "lengths", "[D", true)
  | 11 => ("SteamBendsModel", "bends", "[D", true)
  | 12 => ("SteamBendsModel", "cuts", "I", false)
  | 13 => ("SteamBendsModel", "over", "D", false)
  | _ => ("SteamBendsModel", "isFound", "Z", false)
def tyX4 : Nat → FieldType := fun k => match k with
  | 0 => .int
  | 1 => .array .int
  | 2 => .array .double
  | 3 => .array .double
  | 4 => .array .int
  | 5 => .array .double
  | 6 => .array .double
  | 7 => .array .double
  | 8 => .array .double
  | 9 => .int
  | 10 => .array .double
  | 11 => .array .double
  | 12 => .int
  | 13 => .double
  | _ => .boolean
abbrev wsX40 : List Cond := u_ws RX4 TX4 15
theorem nmX4 : ∀ a, a < 15 → ∀ b, b < 15 → a ≠ b → (TX4 a).2.1 ≠ (TX4 b).2.1 := by decide +kernel
theorem tyX4_ok : ∀ k, k < 15 → parseFieldDescriptor (TX4 k).2.2.1 = some (tyX4 k) := by decide +kernel
abbrev cX4_init : ByteArray := prog_6_method_1_code
def yX4_init : MethodName := ⟨RX4, "<init>", "()V"⟩
abbrev cX4_thrown : ByteArray := prog_6_method_2_code
def yX4_thrown : MethodName := ⟨RX4, "thrown", "()I"⟩
abbrev cX4_isIn : ByteArray := prog_6_method_3_code
def yX4_isIn : MethodName := ⟨RX4, "isIn", "(DDD)Z"⟩
abbrev cX4_isKind : ByteArray := prog_6_method_4_code
def yX4_isKind : MethodName := ⟨RX4, "isKind", "(I)Z"⟩
abbrev cX4_table : ByteArray := prog_6_method_5_code
def yX4_table : MethodName := ⟨RX4, "table", "(IDD)I"⟩
abbrev cX4_radiusAt : ByteArray := prog_6_method_6_code
def yX4_radiusAt : MethodName := ⟨RX4, "radiusAt", "(ID)D"⟩
abbrev cX4_radius : ByteArray := prog_6_method_7_code
def yX4_radius : MethodName := ⟨RX4, "radius", "(ID)D"⟩
abbrev cX4_strips : ByteArray := prog_6_method_8_code
def yX4_strips : MethodName := ⟨RX4, "strips", "(IDD)I"⟩
abbrev cX4_read : ByteArray := prog_6_method_9_code
def yX4_read : MethodName := ⟨RX4, "read", "(IDD)I"⟩
abbrev cX4_residue : ByteArray := prog_6_method_10_code
def yX4_residue : MethodName := ⟨RX4, "residue", "(ID)D"⟩
abbrev cX4_improves : ByteArray := prog_6_method_11_code
def yX4_improves : MethodName := ⟨RX4, "improves", "(I)Z"⟩
abbrev cX4_fit : ByteArray := prog_6_method_12_code
def yX4_fit : MethodName := ⟨RX4, "fit", "(II)I"⟩
abbrev cX4_back : ByteArray := prog_6_method_13_code
def yX4_back : MethodName := ⟨RX4, "back", "(II)D"⟩
abbrev cX4_form : ByteArray := prog_6_method_14_code
def yX4_form : MethodName := ⟨RX4, "form", "(ID)D"⟩
abbrev cX4_minutes : ByteArray := prog_6_method_15_code
def yX4_minutes : MethodName := ⟨RX4, "minutes", "(D)D"⟩
abbrev cX4_piece : ByteArray := prog_6_method_16_code
def yX4_piece : MethodName := ⟨RX4, "piece", "(DD)I"⟩
abbrev cX4_clear : ByteArray := prog_6_method_17_code
def yX4_clear : MethodName := ⟨RX4, "clear", "()V"⟩
abbrev cX4_length : ByteArray := prog_6_method_18_code
def yX4_length : MethodName := ⟨RX4, "length", "(ZD)D"⟩
abbrev cX4_kerfs : ByteArray := prog_6_method_19_code
def yX4_kerfs : MethodName := ⟨RX4, "kerfs", "(DDDD)I"⟩
abbrev cX4_kerfAt : ByteArray := prog_6_method_20_code
def yX4_kerfAt : MethodName := ⟨RX4, "kerfAt", "(ID)D"⟩
abbrev cX4_rest : ByteArray := prog_6_method_21_code
def yX4_rest : MethodName := ⟨RX4, "rest", "()D"⟩
abbrev cX4_common : ByteArray := prog_6_method_22_code
def yX4_common : MethodName := ⟨RX4, "common", "(II)I"⟩
abbrev cX4_broken : ByteArray := prog_6_method_23_code
def yX4_broken : MethodName := ⟨RX4, "broken", "(III)J"⟩
abbrev cX4_relaxed : ByteArray := prog_6_method_24_code
def yX4_relaxed : MethodName := ⟨RX4, "relaxed", "(II)D"⟩
def RJ9 : String := "java/lang/Math"
def TJ9 : u_T := fun k => match k with
  | _ => ("", "", "", false)
def tyJ9 : Nat → FieldType := fun k => match k with
  | _ => .int
abbrev wsJ90 : List Cond := u_ws RJ9 TJ9 0
theorem nmJ9 : ∀ a, a < 0 → ∀ b, b < 0 → a ≠ b → (TJ9 a).2.1 ≠ (TJ9 b).2.1 := by decide +kernel
theorem tyJ9_ok : ∀ k, k < 0 → parseFieldDescriptor (TJ9 k).2.2.1 = some (tyJ9 k) := by decide +kernel
abbrev cJ9_max_7cf53 : ByteArray := prog_11_method_65_code
def yJ9_max_7cf53 : MethodName := ⟨RJ9, "max", "(II)I"⟩
def RJ0 : String := "java/lang/String"
def TJ0 : u_T := fun k => match k with
  | _ => ("", "", "", false)
def tyJ0 : Nat → FieldType := fun k => match k with
  | _ => .int
abbrev wsJ00 : List Cond := u_ws RJ0 TJ0 0
theorem nmJ0 : ∀ a, a < 0 → ∀ b, b < 0 → a ≠ b → (TJ0 a).2.1 ≠ (TJ0 b).2.1 := by decide +kernel
theorem tyJ0_ok : ∀ k, k < 0 → parseFieldDescriptor (TJ0 k).2.2.1 = some (tyJ0 k) := by decide +kernel
def RL : String := "SteamBendsLaw"
abbrev cL_table : ByteArray := method_3_code
def yL_table : MethodName := ⟨RL, "table", "(LSteamBends;IDD[J)I"⟩
abbrev cL_radius : ByteArray := method_4_code
def yL_radius : MethodName := ⟨RL, "radius", "(LSteamBends;ID[D)I"⟩
abbrev cL_strips : ByteArray := method_5_code
def yL_strips : MethodName := ⟨RL, "strips", "(LSteamBends;IDD[J)I"⟩
abbrev cL_read : ByteArray := method_6_code
def yL_read : MethodName := ⟨RL, "read", "(LSteamBends;IDD[J)I"⟩
abbrev cL_fit : ByteArray := method_7_code
def yL_fit : MethodName := ⟨RL, "fit", "(LSteamBends;II[J)I"⟩
abbrev cL_back : ByteArray := method_8_code
def yL_back : MethodName := ⟨RL, "back", "(LSteamBends;II[D)I"⟩
abbrev cL_form : ByteArray := method_9_code
def yL_form : MethodName := ⟨RL, "form", "(LSteamBends;ID[D)I"⟩
abbrev cL_minutes : ByteArray := method_10_code
def yL_minutes : MethodName := ⟨RL, "minutes", "(LSteamBends;D[D)I"⟩
abbrev cL_piece : ByteArray := method_11_code
def yL_piece : MethodName := ⟨RL, "piece", "(LSteamBends;DD[J)I"⟩
abbrev cL_length : ByteArray := method_12_code
def yL_length : MethodName := ⟨RL, "length", "(LSteamBends;ZD[D)I"⟩
abbrev cL_kerfs : ByteArray := method_13_code
def yL_kerfs : MethodName := ⟨RL, "kerfs", "(LSteamBends;DDDD[J)I"⟩
abbrev cL_kerfAt : ByteArray := method_14_code
def yL_kerfAt : MethodName := ⟨RL, "kerfAt", "(LSteamBends;ID[D)I"⟩
abbrev cL_rest : ByteArray := method_15_code
def yL_rest : MethodName := ⟨RL, "rest", "(LSteamBends;[D)I"⟩
abbrev cL_broken : ByteArray := method_16_code
def yL_broken : MethodName := ⟨RL, "broken", "(LSteamBends;III[J)I"⟩
abbrev cL_relaxed : ByteArray := method_17_code
def yL_relaxed : MethodName := ⟨RL, "relaxed", "(LSteamBends;II[D)I"⟩
abbrev cL_law : ByteArray := code
def yL_law : MethodName := ⟨RL, "law", "([I)Z"⟩
def wsX1_init : List Cond := .code yX1_init cX1_init 3 none :: ([.methodLink RX1 3 objectInit, .instanceMethod objectInit, .code objectInit ⟨#[0xb1]⟩ 1 none, .fieldLink RX1 9 "SteamBends$Pairs" "count" "I", .methodLink RX1 15 Lib.Math.max.name, .static Lib.Math.max.name, .initialized "java/lang/Math", .code Lib.Math.max.name Lib.Math.max.code 2 (some .int), .arrayClass .double, .fieldLink RX1 21 "SteamBends$Pairs" "firsts" "[D", .fieldLink RX1 25 "SteamBends$Pairs" "seconds" "[D"] ++ wsX10)
def wsX0_init : List Cond := .code yX0_init cX0_init 1 none :: ([.methodLink RX0 3 objectInit, .instanceMethod objectInit, .code objectInit ⟨#[0xb1]⟩ 1 none, .classLink RX0 9 RX1, .instantiable RX1 3, .initialized RX1, .fieldLink RX0 14 "SteamBends$Kind" "rows" "LSteamBends$Pairs;", .fieldLink RX0 20 "SteamBends$Kind" "readings" "LSteamBends$Pairs;", .constantDouble RX0 23 (4598175219545276416), .fieldLink RX0 25 "SteamBends$Kind" "spring" "D", .fieldLink RX0 29 "SteamBends$Kind" "step" "D", .methodLink RX0 11 yX1_init, .instanceMethod yX1_init, .code yX1_init cX1_init 3 none, .methodLink RX1 3 objectInit, .fieldLink RX1 9 "SteamBends$Pairs" "count" "I", .methodLink RX1 15 Lib.Math.max.name, .static Lib.Math.max.name, .initialized "java/lang/Math", .code Lib.Math.max.name Lib.Math.max.code 2 (some .int), .arrayClass .double, .fieldLink RX1 21 "SteamBends$Pairs" "firsts" "[D", .fieldLink RX1 25 "SteamBends$Pairs" "seconds" "[D"] ++ wsX10 ++ wsX00)
def wsX1_isPlace : List Cond := .code yX1_isPlace cX1_isPlace 2 (some .boolean) :: ([.fieldLink RX1 21 "SteamBends$Pairs" "firsts" "[D", .fieldLink RX1 25 "SteamBends$Pairs" "seconds" "[D"] ++ wsX10)
def wsX1_first : List Cond := .code yX1_first cX1_first 2 (some .double) :: ([.fieldLink RX1 21 "SteamBends$Pairs" "firsts" "[D", .methodLink RX1 28 yX1_isPlace, .instanceMethod yX1_isPlace, .selects RX1 yX1_isPlace yX1_isPlace, .initialized RX1, .code yX1_isPlace cX1_isPlace 2 (some .boolean), .fieldLink RX1 25 "SteamBends$Pairs" "seconds" "[D"] ++ wsX10)
def wsX0_isAboveRows : List Cond := .code yX0_isAboveRows cX0_isAboveRows 3 (some .boolean) :: ([.fieldLink RX0 14 "SteamBends$Kind" "rows" "LSteamBends$Pairs;", .methodLink RX0 36 yX1_first, .instanceMethod yX1_first, .selects RX1 yX1_first yX1_first, .initialized RX1, .code yX1_first cX1_first 2 (some .double), .fieldLink RX1 21 "SteamBends$Pairs" "firsts" "[D", .methodLink RX1 28 yX1_isPlace, .instanceMethod yX1_isPlace, .selects RX1 yX1_isPlace yX1_isPlace, .code yX1_isPlace cX1_isPlace 2 (some .boolean), .fieldLink RX1 25 "SteamBends$Pairs" "seconds" "[D"] ++ wsX00 ++ wsX10)
def wsX1_second : List Cond := .code yX1_second cX1_second 2 (some .double) :: ([.fieldLink RX1 25 "SteamBends$Pairs" "seconds" "[D", .methodLink RX1 28 yX1_isPlace, .instanceMethod yX1_isPlace, .selects RX1 yX1_isPlace yX1_isPlace, .initialized RX1, .code yX1_isPlace cX1_isPlace 2 (some .boolean), .fieldLink RX1 21 "SteamBends$Pairs" "firsts" "[D"] ++ wsX10)
def wsX0_radiusBetween : List Cond := .code yX0_radiusBetween cX0_radiusBetween 13 (some .double) :: ([.fieldLink RX0 14 "SteamBends$Kind" "rows" "LSteamBends$Pairs;", .methodLink RX0 36 yX1_first, .instanceMethod yX1_first, .selects RX1 yX1_first yX1_first, .initialized RX1, .code yX1_first cX1_first 2 (some .double), .fieldLink RX1 21 "SteamBends$Pairs" "firsts" "[D", .methodLink RX1 28 yX1_isPlace, .instanceMethod yX1_isPlace, .selects RX1 yX1_isPlace yX1_isPlace, .code yX1_isPlace cX1_isPlace 2 (some .boolean), .fieldLink RX1 25 "SteamBends$Pairs" "seconds" "[D", .methodLink RX0 40 yX1_second, .instanceMethod yX1_second, .selects RX1 yX1_second yX1_second, .code yX1_second cX1_second 2 (some .double)] ++ wsX00 ++ wsX10)
def wsX0_leastRadius : List Cond := .code yX0_leastRadius cX0_leastRadius 4 (some .double) :: ([.fieldLink RX0 14 "SteamBends$Kind" "rows" "LSteamBends$Pairs;", .constantDouble RX0 43 (13830554455654793216), .methodLink RX0 36 yX1_first, .instanceMethod yX1_first, .selects RX1 yX1_first yX1_first, .initialized RX1, .code yX1_first cX1_first 2 (some .double), .fieldLink RX1 21 "SteamBends$Pairs" "firsts" "[D", .methodLink RX1 28 yX1_isPlace, .instanceMethod yX1_isPlace, .selects RX1 yX1_isPlace yX1_isPlace, .code yX1_isPlace cX1_isPlace 2 (some .boolean), .fieldLink RX1 25 "SteamBends$Pairs" "seconds" "[D", .methodLink RX0 40 yX1_second, .instanceMethod yX1_second, .selects RX1 yX1_second yX1_second, .code yX1_second cX1_second 2 (some .double), .methodLink RX0 45 yX0_radiusBetween, .instanceMethod yX0_radiusBetween, .selects RX0 yX0_radiusBetween yX0_radiusBetween, .initialized RX0, .code yX0_radiusBetween cX0_radiusBetween 13 (some .double)] ++ wsX00 ++ wsX10)
def wsX3_isNone : List Cond := .code yX3_isNone cX3_isNone 2 (some .boolean) :: ([])
def wsX0_leastStrips_r1 : List Cond := [Cond.methodLink RX0 49 yX0_leastRadius, Cond.instanceMethod yX0_leastRadius, Cond.selects RX0 yX0_leastRadius yX0_leastRadius, Cond.initialized RX0, Cond.code yX0_leastRadius cX0_leastRadius 4 (some .double), Cond.fieldLink RX0 14 "SteamBends$Kind" "rows" "LSteamBends$Pairs;", Cond.constantDouble RX0 43 (13830554455654793216), Cond.methodLink RX0 36 yX1_first, Cond.instanceMethod yX1_first, Cond.selects RX1 yX1_first yX1_first, Cond.initialized RX1, Cond.code yX1_first cX1_first 2 (some .double), Cond.fieldLink RX1 21 "SteamBends$Pairs" "firsts" "[D", Cond.methodLink RX1 28 yX1_isPlace, Cond.instanceMethod yX1_isPlace, Cond.selects RX1 yX1_isPlace yX1_isPlace, Cond.code yX1_isPlace cX1_isPlace 2 (some .boolean), Cond.fieldLink RX1 25 "SteamBends$Pairs" "seconds" "[D", Cond.methodLink RX0 40 yX1_second, Cond.instanceMethod yX1_second, Cond.selects RX1 yX1_second yX1_second, Cond.code yX1_second cX1_second 2 (some .double), Cond.methodLink RX0 45 yX0_radiusBetween, Cond.instanceMethod yX0_radiusBetween]
def wsX0_leastStrips_r2 : List Cond := [Cond.selects RX0 yX0_radiusBetween yX0_radiusBetween, Cond.code yX0_radiusBetween cX0_radiusBetween 13 (some .double), Cond.static yX3_isNone, Cond.initialized RX3, Cond.code yX3_isNone cX3_isNone 2 (some .boolean)]
def wsX0_leastStrips : List Cond := .code yX0_leastStrips cX0_leastStrips 8 (some .int) :: ((wsX0_leastStrips_r1 ++ wsX0_leastStrips_r2) ++ wsX00 ++ wsX10)
def wsX0_residue : List Cond := .code yX0_residue cX0_residue 8 (some .double) :: ([.fieldLink RX0 20 "SteamBends$Kind" "readings" "LSteamBends$Pairs;", .methodLink RX0 40 yX1_second, .instanceMethod yX1_second, .selects RX1 yX1_second yX1_second, .initialized RX1, .code yX1_second cX1_second 2 (some .double), .fieldLink RX1 25 "SteamBends$Pairs" "seconds" "[D", .methodLink RX1 28 yX1_isPlace, .instanceMethod yX1_isPlace, .selects RX1 yX1_isPlace yX1_isPlace, .code yX1_isPlace cX1_isPlace 2 (some .boolean), .fieldLink RX1 21 "SteamBends$Pairs" "firsts" "[D", .methodLink RX0 36 yX1_first, .instanceMethod yX1_first, .selects RX1 yX1_first yX1_first, .code yX1_first cX1_first 2 (some .double)] ++ wsX00 ++ wsX10)
def wsX0_fitsBetter : List Cond := .code yX0_fitsBetter cX0_fitsBetter 7 (some .boolean) :: ([.fieldLink RX0 25 "SteamBends$Kind" "spring" "D", .fieldLink RX0 29 "SteamBends$Kind" "step" "D", .constantDouble RX0 60 (4611686018427387904), .methodLink RX0 57 yX0_residue, .instanceMethod yX0_residue, .selects RX0 yX0_residue yX0_residue, .initialized RX0, .code yX0_residue cX0_residue 8 (some .double), .fieldLink RX0 20 "SteamBends$Kind" "readings" "LSteamBends$Pairs;", .methodLink RX0 40 yX1_second, .instanceMethod yX1_second, .selects RX1 yX1_second yX1_second, .initialized RX1, .code yX1_second cX1_second 2 (some .double), .fieldLink RX1 25 "SteamBends$Pairs" "seconds" "[D", .methodLink RX1 28 yX1_isPlace, .instanceMethod yX1_isPlace, .selects RX1 yX1_isPlace yX1_isPlace, .code yX1_isPlace cX1_isPlace 2 (some .boolean), .fieldLink RX1 21 "SteamBends$Pairs" "firsts" "[D", .methodLink RX0 36 yX1_first, .instanceMethod yX1_first, .selects RX1 yX1_first yX1_first, .code yX1_first cX1_first 2 (some .double)] ++ wsX00 ++ wsX10)
def wsX0_formFor : List Cond := .code yX0_formFor cX0_formFor 10 (some .double) :: ([.constantDouble RX0 60 (4611686018427387904), .fieldLink RX0 25 "SteamBends$Kind" "spring" "D"] ++ wsX00)
def wsX1_add : List Cond := .code yX1_add cX1_add 5 (some .int) :: ([.fieldLink RX1 9 "SteamBends$Pairs" "count" "I", .fieldLink RX1 21 "SteamBends$Pairs" "firsts" "[D", .fieldLink RX1 25 "SteamBends$Pairs" "seconds" "[D", .methodLink RX1 28 yX1_isPlace, .instanceMethod yX1_isPlace, .selects RX1 yX1_isPlace yX1_isPlace, .initialized RX1, .code yX1_isPlace cX1_isPlace 2 (some .boolean)] ++ wsX10)
def wsX1_removeAll : List Cond := .code yX1_removeAll cX1_removeAll 1 none :: ([.fieldLink RX1 9 "SteamBends$Pairs" "count" "I"] ++ wsX10)
def wsX2_init : List Cond := .code yX2_init cX2_init 1 none :: ([.methodLink RX2 3 objectInit, .instanceMethod objectInit, .code objectInit ⟨#[0xb1]⟩ 1 none, .classLink RX2 9 RX1, .instantiable RX1 3, .initialized RX1, .fieldLink RX2 14 "SteamBends$Shape" "pieces" "LSteamBends$Pairs;", .methodLink RX2 11 yX1_init, .instanceMethod yX1_init, .code yX1_init cX1_init 3 none, .methodLink RX1 3 objectInit, .fieldLink RX1 9 "SteamBends$Pairs" "count" "I", .methodLink RX1 15 Lib.Math.max.name, .static Lib.Math.max.name, .initialized "java/lang/Math", .code Lib.Math.max.name Lib.Math.max.code 2 (some .int), .arrayClass .double, .fieldLink RX1 21 "SteamBends$Pairs" "firsts" "[D", .fieldLink RX1 25 "SteamBends$Pairs" "seconds" "[D"] ++ wsX10 ++ wsX20)
def wsX2_isBendable : List Cond := .code yX2_isBendable cX2_isBendable 6 (some .boolean) :: ([.fieldLink RX2 14 "SteamBends$Shape" "pieces" "LSteamBends$Pairs;", .constantDouble RX2 28 (4611686018427387904), .methodLink RX2 24 yX1_second, .instanceMethod yX1_second, .selects RX1 yX1_second yX1_second, .initialized RX1, .code yX1_second cX1_second 2 (some .double), .fieldLink RX1 25 "SteamBends$Pairs" "seconds" "[D", .methodLink RX1 28 yX1_isPlace, .instanceMethod yX1_isPlace, .selects RX1 yX1_isPlace yX1_isPlace, .code yX1_isPlace cX1_isPlace 2 (some .boolean), .fieldLink RX1 21 "SteamBends$Pairs" "firsts" "[D"] ++ wsX20 ++ wsX10)
def wsX2_lengthOf : List Cond := .code yX2_lengthOf cX2_lengthOf 11 (some .double) :: ([.fieldLink RX2 14 "SteamBends$Shape" "pieces" "LSteamBends$Pairs;", .constantDouble RX2 28 (4611686018427387904), .methodLink RX2 34 yX1_first, .instanceMethod yX1_first, .selects RX1 yX1_first yX1_first, .initialized RX1, .code yX1_first cX1_first 2 (some .double), .fieldLink RX1 21 "SteamBends$Pairs" "firsts" "[D", .methodLink RX1 28 yX1_isPlace, .instanceMethod yX1_isPlace, .selects RX1 yX1_isPlace yX1_isPlace, .code yX1_isPlace cX1_isPlace 2 (some .boolean), .fieldLink RX1 25 "SteamBends$Pairs" "seconds" "[D", .methodLink RX2 24 yX1_second, .instanceMethod yX1_second, .selects RX1 yX1_second yX1_second, .code yX1_second cX1_second 2 (some .double)] ++ wsX20 ++ wsX10)
def wsX2_sumOfLengths : List Cond := .code yX2_sumOfLengths cX2_sumOfLengths 7 (some .double) :: ([.fieldLink RX2 14 "SteamBends$Shape" "pieces" "LSteamBends$Pairs;", .methodLink RX2 30 yX2_lengthOf, .instanceMethod yX2_lengthOf, .selects RX2 yX2_lengthOf yX2_lengthOf, .initialized RX2, .code yX2_lengthOf cX2_lengthOf 11 (some .double), .constantDouble RX2 28 (4611686018427387904), .methodLink RX2 34 yX1_first, .instanceMethod yX1_first, .selects RX1 yX1_first yX1_first, .initialized RX1, .code yX1_first cX1_first 2 (some .double), .fieldLink RX1 21 "SteamBends$Pairs" "firsts" "[D", .methodLink RX1 28 yX1_isPlace, .instanceMethod yX1_isPlace, .selects RX1 yX1_isPlace yX1_isPlace, .code yX1_isPlace cX1_isPlace 2 (some .boolean), .fieldLink RX1 25 "SteamBends$Pairs" "seconds" "[D", .methodLink RX2 24 yX1_second, .instanceMethod yX1_second, .selects RX1 yX1_second yX1_second, .code yX1_second cX1_second 2 (some .double)] ++ wsX20 ++ wsX10)
def wsX3_init_r1 : List Cond := [Cond.methodLink RX3 1 objectInit, Cond.instanceMethod objectInit, Cond.code objectInit ⟨#[0xb1]⟩ 1 none, Cond.classLink RX3 9 RX0, Cond.fieldLink RX3 11 "SteamBends" "kinds" "[LSteamBends$Kind;", Cond.classLink RX3 15 RX2, Cond.instantiable RX2 1, Cond.initialized RX2, Cond.fieldLink RX3 18 "SteamBends" "shape" "LSteamBends$Shape;", Cond.fieldLink RX3 22 "SteamBends" "kerfCount" "I", Cond.fieldLink RX3 26 "SteamBends" "kerfRest" "D", Cond.instantiable RX0 4, Cond.initialized RX0, Cond.instanceMethod yX2_init, Cond.code yX2_init cX2_init 1 none, Cond.methodLink RX2 3 objectInit, Cond.classLink RX2 9 RX1, Cond.instantiable RX1 3, Cond.initialized RX1, Cond.fieldLink RX2 14 "SteamBends$Shape" "pieces" "LSteamBends$Pairs;", Cond.methodLink RX2 11 yX1_init, Cond.instanceMethod yX1_init, Cond.code yX1_init cX1_init 3 none, Cond.methodLink RX1 3 objectInit]
def wsX3_init_r2 : List Cond := [Cond.fieldLink RX1 9 "SteamBends$Pairs" "count" "I", Cond.methodLink RX1 15 Lib.Math.max.name, Cond.static Lib.Math.max.name, Cond.initialized "java/lang/Math", Cond.code Lib.Math.max.name Lib.Math.max.code 2 (some .int), Cond.arrayClass .double, Cond.fieldLink RX1 21 "SteamBends$Pairs" "firsts" "[D", Cond.fieldLink RX1 25 "SteamBends$Pairs" "seconds" "[D", Cond.instanceMethod yX0_init, Cond.code yX0_init cX0_init 1 none, Cond.methodLink RX0 3 objectInit, Cond.classLink RX0 9 RX1, Cond.fieldLink RX0 14 "SteamBends$Kind" "rows" "LSteamBends$Pairs;", Cond.fieldLink RX0 20 "SteamBends$Kind" "readings" "LSteamBends$Pairs;", Cond.constantDouble RX0 23 (4598175219545276416), Cond.fieldLink RX0 25 "SteamBends$Kind" "spring" "D", Cond.fieldLink RX0 29 "SteamBends$Kind" "step" "D", Cond.methodLink RX0 11 yX1_init]
def wsX3_init : List Cond := .code yX3_init cX3_init 2 none :: ((wsX3_init_r1 ++ wsX3_init_r2) ++ wsX30 ++ wsX20 ++ wsX00 ++ wsX10)
def wsX3_kindOf : List Cond := .code yX3_kindOf cX3_kindOf 3 (some (.object "SteamBends$Kind")) :: ([.classLink RX3 111 "java/lang/IndexOutOfBoundsException", .initialized "java/lang/IndexOutOfBoundsException", .fieldLink RX3 11 "SteamBends" "kinds" "[LSteamBends$Kind;"] ++ wsX30 ++ (vx_atS RX3 115 "java/lang/IndexOutOfBoundsException" ["java/lang/RuntimeException", "java/lang/Exception"]).filter goodWord)
def wsX3_isWithin : List Cond := .code yX3_isWithin cX3_isWithin 6 (some .boolean) :: ([])
def wsX3_table_r1 : List Cond := [Cond.classLink RX3 49 "java/lang/IllegalArgumentException", Cond.initialized "java/lang/IllegalArgumentException", Cond.classLink RX3 66 "java/lang/IllegalStateException", Cond.initialized "java/lang/IllegalStateException", Cond.constantDouble RX3 35 (4593671619917905920), Cond.constantDouble RX3 37 (4652007308841189376), Cond.constantDouble RX3 43 (4666723172467343360), Cond.methodLink RX3 31 yX3_kindOf, Cond.instanceMethod yX3_kindOf, Cond.selects RX3 yX3_kindOf yX3_kindOf, Cond.initialized RX3, Cond.code yX3_kindOf cX3_kindOf 3 (some (.object "SteamBends$Kind")), Cond.classLink RX3 111 "java/lang/IndexOutOfBoundsException", Cond.initialized "java/lang/IndexOutOfBoundsException", Cond.fieldLink RX3 11 "SteamBends" "kinds" "[LSteamBends$Kind;", Cond.methodLink RX3 39 yX3_isWithin, Cond.static yX3_isWithin, Cond.code yX3_isWithin cX3_isWithin 6 (some .boolean), Cond.methodLink RX3 45 yX0_isAboveRows, Cond.instanceMethod yX0_isAboveRows, Cond.selects RX0 yX0_isAboveRows yX0_isAboveRows, Cond.initialized RX0, Cond.code yX0_isAboveRows cX0_isAboveRows 3 (some .boolean), Cond.fieldLink RX0 14 "SteamBends$Kind" "rows" "LSteamBends$Pairs;"]
def wsX3_table_r2 : List Cond := [Cond.methodLink RX0 36 yX1_first, Cond.instanceMethod yX1_first, Cond.selects RX1 yX1_first yX1_first, Cond.initialized RX1, Cond.code yX1_first cX1_first 2 (some .double), Cond.fieldLink RX1 21 "SteamBends$Pairs" "firsts" "[D", Cond.methodLink RX1 28 yX1_isPlace, Cond.instanceMethod yX1_isPlace, Cond.selects RX1 yX1_isPlace yX1_isPlace, Cond.code yX1_isPlace cX1_isPlace 2 (some .boolean), Cond.fieldLink RX1 25 "SteamBends$Pairs" "seconds" "[D", Cond.methodLink RX3 60 yX1_add, Cond.instanceMethod yX1_add, Cond.selects RX1 yX1_add yX1_add, Cond.code yX1_add cX1_add 5 (some .int), Cond.fieldLink RX1 9 "SteamBends$Pairs" "count" "I"]
def wsX3_table : List Cond := .code yX3_table cX3_table 8 (some .int) :: ((wsX3_table_r1 ++ wsX3_table_r2) ++ wsX00 ++ wsX30 ++ wsX10 ++ (vx_atS RX3 53 "java/lang/IllegalArgumentException" ["java/lang/RuntimeException", "java/lang/Exception"]).filter goodWord ++ (vx_atS RX3 70 "java/lang/IllegalStateException" ["java/lang/RuntimeException", "java/lang/Exception"]).filter goodWord ++ (vx_atS RX3 115 "java/lang/IndexOutOfBoundsException" ["java/lang/RuntimeException", "java/lang/Exception"]).filter goodWord)
def wsX3_radius_r1 : List Cond := [Cond.classLink RX3 49 "java/lang/IllegalArgumentException", Cond.initialized "java/lang/IllegalArgumentException", Cond.classLink RX3 66 "java/lang/IllegalStateException", Cond.initialized "java/lang/IllegalStateException", Cond.constantDouble RX3 37 (4652007308841189376), Cond.methodLink RX3 31 yX3_kindOf, Cond.instanceMethod yX3_kindOf, Cond.selects RX3 yX3_kindOf yX3_kindOf, Cond.initialized RX3, Cond.code yX3_kindOf cX3_kindOf 3 (some (.object "SteamBends$Kind")), Cond.classLink RX3 111 "java/lang/IndexOutOfBoundsException", Cond.initialized "java/lang/IndexOutOfBoundsException", Cond.fieldLink RX3 11 "SteamBends" "kinds" "[LSteamBends$Kind;", Cond.methodLink RX3 39 yX3_isWithin, Cond.static yX3_isWithin, Cond.code yX3_isWithin cX3_isWithin 6 (some .boolean), Cond.methodLink RX3 73 yX0_leastRadius, Cond.instanceMethod yX0_leastRadius, Cond.selects RX0 yX0_leastRadius yX0_leastRadius, Cond.initialized RX0, Cond.code yX0_leastRadius cX0_leastRadius 4 (some .double), Cond.fieldLink RX0 14 "SteamBends$Kind" "rows" "LSteamBends$Pairs;", Cond.constantDouble RX0 43 (13830554455654793216), Cond.methodLink RX0 36 yX1_first]
def wsX3_radius_r2 : List Cond := [Cond.instanceMethod yX1_first, Cond.selects RX1 yX1_first yX1_first, Cond.initialized RX1, Cond.code yX1_first cX1_first 2 (some .double), Cond.fieldLink RX1 21 "SteamBends$Pairs" "firsts" "[D", Cond.methodLink RX1 28 yX1_isPlace, Cond.instanceMethod yX1_isPlace, Cond.selects RX1 yX1_isPlace yX1_isPlace, Cond.code yX1_isPlace cX1_isPlace 2 (some .boolean), Cond.fieldLink RX1 25 "SteamBends$Pairs" "seconds" "[D", Cond.methodLink RX0 40 yX1_second, Cond.instanceMethod yX1_second, Cond.selects RX1 yX1_second yX1_second, Cond.code yX1_second cX1_second 2 (some .double), Cond.methodLink RX0 45 yX0_radiusBetween, Cond.instanceMethod yX0_radiusBetween, Cond.selects RX0 yX0_radiusBetween yX0_radiusBetween, Cond.code yX0_radiusBetween cX0_radiusBetween 13 (some .double), Cond.methodLink RX3 77 yX3_isNone, Cond.static yX3_isNone, Cond.code yX3_isNone cX3_isNone 2 (some .boolean)]
def wsX3_radius : List Cond := .code yX3_radius cX3_radius 7 (some .double) :: ((wsX3_radius_r1 ++ wsX3_radius_r2) ++ wsX30 ++ wsX00 ++ wsX10 ++ (vx_atS RX3 53 "java/lang/IllegalArgumentException" ["java/lang/RuntimeException", "java/lang/Exception"]).filter goodWord ++ (vx_atS RX3 70 "java/lang/IllegalStateException" ["java/lang/RuntimeException", "java/lang/Exception"]).filter goodWord ++ (vx_atS RX3 115 "java/lang/IndexOutOfBoundsException" ["java/lang/RuntimeException", "java/lang/Exception"]).filter goodWord)
def wsX3_strips_r1 : List Cond := [Cond.classLink RX3 49 "java/lang/IllegalArgumentException", Cond.initialized "java/lang/IllegalArgumentException", Cond.constantDouble RX3 35 (4593671619917905920), Cond.constantDouble RX3 43 (4666723172467343360), Cond.methodLink RX3 31 yX3_kindOf, Cond.instanceMethod yX3_kindOf, Cond.selects RX3 yX3_kindOf yX3_kindOf, Cond.initialized RX3, Cond.code yX3_kindOf cX3_kindOf 3 (some (.object "SteamBends$Kind")), Cond.classLink RX3 111 "java/lang/IndexOutOfBoundsException", Cond.initialized "java/lang/IndexOutOfBoundsException", Cond.fieldLink RX3 11 "SteamBends" "kinds" "[LSteamBends$Kind;", Cond.methodLink RX3 39 yX3_isWithin, Cond.static yX3_isWithin, Cond.code yX3_isWithin cX3_isWithin 6 (some .boolean), Cond.methodLink RX3 84 yX0_leastStrips, Cond.instanceMethod yX0_leastStrips, Cond.selects RX0 yX0_leastStrips yX0_leastStrips, Cond.initialized RX0, Cond.code yX0_leastStrips cX0_leastStrips 8 (some .int), Cond.methodLink RX0 49 yX0_leastRadius, Cond.instanceMethod yX0_leastRadius, Cond.selects RX0 yX0_leastRadius yX0_leastRadius, Cond.code yX0_leastRadius cX0_leastRadius 4 (some .double)]
def wsX3_strips_r2 : List Cond := [Cond.fieldLink RX0 14 "SteamBends$Kind" "rows" "LSteamBends$Pairs;", Cond.constantDouble RX0 43 (13830554455654793216), Cond.methodLink RX0 36 yX1_first, Cond.instanceMethod yX1_first, Cond.selects RX1 yX1_first yX1_first, Cond.initialized RX1, Cond.code yX1_first cX1_first 2 (some .double), Cond.fieldLink RX1 21 "SteamBends$Pairs" "firsts" "[D", Cond.methodLink RX1 28 yX1_isPlace, Cond.instanceMethod yX1_isPlace, Cond.selects RX1 yX1_isPlace yX1_isPlace, Cond.code yX1_isPlace cX1_isPlace 2 (some .boolean), Cond.fieldLink RX1 25 "SteamBends$Pairs" "seconds" "[D", Cond.methodLink RX0 40 yX1_second, Cond.instanceMethod yX1_second, Cond.selects RX1 yX1_second yX1_second, Cond.code yX1_second cX1_second 2 (some .double), Cond.methodLink RX0 45 yX0_radiusBetween, Cond.instanceMethod yX0_radiusBetween, Cond.selects RX0 yX0_radiusBetween yX0_radiusBetween, Cond.code yX0_radiusBetween cX0_radiusBetween 13 (some .double), Cond.static yX3_isNone, Cond.code yX3_isNone cX3_isNone 2 (some .boolean)]
def wsX3_strips : List Cond := .code yX3_strips cX3_strips 7 (some .int) :: ((wsX3_strips_r1 ++ wsX3_strips_r2) ++ wsX30 ++ wsX00 ++ wsX10 ++ (vx_atS RX3 53 "java/lang/IllegalArgumentException" ["java/lang/RuntimeException", "java/lang/Exception"]).filter goodWord ++ (vx_atS RX3 115 "java/lang/IndexOutOfBoundsException" ["java/lang/RuntimeException", "java/lang/Exception"]).filter goodWord)
def wsX3_read_r1 : List Cond := [Cond.classLink RX3 49 "java/lang/IllegalArgumentException", Cond.initialized "java/lang/IllegalArgumentException", Cond.classLink RX3 66 "java/lang/IllegalStateException", Cond.initialized "java/lang/IllegalStateException", Cond.constantDouble RX3 35 (4593671619917905920), Cond.constantDouble RX3 43 (4666723172467343360), Cond.constantDouble RX3 87 (4681608360884174848), Cond.methodLink RX3 31 yX3_kindOf, Cond.instanceMethod yX3_kindOf, Cond.selects RX3 yX3_kindOf yX3_kindOf, Cond.initialized RX3, Cond.code yX3_kindOf cX3_kindOf 3 (some (.object "SteamBends$Kind")), Cond.classLink RX3 111 "java/lang/IndexOutOfBoundsException", Cond.initialized "java/lang/IndexOutOfBoundsException", Cond.fieldLink RX3 11 "SteamBends" "kinds" "[LSteamBends$Kind;", Cond.methodLink RX3 39 yX3_isWithin, Cond.static yX3_isWithin, Cond.code yX3_isWithin cX3_isWithin 6 (some .boolean), Cond.methodLink RX3 60 yX1_add, Cond.instanceMethod yX1_add, Cond.selects RX1 yX1_add yX1_add, Cond.initialized RX1, Cond.code yX1_add cX1_add 5 (some .int), Cond.fieldLink RX1 9 "SteamBends$Pairs" "count" "I"]
def wsX3_read_r2 : List Cond := [Cond.fieldLink RX1 21 "SteamBends$Pairs" "firsts" "[D", Cond.fieldLink RX1 25 "SteamBends$Pairs" "seconds" "[D", Cond.methodLink RX1 28 yX1_isPlace, Cond.instanceMethod yX1_isPlace, Cond.selects RX1 yX1_isPlace yX1_isPlace, Cond.code yX1_isPlace cX1_isPlace 2 (some .boolean)]
def wsX3_read : List Cond := .code yX3_read cX3_read 8 (some .int) :: ((wsX3_read_r1 ++ wsX3_read_r2) ++ wsX00 ++ wsX30 ++ wsX10 ++ (vx_atS RX3 53 "java/lang/IllegalArgumentException" ["java/lang/RuntimeException", "java/lang/Exception"]).filter goodWord ++ (vx_atS RX3 70 "java/lang/IllegalStateException" ["java/lang/RuntimeException", "java/lang/Exception"]).filter goodWord ++ (vx_atS RX3 115 "java/lang/IndexOutOfBoundsException" ["java/lang/RuntimeException", "java/lang/Exception"]).filter goodWord)
def wsX3_fit_r1 : List Cond := [Cond.classLink RX3 49 "java/lang/IllegalArgumentException", Cond.initialized "java/lang/IllegalArgumentException", Cond.methodLink RX3 31 yX3_kindOf, Cond.instanceMethod yX3_kindOf, Cond.selects RX3 yX3_kindOf yX3_kindOf, Cond.initialized RX3, Cond.code yX3_kindOf cX3_kindOf 3 (some (.object "SteamBends$Kind")), Cond.classLink RX3 111 "java/lang/IndexOutOfBoundsException", Cond.initialized "java/lang/IndexOutOfBoundsException", Cond.fieldLink RX3 11 "SteamBends" "kinds" "[LSteamBends$Kind;", Cond.methodLink RX3 98 yX0_fitsBetter, Cond.instanceMethod yX0_fitsBetter, Cond.selects RX0 yX0_fitsBetter yX0_fitsBetter, Cond.initialized RX0, Cond.code yX0_fitsBetter cX0_fitsBetter 7 (some .boolean), Cond.fieldLink RX0 25 "SteamBends$Kind" "spring" "D", Cond.fieldLink RX0 29 "SteamBends$Kind" "step" "D", Cond.constantDouble RX0 60 (4611686018427387904), Cond.methodLink RX0 57 yX0_residue, Cond.instanceMethod yX0_residue, Cond.selects RX0 yX0_residue yX0_residue, Cond.code yX0_residue cX0_residue 8 (some .double), Cond.fieldLink RX0 20 "SteamBends$Kind" "readings" "LSteamBends$Pairs;", Cond.methodLink RX0 40 yX1_second]
def wsX3_fit_r2 : List Cond := [Cond.instanceMethod yX1_second, Cond.selects RX1 yX1_second yX1_second, Cond.initialized RX1, Cond.code yX1_second cX1_second 2 (some .double), Cond.fieldLink RX1 25 "SteamBends$Pairs" "seconds" "[D", Cond.methodLink RX1 28 yX1_isPlace, Cond.instanceMethod yX1_isPlace, Cond.selects RX1 yX1_isPlace yX1_isPlace, Cond.code yX1_isPlace cX1_isPlace 2 (some .boolean), Cond.fieldLink RX1 21 "SteamBends$Pairs" "firsts" "[D", Cond.methodLink RX0 36 yX1_first, Cond.instanceMethod yX1_first, Cond.selects RX1 yX1_first yX1_first, Cond.code yX1_first cX1_first 2 (some .double)]
def wsX3_fit : List Cond := .code yX3_fit cX3_fit 6 (some .int) :: ((wsX3_fit_r1 ++ wsX3_fit_r2) ++ wsX30 ++ wsX00 ++ wsX10 ++ (vx_atS RX3 53 "java/lang/IllegalArgumentException" ["java/lang/RuntimeException", "java/lang/Exception"]).filter goodWord ++ (vx_atS RX3 115 "java/lang/IndexOutOfBoundsException" ["java/lang/RuntimeException", "java/lang/Exception"]).filter goodWord)
def wsX3_back_r1 : List Cond := [Cond.classLink RX3 111 "java/lang/IndexOutOfBoundsException", Cond.initialized "java/lang/IndexOutOfBoundsException", Cond.methodLink RX3 31 yX3_kindOf, Cond.instanceMethod yX3_kindOf, Cond.selects RX3 yX3_kindOf yX3_kindOf, Cond.initialized RX3, Cond.code yX3_kindOf cX3_kindOf 3 (some (.object "SteamBends$Kind")), Cond.fieldLink RX3 11 "SteamBends" "kinds" "[LSteamBends$Kind;", Cond.methodLink RX3 108 yX0_residue, Cond.instanceMethod yX0_residue, Cond.selects RX0 yX0_residue yX0_residue, Cond.initialized RX0, Cond.code yX0_residue cX0_residue 8 (some .double), Cond.fieldLink RX0 20 "SteamBends$Kind" "readings" "LSteamBends$Pairs;", Cond.methodLink RX0 40 yX1_second, Cond.instanceMethod yX1_second, Cond.selects RX1 yX1_second yX1_second, Cond.initialized RX1, Cond.code yX1_second cX1_second 2 (some .double), Cond.fieldLink RX1 25 "SteamBends$Pairs" "seconds" "[D", Cond.methodLink RX1 28 yX1_isPlace, Cond.instanceMethod yX1_isPlace, Cond.selects RX1 yX1_isPlace yX1_isPlace, Cond.code yX1_isPlace cX1_isPlace 2 (some .boolean)]
def wsX3_back_r2 : List Cond := [Cond.fieldLink RX1 21 "SteamBends$Pairs" "firsts" "[D", Cond.methodLink RX0 36 yX1_first, Cond.instanceMethod yX1_first, Cond.selects RX1 yX1_first yX1_first, Cond.code yX1_first cX1_first 2 (some .double)]
def wsX3_back : List Cond := .code yX3_back cX3_back 4 (some .double) :: ((wsX3_back_r1 ++ wsX3_back_r2) ++ wsX00 ++ wsX30 ++ wsX10 ++ (vx_atS RX3 115 "java/lang/IndexOutOfBoundsException" ["java/lang/RuntimeException", "java/lang/Exception"]).filter goodWord)
def wsX3_form : List Cond := .code yX3_form cX3_form 5 (some .double) :: ([.classLink RX3 49 "java/lang/IllegalArgumentException", .initialized "java/lang/IllegalArgumentException", .constantDouble RX3 35 (4593671619917905920), .constantDouble RX3 87 (4681608360884174848), .methodLink RX3 31 yX3_kindOf, .instanceMethod yX3_kindOf, .selects RX3 yX3_kindOf yX3_kindOf, .initialized RX3, .code yX3_kindOf cX3_kindOf 3 (some (.object "SteamBends$Kind")), .classLink RX3 111 "java/lang/IndexOutOfBoundsException", .initialized "java/lang/IndexOutOfBoundsException", .fieldLink RX3 11 "SteamBends" "kinds" "[LSteamBends$Kind;", .methodLink RX3 39 yX3_isWithin, .static yX3_isWithin, .code yX3_isWithin cX3_isWithin 6 (some .boolean), .methodLink RX3 118 yX0_formFor, .instanceMethod yX0_formFor, .selects RX0 yX0_formFor yX0_formFor, .initialized RX0, .code yX0_formFor cX0_formFor 10 (some .double), .constantDouble RX0 60 (4611686018427387904), .fieldLink RX0 25 "SteamBends$Kind" "spring" "D"] ++ wsX30 ++ wsX00 ++ (vx_atS RX3 53 "java/lang/IllegalArgumentException" ["java/lang/RuntimeException", "java/lang/Exception"]).filter goodWord ++ (vx_atS RX3 115 "java/lang/IndexOutOfBoundsException" ["java/lang/RuntimeException", "java/lang/Exception"]).filter goodWord)
def wsX3_minutes : List Cond := .code yX3_minutes cX3_minutes 5 (some .double) :: ([.classLink RX3 49 "java/lang/IllegalArgumentException", .initialized "java/lang/IllegalArgumentException", .constantDouble RX3 37 (4652007308841189376), .constantDouble RX3 121 (4612811918334230528), .constantDouble RX3 123 (4632233691727265792), .constantDouble RX3 125 (4626322717216342016), .methodLink RX3 39 yX3_isWithin, .static yX3_isWithin, .initialized RX3, .code yX3_isWithin cX3_isWithin 6 (some .boolean)] ++ (vx_atS RX3 53 "java/lang/IllegalArgumentException" ["java/lang/RuntimeException", "java/lang/Exception"]).filter goodWord)
def wsX3_piece : List Cond := .code yX3_piece cX3_piece 6 (some .int) :: ([.classLink RX3 49 "java/lang/IllegalArgumentException", .initialized "java/lang/IllegalArgumentException", .classLink RX3 66 "java/lang/IllegalStateException", .initialized "java/lang/IllegalStateException", .constantDouble RX3 43 (4666723172467343360), .fieldLink RX3 18 "SteamBends" "shape" "LSteamBends$Shape;", .methodLink RX3 39 yX3_isWithin, .static yX3_isWithin, .initialized RX3, .code yX3_isWithin cX3_isWithin 6 (some .boolean), .methodLink RX3 60 yX1_add, .instanceMethod yX1_add, .selects RX1 yX1_add yX1_add, .initialized RX1, .code yX1_add cX1_add 5 (some .int), .fieldLink RX1 9 "SteamBends$Pairs" "count" "I", .fieldLink RX1 21 "SteamBends$Pairs" "firsts" "[D", .fieldLink RX1 25 "SteamBends$Pairs" "seconds" "[D", .methodLink RX1 28 yX1_isPlace, .instanceMethod yX1_isPlace, .selects RX1 yX1_isPlace yX1_isPlace, .code yX1_isPlace cX1_isPlace 2 (some .boolean)] ++ wsX30 ++ wsX20 ++ wsX10 ++ (vx_atS RX3 53 "java/lang/IllegalArgumentException" ["java/lang/RuntimeException", "java/lang/Exception"]).filter goodWord ++ (vx_atS RX3 70 "java/lang/IllegalStateException" ["java/lang/RuntimeException", "java/lang/Exception"]).filter goodWord)
def wsX3_clear : List Cond := .code yX3_clear cX3_clear 1 none :: ([.fieldLink RX3 18 "SteamBends" "shape" "LSteamBends$Shape;", .methodLink RX3 134 yX1_removeAll, .instanceMethod yX1_removeAll, .selects RX1 yX1_removeAll yX1_removeAll, .initialized RX1, .code yX1_removeAll cX1_removeAll 1 none, .fieldLink RX1 9 "SteamBends$Pairs" "count" "I"] ++ wsX30 ++ wsX20 ++ wsX10)
def wsX3_length_r1 : List Cond := [Cond.classLink RX3 49 "java/lang/IllegalArgumentException", Cond.initialized "java/lang/IllegalArgumentException", Cond.constantDouble RX3 37 (4652007308841189376), Cond.fieldLink RX3 18 "SteamBends" "shape" "LSteamBends$Shape;", Cond.methodLink RX3 39 yX3_isWithin, Cond.static yX3_isWithin, Cond.initialized RX3, Cond.code yX3_isWithin cX3_isWithin 6 (some .boolean), Cond.methodLink RX3 137 yX2_isBendable, Cond.instanceMethod yX2_isBendable, Cond.selects RX2 yX2_isBendable yX2_isBendable, Cond.initialized RX2, Cond.code yX2_isBendable cX2_isBendable 6 (some .boolean), Cond.fieldLink RX2 14 "SteamBends$Shape" "pieces" "LSteamBends$Pairs;", Cond.constantDouble RX2 28 (4611686018427387904), Cond.methodLink RX2 24 yX1_second, Cond.instanceMethod yX1_second, Cond.selects RX1 yX1_second yX1_second, Cond.initialized RX1, Cond.code yX1_second cX1_second 2 (some .double), Cond.fieldLink RX1 25 "SteamBends$Pairs" "seconds" "[D", Cond.methodLink RX1 28 yX1_isPlace, Cond.instanceMethod yX1_isPlace, Cond.selects RX1 yX1_isPlace yX1_isPlace]
def wsX3_length_r2 : List Cond := [Cond.code yX1_isPlace cX1_isPlace 2 (some .boolean), Cond.fieldLink RX1 21 "SteamBends$Pairs" "firsts" "[D", Cond.methodLink RX3 142 yX2_sumOfLengths, Cond.instanceMethod yX2_sumOfLengths, Cond.selects RX2 yX2_sumOfLengths yX2_sumOfLengths, Cond.code yX2_sumOfLengths cX2_sumOfLengths 7 (some .double), Cond.methodLink RX2 30 yX2_lengthOf, Cond.instanceMethod yX2_lengthOf, Cond.selects RX2 yX2_lengthOf yX2_lengthOf, Cond.code yX2_lengthOf cX2_lengthOf 11 (some .double), Cond.methodLink RX2 34 yX1_first, Cond.instanceMethod yX1_first, Cond.selects RX1 yX1_first yX1_first, Cond.code yX1_first cX1_first 2 (some .double)]
def wsX3_length : List Cond := .code yX3_length cX3_length 4 (some .double) :: ((wsX3_length_r1 ++ wsX3_length_r2) ++ wsX30 ++ wsX20 ++ wsX10 ++ (vx_atS RX3 53 "java/lang/IllegalArgumentException" ["java/lang/RuntimeException", "java/lang/Exception"]).filter goodWord)
def wsX3_leastKerfs : List Cond := .code yX3_leastKerfs cX3_leastKerfs 6 (some .int) :: ([.constant RX3 178 (32768)])
def wsX3_kerfs : List Cond := .code yX3_kerfs cX3_kerfs 11 (some .int) :: ([.classLink RX3 49 "java/lang/IllegalArgumentException", .initialized "java/lang/IllegalArgumentException", .constantDouble RX3 146 (4645040803167600640), .constantDouble RX3 37 (4652007308841189376), .constantDouble RX3 35 (4593671619917905920), .constantDouble RX3 148 (4636737291354636288), .constantDouble RX3 152 (4633260481411531256), .fieldLink RX3 22 "SteamBends" "kerfCount" "I", .fieldLink RX3 26 "SteamBends" "kerfRest" "D", .methodLink RX3 39 yX3_isWithin, .static yX3_isWithin, .initialized RX3, .code yX3_isWithin cX3_isWithin 6 (some .boolean), .methodLink RX3 154 yX3_leastKerfs, .static yX3_leastKerfs, .code yX3_leastKerfs cX3_leastKerfs 6 (some .int), .constant RX3 178 (32768)] ++ wsX30 ++ (vx_atS RX3 53 "java/lang/IllegalArgumentException" ["java/lang/RuntimeException", "java/lang/Exception"]).filter goodWord)
def wsX3_kerfAt : List Cond := .code yX3_kerfAt cX3_kerfAt 4 (some .double) :: ([.classLink RX3 66 "java/lang/IllegalStateException", .initialized "java/lang/IllegalStateException", .classLink RX3 111 "java/lang/IndexOutOfBoundsException", .initialized "java/lang/IndexOutOfBoundsException", .classLink RX3 49 "java/lang/IllegalArgumentException", .initialized "java/lang/IllegalArgumentException", .fieldLink RX3 22 "SteamBends" "kerfCount" "I", .constantDouble RX3 43 (4666723172467343360), .methodLink RX3 39 yX3_isWithin, .static yX3_isWithin, .initialized RX3, .code yX3_isWithin cX3_isWithin 6 (some .boolean)] ++ wsX30 ++ (vx_atS RX3 70 "java/lang/IllegalStateException" ["java/lang/RuntimeException", "java/lang/Exception"]).filter goodWord ++ (vx_atS RX3 115 "java/lang/IndexOutOfBoundsException" ["java/lang/RuntimeException", "java/lang/Exception"]).filter goodWord ++ (vx_atS RX3 53 "java/lang/IllegalArgumentException" ["java/lang/RuntimeException", "java/lang/Exception"]).filter goodWord)
def wsX3_rest : List Cond := .code yX3_rest cX3_rest 1 (some .double) :: ([.classLink RX3 66 "java/lang/IllegalStateException", .initialized "java/lang/IllegalStateException", .fieldLink RX3 22 "SteamBends" "kerfCount" "I", .fieldLink RX3 26 "SteamBends" "kerfRest" "D"] ++ wsX30 ++ (vx_atS RX3 70 "java/lang/IllegalStateException" ["java/lang/RuntimeException", "java/lang/Exception"]).filter goodWord)
def wsX3_commonDivisor : List Cond := .code yX3_commonDivisor cX3_commonDivisor 6 (some .int) :: ([])
def wsX3_broken : List Cond := .code yX3_broken cX3_broken 8 (some .long) :: ([.classLink RX3 111 "java/lang/IndexOutOfBoundsException", .initialized "java/lang/IndexOutOfBoundsException", .classLink RX3 49 "java/lang/IllegalArgumentException", .initialized "java/lang/IllegalArgumentException", .constant RX3 165 (1000000), .methodLink RX3 168 yX3_commonDivisor, .static yX3_commonDivisor, .initialized RX3, .code yX3_commonDivisor cX3_commonDivisor 6 (some .int)] ++ (vx_atS RX3 115 "java/lang/IndexOutOfBoundsException" ["java/lang/RuntimeException", "java/lang/Exception"]).filter goodWord ++ (vx_atS RX3 53 "java/lang/IllegalArgumentException" ["java/lang/RuntimeException", "java/lang/Exception"]).filter goodWord)
def wsX3_relaxed : List Cond := .code yX3_relaxed cX3_relaxed 4 (some .double) :: ([.classLink RX3 49 "java/lang/IllegalArgumentException", .initialized "java/lang/IllegalArgumentException", .constantDouble RX3 174 (4620693217682128896), .methodLink RX3 31 yX3_kindOf, .instanceMethod yX3_kindOf, .selects RX3 yX3_kindOf yX3_kindOf, .initialized RX3, .code yX3_kindOf cX3_kindOf 3 (some (.object "SteamBends$Kind")), .classLink RX3 111 "java/lang/IndexOutOfBoundsException", .initialized "java/lang/IndexOutOfBoundsException", .fieldLink RX3 11 "SteamBends" "kinds" "[LSteamBends$Kind;"] ++ wsX00 ++ wsX30 ++ (vx_atS RX3 53 "java/lang/IllegalArgumentException" ["java/lang/RuntimeException", "java/lang/Exception"]).filter goodWord ++ (vx_atS RX3 115 "java/lang/IndexOutOfBoundsException" ["java/lang/RuntimeException", "java/lang/Exception"]).filter goodWord)
def wsX4_init : List Cond := .code yX4_init cX4_init 2 none :: ([.methodLink RX4 1 objectInit, .instanceMethod objectInit, .code objectInit ⟨#[0xb1]⟩ 1 none, .arrayClass .int, .fieldLink RX4 7 "SteamBendsModel" "rows" "[I", .arrayClass .double, .fieldLink RX4 13 "SteamBendsModel" "thicks" "[D", .fieldLink RX4 17 "SteamBendsModel" "radii" "[D", .fieldLink RX4 20 "SteamBendsModel" "readings" "[I", .fieldLink RX4 23 "SteamBendsModel" "bents" "[D", .fieldLink RX4 26 "SteamBendsModel" "kepts" "[D", .fieldLink RX4 29 "SteamBendsModel" "springs" "[D", .fieldLink RX4 32 "SteamBendsModel" "steps" "[D", .fieldLink RX4 35 "SteamBendsModel" "lengths" "[D", .fieldLink RX4 38 "SteamBendsModel" "bends" "[D", .constantDouble RX4 41 (4598175219545276416)] ++ wsX40)
def wsX4_thrown : List Cond := .code yX4_thrown cX4_thrown 1 (some .int) :: ([.fieldLink RX4 43 "SteamBendsModel" "code" "I"] ++ wsX40)
def wsX4_isIn : List Cond := .code yX4_isIn cX4_isIn 6 (some .boolean) :: ([])
def wsX4_isKind : List Cond := .code yX4_isKind cX4_isKind 1 (some .boolean) :: ([])
def wsX4_table : List Cond := .code yX4_table cX4_table 8 (some .int) :: ([.fieldLink RX4 43 "SteamBendsModel" "code" "I", .fieldLink RX4 7 "SteamBendsModel" "rows" "[I", .constantDouble RX4 51 (4593671619917905920), .constantDouble RX4 53 (4652007308841189376), .constantDouble RX4 59 (4666723172467343360), .fieldLink RX4 13 "SteamBendsModel" "thicks" "[D", .fieldLink RX4 17 "SteamBendsModel" "radii" "[D", .methodLink RX4 47 yX4_isKind, .static yX4_isKind, .initialized RX4, .code yX4_isKind cX4_isKind 1 (some .boolean), .methodLink RX4 55 yX4_isIn, .static yX4_isIn, .code yX4_isIn cX4_isIn 6 (some .boolean)] ++ wsX40)
def wsX4_radiusAt : List Cond := .code yX4_radiusAt cX4_radiusAt 7 (some .double) :: ([.fieldLink RX4 61 "SteamBendsModel" "isFound" "Z", .fieldLink RX4 7 "SteamBendsModel" "rows" "[I", .fieldLink RX4 13 "SteamBendsModel" "thicks" "[D", .fieldLink RX4 17 "SteamBendsModel" "radii" "[D"] ++ wsX40)
def wsX4_radius : List Cond := .code yX4_radius cX4_radius 6 (some .double) :: ([.constantDouble RX4 53 (4652007308841189376), .fieldLink RX4 43 "SteamBendsModel" "code" "I", .fieldLink RX4 61 "SteamBendsModel" "isFound" "Z", .methodLink RX4 47 yX4_isKind, .static yX4_isKind, .initialized RX4, .code yX4_isKind cX4_isKind 1 (some .boolean), .methodLink RX4 55 yX4_isIn, .static yX4_isIn, .code yX4_isIn cX4_isIn 6 (some .boolean), .methodLink RX4 65 yX4_radiusAt, .instanceMethod yX4_radiusAt, .selects RX4 yX4_radiusAt yX4_radiusAt, .code yX4_radiusAt cX4_radiusAt 7 (some .double), .fieldLink RX4 7 "SteamBendsModel" "rows" "[I", .fieldLink RX4 13 "SteamBendsModel" "thicks" "[D", .fieldLink RX4 17 "SteamBendsModel" "radii" "[D"] ++ wsX40)
def wsX4_strips : List Cond := .code yX4_strips cX4_strips 9 (some .int) :: ([.constantDouble RX4 51 (4593671619917905920), .constantDouble RX4 59 (4666723172467343360), .fieldLink RX4 43 "SteamBendsModel" "code" "I", .fieldLink RX4 61 "SteamBendsModel" "isFound" "Z", .methodLink RX4 47 yX4_isKind, .static yX4_isKind, .initialized RX4, .code yX4_isKind cX4_isKind 1 (some .boolean), .methodLink RX4 55 yX4_isIn, .static yX4_isIn, .code yX4_isIn cX4_isIn 6 (some .boolean), .methodLink RX4 65 yX4_radiusAt, .instanceMethod yX4_radiusAt, .selects RX4 yX4_radiusAt yX4_radiusAt, .code yX4_radiusAt cX4_radiusAt 7 (some .double), .fieldLink RX4 7 "SteamBendsModel" "rows" "[I", .fieldLink RX4 13 "SteamBendsModel" "thicks" "[D", .fieldLink RX4 17 "SteamBendsModel" "radii" "[D"] ++ wsX40)
def wsX4_read : List Cond := .code yX4_read cX4_read 7 (some .int) :: ([.constantDouble RX4 51 (4593671619917905920), .constantDouble RX4 59 (4666723172467343360), .constantDouble RX4 69 (4681608360884174848), .fieldLink RX4 20 "SteamBendsModel" "readings" "[I", .fieldLink RX4 43 "SteamBendsModel" "code" "I", .fieldLink RX4 23 "SteamBendsModel" "bents" "[D", .fieldLink RX4 26 "SteamBendsModel" "kepts" "[D", .methodLink RX4 47 yX4_isKind, .static yX4_isKind, .initialized RX4, .code yX4_isKind cX4_isKind 1 (some .boolean), .methodLink RX4 55 yX4_isIn, .static yX4_isIn, .code yX4_isIn cX4_isIn 6 (some .boolean)] ++ wsX40)
def wsX4_residue : List Cond := .code yX4_residue cX4_residue 9 (some .double) :: ([.fieldLink RX4 20 "SteamBendsModel" "readings" "[I", .fieldLink RX4 26 "SteamBendsModel" "kepts" "[D", .fieldLink RX4 23 "SteamBendsModel" "bents" "[D"] ++ wsX40)
def wsX4_improves : List Cond := .code yX4_improves cX4_improves 8 (some .boolean) :: ([.fieldLink RX4 29 "SteamBendsModel" "springs" "[D", .fieldLink RX4 32 "SteamBendsModel" "steps" "[D", .constantDouble RX4 74 (4611686018427387904), .methodLink RX4 71 yX4_residue, .instanceMethod yX4_residue, .selects RX4 yX4_residue yX4_residue, .initialized RX4, .code yX4_residue cX4_residue 9 (some .double), .fieldLink RX4 20 "SteamBendsModel" "readings" "[I", .fieldLink RX4 26 "SteamBendsModel" "kepts" "[D", .fieldLink RX4 23 "SteamBendsModel" "bents" "[D"] ++ wsX40)
def wsX4_fit : List Cond := .code yX4_fit cX4_fit 5 (some .int) :: ([.fieldLink RX4 43 "SteamBendsModel" "code" "I", .methodLink RX4 47 yX4_isKind, .static yX4_isKind, .initialized RX4, .code yX4_isKind cX4_isKind 1 (some .boolean), .methodLink RX4 76 yX4_improves, .instanceMethod yX4_improves, .selects RX4 yX4_improves yX4_improves, .code yX4_improves cX4_improves 8 (some .boolean), .fieldLink RX4 29 "SteamBendsModel" "springs" "[D", .fieldLink RX4 32 "SteamBendsModel" "steps" "[D", .constantDouble RX4 74 (4611686018427387904), .methodLink RX4 71 yX4_residue, .instanceMethod yX4_residue, .selects RX4 yX4_residue yX4_residue, .code yX4_residue cX4_residue 9 (some .double), .fieldLink RX4 20 "SteamBendsModel" "readings" "[I", .fieldLink RX4 26 "SteamBendsModel" "kepts" "[D", .fieldLink RX4 23 "SteamBendsModel" "bents" "[D"] ++ wsX40)
def wsX4_back : List Cond := .code yX4_back cX4_back 3 (some .double) :: ([.fieldLink RX4 43 "SteamBendsModel" "code" "I", .fieldLink RX4 29 "SteamBendsModel" "springs" "[D", .fieldLink RX4 32 "SteamBendsModel" "steps" "[D", .methodLink RX4 47 yX4_isKind, .static yX4_isKind, .initialized RX4, .code yX4_isKind cX4_isKind 1 (some .boolean), .methodLink RX4 71 yX4_residue, .instanceMethod yX4_residue, .selects RX4 yX4_residue yX4_residue, .code yX4_residue cX4_residue 9 (some .double), .fieldLink RX4 20 "SteamBendsModel" "readings" "[I", .fieldLink RX4 26 "SteamBendsModel" "kepts" "[D", .fieldLink RX4 23 "SteamBendsModel" "bents" "[D"] ++ wsX40)
def wsX4_form : List Cond := .code yX4_form cX4_form 12 (some .double) :: ([.constantDouble RX4 51 (4593671619917905920), .constantDouble RX4 69 (4681608360884174848), .fieldLink RX4 43 "SteamBendsModel" "code" "I", .constantDouble RX4 74 (4611686018427387904), .fieldLink RX4 29 "SteamBendsModel" "springs" "[D", .methodLink RX4 47 yX4_isKind, .static yX4_isKind, .initialized RX4, .code yX4_isKind cX4_isKind 1 (some .boolean), .methodLink RX4 55 yX4_isIn, .static yX4_isIn, .code yX4_isIn cX4_isIn 6 (some .boolean)] ++ wsX40)
def wsX4_minutes : List Cond := .code yX4_minutes cX4_minutes 3 (some .double) :: ([.constantDouble RX4 53 (4652007308841189376), .fieldLink RX4 43 "SteamBendsModel" "code" "I", .constantDouble RX4 79 (4632233691727265792), .constantDouble RX4 81 (4612811918334230528), .constantDouble RX4 83 (4626322717216342016), .methodLink RX4 55 yX4_isIn, .static yX4_isIn, .initialized RX4, .code yX4_isIn cX4_isIn 6 (some .boolean)] ++ wsX40)
def wsX4_piece : List Cond := .code yX4_piece cX4_piece 5 (some .int) :: ([.constantDouble RX4 59 (4666723172467343360), .fieldLink RX4 85 "SteamBendsModel" "pieces" "I", .fieldLink RX4 43 "SteamBendsModel" "code" "I", .fieldLink RX4 35 "SteamBendsModel" "lengths" "[D", .fieldLink RX4 38 "SteamBendsModel" "bends" "[D", .methodLink RX4 55 yX4_isIn, .static yX4_isIn, .initialized RX4, .code yX4_isIn cX4_isIn 6 (some .boolean)] ++ wsX40)
def wsX4_clear : List Cond := .code yX4_clear cX4_clear 1 none :: ([.fieldLink RX4 43 "SteamBendsModel" "code" "I", .fieldLink RX4 85 "SteamBendsModel" "pieces" "I"] ++ wsX40)
def wsX4_length : List Cond := .code yX4_length cX4_length 12 (some .double) :: ([.constantDouble RX4 53 (4652007308841189376), .fieldLink RX4 85 "SteamBendsModel" "pieces" "I", .fieldLink RX4 38 "SteamBendsModel" "bends" "[D", .constantDouble RX4 74 (4611686018427387904), .fieldLink RX4 43 "SteamBendsModel" "code" "I", .fieldLink RX4 35 "SteamBendsModel" "lengths" "[D", .methodLink RX4 55 yX4_isIn, .static yX4_isIn, .initialized RX4, .code yX4_isIn cX4_isIn 6 (some .boolean)] ++ wsX40)
def wsX4_kerfs : List Cond := .code yX4_kerfs cX4_kerfs 13 (some .int) :: ([.constantDouble RX4 88 (4645040803167600640), .constantDouble RX4 53 (4652007308841189376), .constantDouble RX4 51 (4593671619917905920), .constantDouble RX4 90 (4636737291354636288), .fieldLink RX4 43 "SteamBendsModel" "code" "I", .constantDouble RX4 92 (4633260481411531256), .fieldLink RX4 94 "SteamBendsModel" "cuts" "I", .fieldLink RX4 97 "SteamBendsModel" "over" "D", .methodLink RX4 55 yX4_isIn, .static yX4_isIn, .initialized RX4, .code yX4_isIn cX4_isIn 6 (some .boolean)] ++ wsX40)
def wsX4_kerfAt : List Cond := .code yX4_kerfAt cX4_kerfAt 4 (some .double) :: ([.fieldLink RX4 94 "SteamBendsModel" "cuts" "I", .constantDouble RX4 59 (4666723172467343360), .fieldLink RX4 43 "SteamBendsModel" "code" "I", .methodLink RX4 55 yX4_isIn, .static yX4_isIn, .initialized RX4, .code yX4_isIn cX4_isIn 6 (some .boolean)] ++ wsX40)
def wsX4_rest : List Cond := .code yX4_rest cX4_rest 1 (some .double) :: ([.fieldLink RX4 94 "SteamBendsModel" "cuts" "I", .fieldLink RX4 43 "SteamBendsModel" "code" "I", .fieldLink RX4 97 "SteamBendsModel" "over" "D"] ++ wsX40)
def wsX4_common : List Cond := .code yX4_common cX4_common 5 (some .int) :: ([])
def wsX4_broken : List Cond := .code yX4_broken cX4_broken 5 (some .long) :: ([.constant RX4 101 (1000000), .fieldLink RX4 43 "SteamBendsModel" "code" "I", .methodLink RX4 102 yX4_common, .static yX4_common, .initialized RX4, .code yX4_common cX4_common 5 (some .int)] ++ wsX40)
def wsX4_relaxed : List Cond := .code yX4_relaxed cX4_relaxed 3 (some .double) :: ([.fieldLink RX4 43 "SteamBendsModel" "code" "I", .fieldLink RX4 29 "SteamBendsModel" "springs" "[D", .constantDouble RX4 106 (4620693217682128896), .methodLink RX4 47 yX4_isKind, .static yX4_isKind, .initialized RX4, .code yX4_isKind cX4_isKind 1 (some .boolean)] ++ wsX40)
def wsJ9_max_7cf53 : List Cond := .code yJ9_max_7cf53 cJ9_max_7cf53 2 (some .int) :: ([])
def wsL_table_r1 : List Cond := [Cond.classLink RL 13 "java/lang/IndexOutOfBoundsException", Cond.classLink RL 15 "java/lang/IllegalArgumentException", Cond.classLink RL 17 "java/lang/IllegalStateException", Cond.methodLink RL 7 yX3_table, Cond.instanceMethod yX3_table, Cond.selects RX3 yX3_table yX3_table, Cond.initialized RX3, Cond.code yX3_table cX3_table 8 (some .int), Cond.classLink RX3 49 "java/lang/IllegalArgumentException", Cond.initialized "java/lang/IllegalArgumentException", Cond.classLink RX3 66 "java/lang/IllegalStateException", Cond.initialized "java/lang/IllegalStateException", Cond.constantDouble RX3 35 (4593671619917905920), Cond.constantDouble RX3 37 (4652007308841189376), Cond.constantDouble RX3 43 (4666723172467343360), Cond.methodLink RX3 31 yX3_kindOf, Cond.instanceMethod yX3_kindOf, Cond.selects RX3 yX3_kindOf yX3_kindOf, Cond.code yX3_kindOf cX3_kindOf 3 (some (.object "SteamBends$Kind")), Cond.classLink RX3 111 "java/lang/IndexOutOfBoundsException", Cond.initialized "java/lang/IndexOutOfBoundsException", Cond.fieldLink RX3 11 "SteamBends" "kinds" "[LSteamBends$Kind;", Cond.methodLink RX3 39 yX3_isWithin, Cond.static yX3_isWithin]
def wsL_table_r2 : List Cond := [Cond.code yX3_isWithin cX3_isWithin 6 (some .boolean), Cond.methodLink RX3 45 yX0_isAboveRows, Cond.instanceMethod yX0_isAboveRows, Cond.selects RX0 yX0_isAboveRows yX0_isAboveRows, Cond.initialized RX0, Cond.code yX0_isAboveRows cX0_isAboveRows 3 (some .boolean), Cond.fieldLink RX0 14 "SteamBends$Kind" "rows" "LSteamBends$Pairs;", Cond.methodLink RX0 36 yX1_first, Cond.instanceMethod yX1_first, Cond.selects RX1 yX1_first yX1_first, Cond.initialized RX1, Cond.code yX1_first cX1_first 2 (some .double), Cond.fieldLink RX1 21 "SteamBends$Pairs" "firsts" "[D", Cond.methodLink RX1 28 yX1_isPlace, Cond.instanceMethod yX1_isPlace, Cond.selects RX1 yX1_isPlace yX1_isPlace, Cond.code yX1_isPlace cX1_isPlace 2 (some .boolean), Cond.fieldLink RX1 25 "SteamBends$Pairs" "seconds" "[D", Cond.methodLink RX3 60 yX1_add, Cond.instanceMethod yX1_add, Cond.selects RX1 yX1_add yX1_add, Cond.code yX1_add cX1_add 5 (some .int), Cond.fieldLink RX1 9 "SteamBends$Pairs" "count" "I"]
def wsL_table : List Cond := .codeWith yL_table cL_table 8 (some .int) [(0, 13, 16, 13), (0, 13, 20, 15), (0, 13, 24, 17)] :: ((wsL_table_r1 ++ wsL_table_r2) ++ wsX00 ++ wsX30 ++ wsX10 ++ (vx_atS RX3 53 "java/lang/IllegalArgumentException" ["java/lang/RuntimeException", "java/lang/Exception"]).filter goodWord ++ (vx_atS RX3 70 "java/lang/IllegalStateException" ["java/lang/RuntimeException", "java/lang/Exception"]).filter goodWord ++ (vx_atS RX3 115 "java/lang/IndexOutOfBoundsException" ["java/lang/RuntimeException", "java/lang/Exception"]).filter goodWord)
def wsL_radius_r1 : List Cond := [Cond.classLink RL 13 "java/lang/IndexOutOfBoundsException", Cond.classLink RL 15 "java/lang/IllegalArgumentException", Cond.classLink RL 17 "java/lang/IllegalStateException", Cond.methodLink RL 19 yX3_radius, Cond.instanceMethod yX3_radius, Cond.selects RX3 yX3_radius yX3_radius, Cond.initialized RX3, Cond.code yX3_radius cX3_radius 7 (some .double), Cond.classLink RX3 49 "java/lang/IllegalArgumentException", Cond.initialized "java/lang/IllegalArgumentException", Cond.classLink RX3 66 "java/lang/IllegalStateException", Cond.initialized "java/lang/IllegalStateException", Cond.constantDouble RX3 37 (4652007308841189376), Cond.methodLink RX3 31 yX3_kindOf, Cond.instanceMethod yX3_kindOf, Cond.selects RX3 yX3_kindOf yX3_kindOf, Cond.code yX3_kindOf cX3_kindOf 3 (some (.object "SteamBends$Kind")), Cond.classLink RX3 111 "java/lang/IndexOutOfBoundsException", Cond.initialized "java/lang/IndexOutOfBoundsException", Cond.fieldLink RX3 11 "SteamBends" "kinds" "[LSteamBends$Kind;", Cond.methodLink RX3 39 yX3_isWithin, Cond.static yX3_isWithin, Cond.code yX3_isWithin cX3_isWithin 6 (some .boolean), Cond.methodLink RX3 73 yX0_leastRadius]
def wsL_radius_r2 : List Cond := [Cond.instanceMethod yX0_leastRadius, Cond.selects RX0 yX0_leastRadius yX0_leastRadius, Cond.initialized RX0, Cond.code yX0_leastRadius cX0_leastRadius 4 (some .double), Cond.fieldLink RX0 14 "SteamBends$Kind" "rows" "LSteamBends$Pairs;", Cond.constantDouble RX0 43 (13830554455654793216), Cond.methodLink RX0 36 yX1_first, Cond.instanceMethod yX1_first, Cond.selects RX1 yX1_first yX1_first, Cond.initialized RX1, Cond.code yX1_first cX1_first 2 (some .double), Cond.fieldLink RX1 21 "SteamBends$Pairs" "firsts" "[D", Cond.methodLink RX1 28 yX1_isPlace, Cond.instanceMethod yX1_isPlace, Cond.selects RX1 yX1_isPlace yX1_isPlace, Cond.code yX1_isPlace cX1_isPlace 2 (some .boolean), Cond.fieldLink RX1 25 "SteamBends$Pairs" "seconds" "[D", Cond.methodLink RX0 40 yX1_second, Cond.instanceMethod yX1_second, Cond.selects RX1 yX1_second yX1_second, Cond.code yX1_second cX1_second 2 (some .double), Cond.methodLink RX0 45 yX0_radiusBetween, Cond.instanceMethod yX0_radiusBetween, Cond.selects RX0 yX0_radiusBetween yX0_radiusBetween]
def wsL_radius_r3 : List Cond := [Cond.code yX0_radiusBetween cX0_radiusBetween 13 (some .double), Cond.methodLink RX3 77 yX3_isNone, Cond.static yX3_isNone, Cond.code yX3_isNone cX3_isNone 2 (some .boolean)]
def wsL_radius : List Cond := .codeWith yL_radius cL_radius 6 (some .int) [(0, 10, 13, 13), (0, 10, 17, 15), (0, 10, 21, 17)] :: ((wsL_radius_r1 ++ (wsL_radius_r2 ++ wsL_radius_r3)) ++ wsX30 ++ wsX00 ++ wsX10 ++ (vx_atS RX3 53 "java/lang/IllegalArgumentException" ["java/lang/RuntimeException", "java/lang/Exception"]).filter goodWord ++ (vx_atS RX3 70 "java/lang/IllegalStateException" ["java/lang/RuntimeException", "java/lang/Exception"]).filter goodWord ++ (vx_atS RX3 115 "java/lang/IndexOutOfBoundsException" ["java/lang/RuntimeException", "java/lang/Exception"]).filter goodWord)
def wsL_strips_r1 : List Cond := [Cond.classLink RL 13 "java/lang/IndexOutOfBoundsException", Cond.classLink RL 15 "java/lang/IllegalArgumentException", Cond.methodLink RL 23 yX3_strips, Cond.instanceMethod yX3_strips, Cond.selects RX3 yX3_strips yX3_strips, Cond.initialized RX3, Cond.code yX3_strips cX3_strips 7 (some .int), Cond.classLink RX3 49 "java/lang/IllegalArgumentException", Cond.initialized "java/lang/IllegalArgumentException", Cond.constantDouble RX3 35 (4593671619917905920), Cond.constantDouble RX3 43 (4666723172467343360), Cond.methodLink RX3 31 yX3_kindOf, Cond.instanceMethod yX3_kindOf, Cond.selects RX3 yX3_kindOf yX3_kindOf, Cond.code yX3_kindOf cX3_kindOf 3 (some (.object "SteamBends$Kind")), Cond.classLink RX3 111 "java/lang/IndexOutOfBoundsException", Cond.initialized "java/lang/IndexOutOfBoundsException", Cond.fieldLink RX3 11 "SteamBends" "kinds" "[LSteamBends$Kind;", Cond.methodLink RX3 39 yX3_isWithin, Cond.static yX3_isWithin, Cond.code yX3_isWithin cX3_isWithin 6 (some .boolean), Cond.methodLink RX3 84 yX0_leastStrips, Cond.instanceMethod yX0_leastStrips, Cond.selects RX0 yX0_leastStrips yX0_leastStrips]
def wsL_strips_r2 : List Cond := [Cond.initialized RX0, Cond.code yX0_leastStrips cX0_leastStrips 8 (some .int), Cond.methodLink RX0 49 yX0_leastRadius, Cond.instanceMethod yX0_leastRadius, Cond.selects RX0 yX0_leastRadius yX0_leastRadius, Cond.code yX0_leastRadius cX0_leastRadius 4 (some .double), Cond.fieldLink RX0 14 "SteamBends$Kind" "rows" "LSteamBends$Pairs;", Cond.constantDouble RX0 43 (13830554455654793216), Cond.methodLink RX0 36 yX1_first, Cond.instanceMethod yX1_first, Cond.selects RX1 yX1_first yX1_first, Cond.initialized RX1, Cond.code yX1_first cX1_first 2 (some .double), Cond.fieldLink RX1 21 "SteamBends$Pairs" "firsts" "[D", Cond.methodLink RX1 28 yX1_isPlace, Cond.instanceMethod yX1_isPlace, Cond.selects RX1 yX1_isPlace yX1_isPlace, Cond.code yX1_isPlace cX1_isPlace 2 (some .boolean), Cond.fieldLink RX1 25 "SteamBends$Pairs" "seconds" "[D", Cond.methodLink RX0 40 yX1_second, Cond.instanceMethod yX1_second, Cond.selects RX1 yX1_second yX1_second, Cond.code yX1_second cX1_second 2 (some .double), Cond.methodLink RX0 45 yX0_radiusBetween]
def wsL_strips_r3 : List Cond := [Cond.instanceMethod yX0_radiusBetween, Cond.selects RX0 yX0_radiusBetween yX0_radiusBetween, Cond.code yX0_radiusBetween cX0_radiusBetween 13 (some .double), Cond.static yX3_isNone, Cond.code yX3_isNone cX3_isNone 2 (some .boolean)]
def wsL_strips : List Cond := .codeWith yL_strips cL_strips 8 (some .int) [(0, 13, 16, 13), (0, 13, 20, 15)] :: ((wsL_strips_r1 ++ (wsL_strips_r2 ++ wsL_strips_r3)) ++ wsX30 ++ wsX00 ++ wsX10 ++ (vx_atS RX3 53 "java/lang/IllegalArgumentException" ["java/lang/RuntimeException", "java/lang/Exception"]).filter goodWord ++ (vx_atS RX3 115 "java/lang/IndexOutOfBoundsException" ["java/lang/RuntimeException", "java/lang/Exception"]).filter goodWord)
def wsL_read_r1 : List Cond := [Cond.classLink RL 13 "java/lang/IndexOutOfBoundsException", Cond.classLink RL 15 "java/lang/IllegalArgumentException", Cond.classLink RL 17 "java/lang/IllegalStateException", Cond.methodLink RL 26 yX3_read, Cond.instanceMethod yX3_read, Cond.selects RX3 yX3_read yX3_read, Cond.initialized RX3, Cond.code yX3_read cX3_read 8 (some .int), Cond.classLink RX3 49 "java/lang/IllegalArgumentException", Cond.initialized "java/lang/IllegalArgumentException", Cond.classLink RX3 66 "java/lang/IllegalStateException", Cond.initialized "java/lang/IllegalStateException", Cond.constantDouble RX3 35 (4593671619917905920), Cond.constantDouble RX3 43 (4666723172467343360), Cond.constantDouble RX3 87 (4681608360884174848), Cond.methodLink RX3 31 yX3_kindOf, Cond.instanceMethod yX3_kindOf, Cond.selects RX3 yX3_kindOf yX3_kindOf, Cond.code yX3_kindOf cX3_kindOf 3 (some (.object "SteamBends$Kind")), Cond.classLink RX3 111 "java/lang/IndexOutOfBoundsException", Cond.initialized "java/lang/IndexOutOfBoundsException", Cond.fieldLink RX3 11 "SteamBends" "kinds" "[LSteamBends$Kind;", Cond.methodLink RX3 39 yX3_isWithin, Cond.static yX3_isWithin]
def wsL_read_r2 : List Cond := [Cond.code yX3_isWithin cX3_isWithin 6 (some .boolean), Cond.methodLink RX3 60 yX1_add, Cond.instanceMethod yX1_add, Cond.selects RX1 yX1_add yX1_add, Cond.initialized RX1, Cond.code yX1_add cX1_add 5 (some .int), Cond.fieldLink RX1 9 "SteamBends$Pairs" "count" "I", Cond.fieldLink RX1 21 "SteamBends$Pairs" "firsts" "[D", Cond.fieldLink RX1 25 "SteamBends$Pairs" "seconds" "[D", Cond.methodLink RX1 28 yX1_isPlace, Cond.instanceMethod yX1_isPlace, Cond.selects RX1 yX1_isPlace yX1_isPlace, Cond.code yX1_isPlace cX1_isPlace 2 (some .boolean)]
def wsL_read : List Cond := .codeWith yL_read cL_read 8 (some .int) [(0, 13, 16, 13), (0, 13, 20, 15), (0, 13, 24, 17)] :: ((wsL_read_r1 ++ wsL_read_r2) ++ wsX00 ++ wsX30 ++ wsX10 ++ (vx_atS RX3 53 "java/lang/IllegalArgumentException" ["java/lang/RuntimeException", "java/lang/Exception"]).filter goodWord ++ (vx_atS RX3 70 "java/lang/IllegalStateException" ["java/lang/RuntimeException", "java/lang/Exception"]).filter goodWord ++ (vx_atS RX3 115 "java/lang/IndexOutOfBoundsException" ["java/lang/RuntimeException", "java/lang/Exception"]).filter goodWord)
def wsL_fit_r1 : List Cond := [Cond.classLink RL 13 "java/lang/IndexOutOfBoundsException", Cond.classLink RL 15 "java/lang/IllegalArgumentException", Cond.methodLink RL 29 yX3_fit, Cond.instanceMethod yX3_fit, Cond.selects RX3 yX3_fit yX3_fit, Cond.initialized RX3, Cond.code yX3_fit cX3_fit 6 (some .int), Cond.classLink RX3 49 "java/lang/IllegalArgumentException", Cond.initialized "java/lang/IllegalArgumentException", Cond.methodLink RX3 31 yX3_kindOf, Cond.instanceMethod yX3_kindOf, Cond.selects RX3 yX3_kindOf yX3_kindOf, Cond.code yX3_kindOf cX3_kindOf 3 (some (.object "SteamBends$Kind")), Cond.classLink RX3 111 "java/lang/IndexOutOfBoundsException", Cond.initialized "java/lang/IndexOutOfBoundsException", Cond.fieldLink RX3 11 "SteamBends" "kinds" "[LSteamBends$Kind;", Cond.methodLink RX3 98 yX0_fitsBetter, Cond.instanceMethod yX0_fitsBetter, Cond.selects RX0 yX0_fitsBetter yX0_fitsBetter, Cond.initialized RX0, Cond.code yX0_fitsBetter cX0_fitsBetter 7 (some .boolean), Cond.fieldLink RX0 25 "SteamBends$Kind" "spring" "D", Cond.fieldLink RX0 29 "SteamBends$Kind" "step" "D", Cond.constantDouble RX0 60 (4611686018427387904)]
def wsL_fit_r2 : List Cond := [Cond.methodLink RX0 57 yX0_residue, Cond.instanceMethod yX0_residue, Cond.selects RX0 yX0_residue yX0_residue, Cond.code yX0_residue cX0_residue 8 (some .double), Cond.fieldLink RX0 20 "SteamBends$Kind" "readings" "LSteamBends$Pairs;", Cond.methodLink RX0 40 yX1_second, Cond.instanceMethod yX1_second, Cond.selects RX1 yX1_second yX1_second, Cond.initialized RX1, Cond.code yX1_second cX1_second 2 (some .double), Cond.fieldLink RX1 25 "SteamBends$Pairs" "seconds" "[D", Cond.methodLink RX1 28 yX1_isPlace, Cond.instanceMethod yX1_isPlace, Cond.selects RX1 yX1_isPlace yX1_isPlace, Cond.code yX1_isPlace cX1_isPlace 2 (some .boolean), Cond.fieldLink RX1 21 "SteamBends$Pairs" "firsts" "[D", Cond.methodLink RX0 36 yX1_first, Cond.instanceMethod yX1_first, Cond.selects RX1 yX1_first yX1_first, Cond.code yX1_first cX1_first 2 (some .double)]
def wsL_fit : List Cond := .codeWith yL_fit cL_fit 5 (some .int) [(0, 10, 13, 13), (0, 10, 17, 15)] :: ((wsL_fit_r1 ++ wsL_fit_r2) ++ wsX30 ++ wsX00 ++ wsX10 ++ (vx_atS RX3 53 "java/lang/IllegalArgumentException" ["java/lang/RuntimeException", "java/lang/Exception"]).filter goodWord ++ (vx_atS RX3 115 "java/lang/IndexOutOfBoundsException" ["java/lang/RuntimeException", "java/lang/Exception"]).filter goodWord)
def wsL_back_r1 : List Cond := [Cond.classLink RL 13 "java/lang/IndexOutOfBoundsException", Cond.methodLink RL 33 yX3_back, Cond.instanceMethod yX3_back, Cond.selects RX3 yX3_back yX3_back, Cond.initialized RX3, Cond.code yX3_back cX3_back 4 (some .double), Cond.classLink RX3 111 "java/lang/IndexOutOfBoundsException", Cond.initialized "java/lang/IndexOutOfBoundsException", Cond.methodLink RX3 31 yX3_kindOf, Cond.instanceMethod yX3_kindOf, Cond.selects RX3 yX3_kindOf yX3_kindOf, Cond.code yX3_kindOf cX3_kindOf 3 (some (.object "SteamBends$Kind")), Cond.fieldLink RX3 11 "SteamBends" "kinds" "[LSteamBends$Kind;", Cond.methodLink RX3 108 yX0_residue, Cond.instanceMethod yX0_residue, Cond.selects RX0 yX0_residue yX0_residue, Cond.initialized RX0, Cond.code yX0_residue cX0_residue 8 (some .double), Cond.fieldLink RX0 20 "SteamBends$Kind" "readings" "LSteamBends$Pairs;", Cond.methodLink RX0 40 yX1_second, Cond.instanceMethod yX1_second, Cond.selects RX1 yX1_second yX1_second, Cond.initialized RX1, Cond.code yX1_second cX1_second 2 (some .double)]
def wsL_back_r2 : List Cond := [Cond.fieldLink RX1 25 "SteamBends$Pairs" "seconds" "[D", Cond.methodLink RX1 28 yX1_isPlace, Cond.instanceMethod yX1_isPlace, Cond.selects RX1 yX1_isPlace yX1_isPlace, Cond.code yX1_isPlace cX1_isPlace 2 (some .boolean), Cond.fieldLink RX1 21 "SteamBends$Pairs" "firsts" "[D", Cond.methodLink RX0 36 yX1_first, Cond.instanceMethod yX1_first, Cond.selects RX1 yX1_first yX1_first, Cond.code yX1_first cX1_first 2 (some .double)]
def wsL_back : List Cond := .codeWith yL_back cL_back 5 (some .int) [(0, 9, 12, 13)] :: ((wsL_back_r1 ++ wsL_back_r2) ++ wsX00 ++ wsX30 ++ wsX10 ++ (vx_atS RX3 115 "java/lang/IndexOutOfBoundsException" ["java/lang/RuntimeException", "java/lang/Exception"]).filter goodWord)
def wsL_form_r1 : List Cond := [Cond.classLink RL 13 "java/lang/IndexOutOfBoundsException", Cond.classLink RL 15 "java/lang/IllegalArgumentException", Cond.methodLink RL 37 yX3_form, Cond.instanceMethod yX3_form, Cond.selects RX3 yX3_form yX3_form, Cond.initialized RX3, Cond.code yX3_form cX3_form 5 (some .double), Cond.classLink RX3 49 "java/lang/IllegalArgumentException", Cond.initialized "java/lang/IllegalArgumentException", Cond.constantDouble RX3 35 (4593671619917905920), Cond.constantDouble RX3 87 (4681608360884174848), Cond.methodLink RX3 31 yX3_kindOf, Cond.instanceMethod yX3_kindOf, Cond.selects RX3 yX3_kindOf yX3_kindOf, Cond.code yX3_kindOf cX3_kindOf 3 (some (.object "SteamBends$Kind")), Cond.classLink RX3 111 "java/lang/IndexOutOfBoundsException", Cond.initialized "java/lang/IndexOutOfBoundsException", Cond.fieldLink RX3 11 "SteamBends" "kinds" "[LSteamBends$Kind;", Cond.methodLink RX3 39 yX3_isWithin, Cond.static yX3_isWithin, Cond.code yX3_isWithin cX3_isWithin 6 (some .boolean), Cond.methodLink RX3 118 yX0_formFor, Cond.instanceMethod yX0_formFor, Cond.selects RX0 yX0_formFor yX0_formFor]
def wsL_form_r2 : List Cond := [Cond.initialized RX0, Cond.code yX0_formFor cX0_formFor 10 (some .double), Cond.constantDouble RX0 60 (4611686018427387904), Cond.fieldLink RX0 25 "SteamBends$Kind" "spring" "D"]
def wsL_form : List Cond := .codeWith yL_form cL_form 6 (some .int) [(0, 10, 13, 13), (0, 10, 17, 15)] :: ((wsL_form_r1 ++ wsL_form_r2) ++ wsX30 ++ wsX00 ++ (vx_atS RX3 53 "java/lang/IllegalArgumentException" ["java/lang/RuntimeException", "java/lang/Exception"]).filter goodWord ++ (vx_atS RX3 115 "java/lang/IndexOutOfBoundsException" ["java/lang/RuntimeException", "java/lang/Exception"]).filter goodWord)
def wsL_minutes : List Cond := .codeWith yL_minutes cL_minutes 5 (some .int) [(0, 8, 11, 15)] :: ([.classLink RL 15 "java/lang/IllegalArgumentException", .methodLink RL 40 yX3_minutes, .instanceMethod yX3_minutes, .selects RX3 yX3_minutes yX3_minutes, .initialized RX3, .code yX3_minutes cX3_minutes 5 (some .double), .classLink RX3 49 "java/lang/IllegalArgumentException", .initialized "java/lang/IllegalArgumentException", .constantDouble RX3 37 (4652007308841189376), .constantDouble RX3 121 (4612811918334230528), .constantDouble RX3 123 (4632233691727265792), .constantDouble RX3 125 (4626322717216342016), .methodLink RX3 39 yX3_isWithin, .static yX3_isWithin, .code yX3_isWithin cX3_isWithin 6 (some .boolean)] ++ (vx_atS RX3 53 "java/lang/IllegalArgumentException" ["java/lang/RuntimeException", "java/lang/Exception"]).filter goodWord)
def wsL_piece_r1 : List Cond := [Cond.classLink RL 15 "java/lang/IllegalArgumentException", Cond.classLink RL 17 "java/lang/IllegalStateException", Cond.methodLink RL 44 yX3_piece, Cond.instanceMethod yX3_piece, Cond.selects RX3 yX3_piece yX3_piece, Cond.initialized RX3, Cond.code yX3_piece cX3_piece 6 (some .int), Cond.classLink RX3 49 "java/lang/IllegalArgumentException", Cond.initialized "java/lang/IllegalArgumentException", Cond.classLink RX3 66 "java/lang/IllegalStateException", Cond.initialized "java/lang/IllegalStateException", Cond.constantDouble RX3 43 (4666723172467343360), Cond.fieldLink RX3 18 "SteamBends" "shape" "LSteamBends$Shape;", Cond.methodLink RX3 39 yX3_isWithin, Cond.static yX3_isWithin, Cond.code yX3_isWithin cX3_isWithin 6 (some .boolean), Cond.methodLink RX3 60 yX1_add, Cond.instanceMethod yX1_add, Cond.selects RX1 yX1_add yX1_add, Cond.initialized RX1, Cond.code yX1_add cX1_add 5 (some .int), Cond.fieldLink RX1 9 "SteamBends$Pairs" "count" "I", Cond.fieldLink RX1 21 "SteamBends$Pairs" "firsts" "[D", Cond.fieldLink RX1 25 "SteamBends$Pairs" "seconds" "[D"]
def wsL_piece_r2 : List Cond := [Cond.methodLink RX1 28 yX1_isPlace, Cond.instanceMethod yX1_isPlace, Cond.selects RX1 yX1_isPlace yX1_isPlace, Cond.code yX1_isPlace cX1_isPlace 2 (some .boolean)]
def wsL_piece : List Cond := .codeWith yL_piece cL_piece 7 (some .int) [(0, 11, 14, 15), (0, 11, 18, 17)] :: ((wsL_piece_r1 ++ wsL_piece_r2) ++ wsX30 ++ wsX20 ++ wsX10 ++ (vx_atS RX3 53 "java/lang/IllegalArgumentException" ["java/lang/RuntimeException", "java/lang/Exception"]).filter goodWord ++ (vx_atS RX3 70 "java/lang/IllegalStateException" ["java/lang/RuntimeException", "java/lang/Exception"]).filter goodWord)
def wsL_length_r1 : List Cond := [Cond.classLink RL 15 "java/lang/IllegalArgumentException", Cond.methodLink RL 48 yX3_length, Cond.instanceMethod yX3_length, Cond.selects RX3 yX3_length yX3_length, Cond.initialized RX3, Cond.code yX3_length cX3_length 4 (some .double), Cond.classLink RX3 49 "java/lang/IllegalArgumentException", Cond.initialized "java/lang/IllegalArgumentException", Cond.constantDouble RX3 37 (4652007308841189376), Cond.fieldLink RX3 18 "SteamBends" "shape" "LSteamBends$Shape;", Cond.methodLink RX3 39 yX3_isWithin, Cond.static yX3_isWithin, Cond.code yX3_isWithin cX3_isWithin 6 (some .boolean), Cond.methodLink RX3 137 yX2_isBendable, Cond.instanceMethod yX2_isBendable, Cond.selects RX2 yX2_isBendable yX2_isBendable, Cond.initialized RX2, Cond.code yX2_isBendable cX2_isBendable 6 (some .boolean), Cond.fieldLink RX2 14 "SteamBends$Shape" "pieces" "LSteamBends$Pairs;", Cond.constantDouble RX2 28 (4611686018427387904), Cond.methodLink RX2 24 yX1_second, Cond.instanceMethod yX1_second, Cond.selects RX1 yX1_second yX1_second, Cond.initialized RX1]
def wsL_length_r2 : List Cond := [Cond.code yX1_second cX1_second 2 (some .double), Cond.fieldLink RX1 25 "SteamBends$Pairs" "seconds" "[D", Cond.methodLink RX1 28 yX1_isPlace, Cond.instanceMethod yX1_isPlace, Cond.selects RX1 yX1_isPlace yX1_isPlace, Cond.code yX1_isPlace cX1_isPlace 2 (some .boolean), Cond.fieldLink RX1 21 "SteamBends$Pairs" "firsts" "[D", Cond.methodLink RX3 142 yX2_sumOfLengths, Cond.instanceMethod yX2_sumOfLengths, Cond.selects RX2 yX2_sumOfLengths yX2_sumOfLengths, Cond.code yX2_sumOfLengths cX2_sumOfLengths 7 (some .double), Cond.methodLink RX2 30 yX2_lengthOf, Cond.instanceMethod yX2_lengthOf, Cond.selects RX2 yX2_lengthOf yX2_lengthOf, Cond.code yX2_lengthOf cX2_lengthOf 11 (some .double), Cond.methodLink RX2 34 yX1_first, Cond.instanceMethod yX1_first, Cond.selects RX1 yX1_first yX1_first, Cond.code yX1_first cX1_first 2 (some .double)]
def wsL_length : List Cond := .codeWith yL_length cL_length 6 (some .int) [(0, 10, 13, 15)] :: ((wsL_length_r1 ++ wsL_length_r2) ++ wsX30 ++ wsX20 ++ wsX10 ++ (vx_atS RX3 53 "java/lang/IllegalArgumentException" ["java/lang/RuntimeException", "java/lang/Exception"]).filter goodWord)
def wsL_kerfs : List Cond := .codeWith yL_kerfs cL_kerfs 11 (some .int) [(0, 15, 18, 15)] :: ([.classLink RL 15 "java/lang/IllegalArgumentException", .methodLink RL 52 yX3_kerfs, .instanceMethod yX3_kerfs, .selects RX3 yX3_kerfs yX3_kerfs, .initialized RX3, .code yX3_kerfs cX3_kerfs 11 (some .int), .classLink RX3 49 "java/lang/IllegalArgumentException", .initialized "java/lang/IllegalArgumentException", .constantDouble RX3 146 (4645040803167600640), .constantDouble RX3 37 (4652007308841189376), .constantDouble RX3 35 (4593671619917905920), .constantDouble RX3 148 (4636737291354636288), .constantDouble RX3 152 (4633260481411531256), .fieldLink RX3 22 "SteamBends" "kerfCount" "I", .fieldLink RX3 26 "SteamBends" "kerfRest" "D", .methodLink RX3 39 yX3_isWithin, .static yX3_isWithin, .code yX3_isWithin cX3_isWithin 6 (some .boolean), .methodLink RX3 154 yX3_leastKerfs, .static yX3_leastKerfs, .code yX3_leastKerfs cX3_leastKerfs 6 (some .int), .constant RX3 178 (32768)] ++ wsX30 ++ (vx_atS RX3 53 "java/lang/IllegalArgumentException" ["java/lang/RuntimeException", "java/lang/Exception"]).filter goodWord)
def wsL_kerfAt : List Cond := .codeWith yL_kerfAt cL_kerfAt 6 (some .int) [(0, 10, 13, 17), (0, 10, 17, 13), (0, 10, 21, 15)] :: ([.classLink RL 17 "java/lang/IllegalStateException", .classLink RL 13 "java/lang/IndexOutOfBoundsException", .classLink RL 15 "java/lang/IllegalArgumentException", .methodLink RL 56 yX3_kerfAt, .instanceMethod yX3_kerfAt, .selects RX3 yX3_kerfAt yX3_kerfAt, .initialized RX3, .code yX3_kerfAt cX3_kerfAt 4 (some .double), .classLink RX3 66 "java/lang/IllegalStateException", .initialized "java/lang/IllegalStateException", .classLink RX3 111 "java/lang/IndexOutOfBoundsException", .initialized "java/lang/IndexOutOfBoundsException", .classLink RX3 49 "java/lang/IllegalArgumentException", .initialized "java/lang/IllegalArgumentException", .fieldLink RX3 22 "SteamBends" "kerfCount" "I", .constantDouble RX3 43 (4666723172467343360), .methodLink RX3 39 yX3_isWithin, .static yX3_isWithin, .code yX3_isWithin cX3_isWithin 6 (some .boolean)] ++ wsX30 ++ (vx_atS RX3 70 "java/lang/IllegalStateException" ["java/lang/RuntimeException", "java/lang/Exception"]).filter goodWord ++ (vx_atS RX3 115 "java/lang/IndexOutOfBoundsException" ["java/lang/RuntimeException", "java/lang/Exception"]).filter goodWord ++ (vx_atS RX3 53 "java/lang/IllegalArgumentException" ["java/lang/RuntimeException", "java/lang/Exception"]).filter goodWord)
def wsL_rest : List Cond := .codeWith yL_rest cL_rest 3 (some .int) [(0, 7, 10, 17)] :: ([.classLink RL 17 "java/lang/IllegalStateException", .methodLink RL 59 yX3_rest, .instanceMethod yX3_rest, .selects RX3 yX3_rest yX3_rest, .initialized RX3, .code yX3_rest cX3_rest 1 (some .double), .classLink RX3 66 "java/lang/IllegalStateException", .initialized "java/lang/IllegalStateException", .fieldLink RX3 22 "SteamBends" "kerfCount" "I", .fieldLink RX3 26 "SteamBends" "kerfRest" "D"] ++ wsX30 ++ (vx_atS RX3 70 "java/lang/IllegalStateException" ["java/lang/RuntimeException", "java/lang/Exception"]).filter goodWord)
def wsL_broken : List Cond := .codeWith yL_broken cL_broken 6 (some .int) [(0, 11, 14, 13), (0, 11, 18, 15)] :: ([.classLink RL 13 "java/lang/IndexOutOfBoundsException", .classLink RL 15 "java/lang/IllegalArgumentException", .methodLink RL 63 yX3_broken, .instanceMethod yX3_broken, .selects RX3 yX3_broken yX3_broken, .initialized RX3, .code yX3_broken cX3_broken 8 (some .long), .classLink RX3 111 "java/lang/IndexOutOfBoundsException", .initialized "java/lang/IndexOutOfBoundsException", .classLink RX3 49 "java/lang/IllegalArgumentException", .initialized "java/lang/IllegalArgumentException", .constant RX3 165 (1000000), .methodLink RX3 168 yX3_commonDivisor, .static yX3_commonDivisor, .code yX3_commonDivisor cX3_commonDivisor 6 (some .int)] ++ (vx_atS RX3 115 "java/lang/IndexOutOfBoundsException" ["java/lang/RuntimeException", "java/lang/Exception"]).filter goodWord ++ (vx_atS RX3 53 "java/lang/IllegalArgumentException" ["java/lang/RuntimeException", "java/lang/Exception"]).filter goodWord)
def wsL_relaxed : List Cond := .codeWith yL_relaxed cL_relaxed 5 (some .int) [(0, 9, 12, 13), (0, 9, 16, 15)] :: ([.classLink RL 13 "java/lang/IndexOutOfBoundsException", .classLink RL 15 "java/lang/IllegalArgumentException", .methodLink RL 67 yX3_relaxed, .instanceMethod yX3_relaxed, .selects RX3 yX3_relaxed yX3_relaxed, .initialized RX3, .code yX3_relaxed cX3_relaxed 4 (some .double), .classLink RX3 49 "java/lang/IllegalArgumentException", .initialized "java/lang/IllegalArgumentException", .constantDouble RX3 174 (4620693217682128896), .methodLink RX3 31 yX3_kindOf, .instanceMethod yX3_kindOf, .selects RX3 yX3_kindOf yX3_kindOf, .code yX3_kindOf cX3_kindOf 3 (some (.object "SteamBends$Kind")), .classLink RX3 111 "java/lang/IndexOutOfBoundsException", .initialized "java/lang/IndexOutOfBoundsException", .fieldLink RX3 11 "SteamBends" "kinds" "[LSteamBends$Kind;"] ++ wsX00 ++ wsX30 ++ (vx_atS RX3 53 "java/lang/IllegalArgumentException" ["java/lang/RuntimeException", "java/lang/Exception"]).filter goodWord ++ (vx_atS RX3 115 "java/lang/IndexOutOfBoundsException" ["java/lang/RuntimeException", "java/lang/Exception"]).filter goodWord)
def wsL_law0_r1 : List Cond := [Cond.classLink RL 8 RX3, Cond.instantiable RX3 4, Cond.initialized RX3, Cond.classLink RL 71 RX4, Cond.instantiable RX4 15, Cond.initialized RX4, Cond.arrayClass .long, Cond.arrayClass .double, Cond.constantDouble RL 74 (4593671619917905920), Cond.methodLink RL 70 yX3_init, Cond.instanceMethod yX3_init, Cond.code yX3_init cX3_init 2 none, Cond.methodLink RX3 1 objectInit, Cond.instanceMethod objectInit, Cond.code objectInit ⟨#[0xb1]⟩ 1 none, Cond.classLink RX3 9 RX0, Cond.fieldLink RX3 11 "SteamBends" "kinds" "[LSteamBends$Kind;", Cond.classLink RX3 15 RX2, Cond.instantiable RX2 1, Cond.initialized RX2, Cond.fieldLink RX3 18 "SteamBends" "shape" "LSteamBends$Shape;", Cond.fieldLink RX3 22 "SteamBends" "kerfCount" "I", Cond.fieldLink RX3 26 "SteamBends" "kerfRest" "D", Cond.instantiable RX0 4]
def wsL_law0_r2 : List Cond := [Cond.initialized RX0, Cond.instanceMethod yX2_init, Cond.code yX2_init cX2_init 1 none, Cond.methodLink RX2 3 objectInit, Cond.classLink RX2 9 RX1, Cond.instantiable RX1 3, Cond.initialized RX1, Cond.fieldLink RX2 14 "SteamBends$Shape" "pieces" "LSteamBends$Pairs;", Cond.methodLink RX2 11 yX1_init, Cond.instanceMethod yX1_init, Cond.code yX1_init cX1_init 3 none, Cond.methodLink RX1 3 objectInit, Cond.fieldLink RX1 9 "SteamBends$Pairs" "count" "I", Cond.methodLink RX1 15 Lib.Math.max.name, Cond.static Lib.Math.max.name, Cond.initialized "java/lang/Math", Cond.code Lib.Math.max.name Lib.Math.max.code 2 (some .int), Cond.fieldLink RX1 21 "SteamBends$Pairs" "firsts" "[D", Cond.fieldLink RX1 25 "SteamBends$Pairs" "seconds" "[D", Cond.instanceMethod yX0_init, Cond.code yX0_init cX0_init 1 none, Cond.methodLink RX0 3 objectInit, Cond.classLink RX0 9 RX1, Cond.fieldLink RX0 14 "SteamBends$Kind" "rows" "LSteamBends$Pairs;"]
def wsL_law0_r3 : List Cond := [Cond.fieldLink RX0 20 "SteamBends$Kind" "readings" "LSteamBends$Pairs;", Cond.constantDouble RX0 23 (4598175219545276416), Cond.fieldLink RX0 25 "SteamBends$Kind" "spring" "D", Cond.fieldLink RX0 29 "SteamBends$Kind" "step" "D", Cond.methodLink RX0 11 yX1_init, Cond.methodLink RL 73 yX4_init, Cond.instanceMethod yX4_init, Cond.code yX4_init cX4_init 2 none, Cond.methodLink RX4 1 objectInit, Cond.arrayClass .int, Cond.fieldLink RX4 7 "SteamBendsModel" "rows" "[I", Cond.fieldLink RX4 13 "SteamBendsModel" "thicks" "[D", Cond.fieldLink RX4 17 "SteamBendsModel" "radii" "[D", Cond.fieldLink RX4 20 "SteamBendsModel" "readings" "[I", Cond.fieldLink RX4 23 "SteamBendsModel" "bents" "[D", Cond.fieldLink RX4 26 "SteamBendsModel" "kepts" "[D", Cond.fieldLink RX4 29 "SteamBendsModel" "springs" "[D", Cond.fieldLink RX4 32 "SteamBendsModel" "steps" "[D", Cond.fieldLink RX4 35 "SteamBendsModel" "lengths" "[D", Cond.fieldLink RX4 38 "SteamBendsModel" "bends" "[D", Cond.constantDouble RX4 41 (4598175219545276416), Cond.methodLink RL 76 yL_table, Cond.static yL_table, Cond.initialized RL]
def wsL_law0_r4 : List Cond := [Cond.codeWith yL_table cL_table 8 (some .int) [(0, 13, 16, 13), (0, 13, 20, 15), (0, 13, 24, 17)], Cond.classLink RL 13 "java/lang/IndexOutOfBoundsException", Cond.classLink RL 15 "java/lang/IllegalArgumentException", Cond.classLink RL 17 "java/lang/IllegalStateException", Cond.methodLink RL 7 yX3_table, Cond.instanceMethod yX3_table, Cond.selects RX3 yX3_table yX3_table, Cond.code yX3_table cX3_table 8 (some .int), Cond.classLink RX3 49 "java/lang/IllegalArgumentException", Cond.initialized "java/lang/IllegalArgumentException", Cond.classLink RX3 66 "java/lang/IllegalStateException", Cond.initialized "java/lang/IllegalStateException", Cond.constantDouble RX3 35 (4593671619917905920), Cond.constantDouble RX3 37 (4652007308841189376), Cond.constantDouble RX3 43 (4666723172467343360), Cond.methodLink RX3 31 yX3_kindOf, Cond.instanceMethod yX3_kindOf, Cond.selects RX3 yX3_kindOf yX3_kindOf, Cond.code yX3_kindOf cX3_kindOf 3 (some (.object "SteamBends$Kind")), Cond.classLink RX3 111 "java/lang/IndexOutOfBoundsException", Cond.initialized "java/lang/IndexOutOfBoundsException", Cond.methodLink RX3 39 yX3_isWithin, Cond.static yX3_isWithin, Cond.code yX3_isWithin cX3_isWithin 6 (some .boolean)]
def wsL_law0_r5 : List Cond := [Cond.methodLink RX3 45 yX0_isAboveRows, Cond.instanceMethod yX0_isAboveRows, Cond.selects RX0 yX0_isAboveRows yX0_isAboveRows, Cond.code yX0_isAboveRows cX0_isAboveRows 3 (some .boolean), Cond.methodLink RX0 36 yX1_first, Cond.instanceMethod yX1_first, Cond.selects RX1 yX1_first yX1_first, Cond.code yX1_first cX1_first 2 (some .double), Cond.methodLink RX1 28 yX1_isPlace, Cond.instanceMethod yX1_isPlace, Cond.selects RX1 yX1_isPlace yX1_isPlace, Cond.code yX1_isPlace cX1_isPlace 2 (some .boolean), Cond.methodLink RX3 60 yX1_add, Cond.instanceMethod yX1_add, Cond.selects RX1 yX1_add yX1_add, Cond.code yX1_add cX1_add 5 (some .int), Cond.methodLink RL 81 yX4_table, Cond.instanceMethod yX4_table, Cond.selects RX4 yX4_table yX4_table, Cond.code yX4_table cX4_table 8 (some .int), Cond.fieldLink RX4 43 "SteamBendsModel" "code" "I", Cond.constantDouble RX4 51 (4593671619917905920), Cond.constantDouble RX4 53 (4652007308841189376), Cond.constantDouble RX4 59 (4666723172467343360)]
def wsL_law0_r6 : List Cond := [Cond.methodLink RX4 47 yX4_isKind, Cond.static yX4_isKind, Cond.code yX4_isKind cX4_isKind 1 (some .boolean), Cond.methodLink RX4 55 yX4_isIn, Cond.static yX4_isIn, Cond.code yX4_isIn cX4_isIn 6 (some .boolean), Cond.methodLink RL 82 yX4_thrown, Cond.instanceMethod yX4_thrown, Cond.selects RX4 yX4_thrown yX4_thrown, Cond.code yX4_thrown cX4_thrown 1 (some .int), Cond.methodLink RL 86 yL_radius, Cond.static yL_radius, Cond.codeWith yL_radius cL_radius 6 (some .int) [(0, 10, 13, 13), (0, 10, 17, 15), (0, 10, 21, 17)], Cond.methodLink RL 19 yX3_radius, Cond.instanceMethod yX3_radius, Cond.selects RX3 yX3_radius yX3_radius, Cond.code yX3_radius cX3_radius 7 (some .double), Cond.methodLink RX3 73 yX0_leastRadius, Cond.instanceMethod yX0_leastRadius, Cond.selects RX0 yX0_leastRadius yX0_leastRadius, Cond.code yX0_leastRadius cX0_leastRadius 4 (some .double), Cond.constantDouble RX0 43 (13830554455654793216), Cond.methodLink RX0 40 yX1_second, Cond.instanceMethod yX1_second]
def wsL_law0_r7 : List Cond := [Cond.selects RX1 yX1_second yX1_second, Cond.code yX1_second cX1_second 2 (some .double), Cond.methodLink RX0 45 yX0_radiusBetween, Cond.instanceMethod yX0_radiusBetween, Cond.selects RX0 yX0_radiusBetween yX0_radiusBetween, Cond.code yX0_radiusBetween cX0_radiusBetween 13 (some .double), Cond.methodLink RX3 77 yX3_isNone, Cond.static yX3_isNone, Cond.code yX3_isNone cX3_isNone 2 (some .boolean), Cond.methodLink RL 89 yX4_radius, Cond.instanceMethod yX4_radius, Cond.selects RX4 yX4_radius yX4_radius, Cond.code yX4_radius cX4_radius 6 (some .double), Cond.fieldLink RX4 61 "SteamBendsModel" "isFound" "Z", Cond.methodLink RX4 65 yX4_radiusAt, Cond.instanceMethod yX4_radiusAt, Cond.selects RX4 yX4_radiusAt yX4_radiusAt, Cond.code yX4_radiusAt cX4_radiusAt 7 (some .double), Cond.methodLink RL 90 yL_strips, Cond.static yL_strips, Cond.codeWith yL_strips cL_strips 8 (some .int) [(0, 13, 16, 13), (0, 13, 20, 15)], Cond.methodLink RL 23 yX3_strips, Cond.instanceMethod yX3_strips, Cond.selects RX3 yX3_strips yX3_strips]
def wsL_law0_r8 : List Cond := [Cond.code yX3_strips cX3_strips 7 (some .int), Cond.methodLink RX3 84 yX0_leastStrips, Cond.instanceMethod yX0_leastStrips, Cond.selects RX0 yX0_leastStrips yX0_leastStrips, Cond.code yX0_leastStrips cX0_leastStrips 8 (some .int), Cond.methodLink RX0 49 yX0_leastRadius, Cond.methodLink RL 92 yX4_strips, Cond.instanceMethod yX4_strips, Cond.selects RX4 yX4_strips yX4_strips, Cond.code yX4_strips cX4_strips 9 (some .int), Cond.methodLink RL 93 yL_read, Cond.static yL_read, Cond.codeWith yL_read cL_read 8 (some .int) [(0, 13, 16, 13), (0, 13, 20, 15), (0, 13, 24, 17)], Cond.methodLink RL 26 yX3_read, Cond.instanceMethod yX3_read, Cond.selects RX3 yX3_read yX3_read, Cond.code yX3_read cX3_read 8 (some .int), Cond.constantDouble RX3 87 (4681608360884174848), Cond.methodLink RL 95 yX4_read, Cond.instanceMethod yX4_read, Cond.selects RX4 yX4_read yX4_read, Cond.code yX4_read cX4_read 7 (some .int), Cond.constantDouble RX4 69 (4681608360884174848), Cond.methodLink RL 96 yL_fit]
def wsL_law0_r9 : List Cond := [Cond.static yL_fit, Cond.codeWith yL_fit cL_fit 5 (some .int) [(0, 10, 13, 13), (0, 10, 17, 15)], Cond.methodLink RL 29 yX3_fit, Cond.instanceMethod yX3_fit, Cond.selects RX3 yX3_fit yX3_fit, Cond.code yX3_fit cX3_fit 6 (some .int), Cond.methodLink RX3 98 yX0_fitsBetter, Cond.instanceMethod yX0_fitsBetter, Cond.selects RX0 yX0_fitsBetter yX0_fitsBetter, Cond.code yX0_fitsBetter cX0_fitsBetter 7 (some .boolean), Cond.constantDouble RX0 60 (4611686018427387904), Cond.methodLink RX0 57 yX0_residue, Cond.instanceMethod yX0_residue, Cond.selects RX0 yX0_residue yX0_residue, Cond.code yX0_residue cX0_residue 8 (some .double), Cond.methodLink RL 99 yX4_fit, Cond.instanceMethod yX4_fit, Cond.selects RX4 yX4_fit yX4_fit, Cond.code yX4_fit cX4_fit 5 (some .int), Cond.methodLink RX4 76 yX4_improves, Cond.instanceMethod yX4_improves, Cond.selects RX4 yX4_improves yX4_improves, Cond.code yX4_improves cX4_improves 8 (some .boolean), Cond.constantDouble RX4 74 (4611686018427387904)]
def wsL_law0_r10 : List Cond := [Cond.methodLink RX4 71 yX4_residue, Cond.instanceMethod yX4_residue, Cond.selects RX4 yX4_residue yX4_residue, Cond.code yX4_residue cX4_residue 9 (some .double), Cond.methodLink RL 100 yL_back, Cond.static yL_back, Cond.codeWith yL_back cL_back 5 (some .int) [(0, 9, 12, 13)], Cond.methodLink RL 33 yX3_back, Cond.instanceMethod yX3_back, Cond.selects RX3 yX3_back yX3_back, Cond.code yX3_back cX3_back 4 (some .double), Cond.methodLink RX3 108 yX0_residue, Cond.methodLink RL 103 yX4_back, Cond.instanceMethod yX4_back, Cond.selects RX4 yX4_back yX4_back, Cond.code yX4_back cX4_back 3 (some .double), Cond.methodLink RL 104 yL_form, Cond.static yL_form, Cond.codeWith yL_form cL_form 6 (some .int) [(0, 10, 13, 13), (0, 10, 17, 15)], Cond.methodLink RL 37 yX3_form, Cond.instanceMethod yX3_form, Cond.selects RX3 yX3_form yX3_form, Cond.code yX3_form cX3_form 5 (some .double), Cond.methodLink RX3 118 yX0_formFor]
def wsL_law0_r11 : List Cond := [Cond.instanceMethod yX0_formFor, Cond.selects RX0 yX0_formFor yX0_formFor, Cond.code yX0_formFor cX0_formFor 10 (some .double), Cond.methodLink RL 106 yX4_form, Cond.instanceMethod yX4_form, Cond.selects RX4 yX4_form yX4_form, Cond.code yX4_form cX4_form 12 (some .double), Cond.methodLink RL 107 yL_minutes, Cond.static yL_minutes, Cond.codeWith yL_minutes cL_minutes 5 (some .int) [(0, 8, 11, 15)], Cond.methodLink RL 40 yX3_minutes, Cond.instanceMethod yX3_minutes, Cond.selects RX3 yX3_minutes yX3_minutes, Cond.code yX3_minutes cX3_minutes 5 (some .double), Cond.constantDouble RX3 121 (4612811918334230528), Cond.constantDouble RX3 123 (4632233691727265792), Cond.constantDouble RX3 125 (4626322717216342016), Cond.methodLink RL 110 yX4_minutes, Cond.instanceMethod yX4_minutes, Cond.selects RX4 yX4_minutes yX4_minutes, Cond.code yX4_minutes cX4_minutes 3 (some .double), Cond.constantDouble RX4 79 (4632233691727265792), Cond.constantDouble RX4 81 (4612811918334230528), Cond.constantDouble RX4 83 (4626322717216342016)]
def wsL_law0_r12 : List Cond := [Cond.methodLink RL 111 yL_piece, Cond.static yL_piece, Cond.codeWith yL_piece cL_piece 7 (some .int) [(0, 11, 14, 15), (0, 11, 18, 17)], Cond.methodLink RL 44 yX3_piece, Cond.instanceMethod yX3_piece, Cond.selects RX3 yX3_piece yX3_piece, Cond.code yX3_piece cX3_piece 6 (some .int), Cond.methodLink RL 114 yX4_piece, Cond.instanceMethod yX4_piece, Cond.selects RX4 yX4_piece yX4_piece, Cond.code yX4_piece cX4_piece 5 (some .int), Cond.fieldLink RX4 85 "SteamBendsModel" "pieces" "I", Cond.methodLink RL 115 yX3_clear, Cond.instanceMethod yX3_clear, Cond.selects RX3 yX3_clear yX3_clear, Cond.code yX3_clear cX3_clear 1 none, Cond.methodLink RX3 134 yX1_removeAll, Cond.instanceMethod yX1_removeAll, Cond.selects RX1 yX1_removeAll yX1_removeAll, Cond.code yX1_removeAll cX1_removeAll 1 none, Cond.methodLink RL 118 yX4_clear, Cond.instanceMethod yX4_clear, Cond.selects RX4 yX4_clear yX4_clear, Cond.code yX4_clear cX4_clear 1 none]
def wsL_law0_r13 : List Cond := [Cond.methodLink RL 119 yL_length, Cond.static yL_length, Cond.codeWith yL_length cL_length 6 (some .int) [(0, 10, 13, 15)], Cond.methodLink RL 48 yX3_length, Cond.instanceMethod yX3_length, Cond.selects RX3 yX3_length yX3_length, Cond.code yX3_length cX3_length 4 (some .double), Cond.methodLink RX3 137 yX2_isBendable, Cond.instanceMethod yX2_isBendable, Cond.selects RX2 yX2_isBendable yX2_isBendable, Cond.code yX2_isBendable cX2_isBendable 6 (some .boolean), Cond.constantDouble RX2 28 (4611686018427387904), Cond.methodLink RX2 24 yX1_second, Cond.methodLink RX3 142 yX2_sumOfLengths, Cond.instanceMethod yX2_sumOfLengths, Cond.selects RX2 yX2_sumOfLengths yX2_sumOfLengths, Cond.code yX2_sumOfLengths cX2_sumOfLengths 7 (some .double), Cond.methodLink RX2 30 yX2_lengthOf, Cond.instanceMethod yX2_lengthOf, Cond.selects RX2 yX2_lengthOf yX2_lengthOf, Cond.code yX2_lengthOf cX2_lengthOf 11 (some .double), Cond.methodLink RX2 34 yX1_first, Cond.methodLink RL 122 yX4_length, Cond.instanceMethod yX4_length]
def wsL_law0_r14 : List Cond := [Cond.selects RX4 yX4_length yX4_length, Cond.code yX4_length cX4_length 12 (some .double), Cond.methodLink RL 123 yL_kerfs, Cond.static yL_kerfs, Cond.codeWith yL_kerfs cL_kerfs 11 (some .int) [(0, 15, 18, 15)], Cond.methodLink RL 52 yX3_kerfs, Cond.instanceMethod yX3_kerfs, Cond.selects RX3 yX3_kerfs yX3_kerfs, Cond.code yX3_kerfs cX3_kerfs 11 (some .int), Cond.constantDouble RX3 146 (4645040803167600640), Cond.constantDouble RX3 148 (4636737291354636288), Cond.constantDouble RX3 152 (4633260481411531256), Cond.methodLink RX3 154 yX3_leastKerfs, Cond.static yX3_leastKerfs, Cond.code yX3_leastKerfs cX3_leastKerfs 6 (some .int), Cond.constant RX3 178 (32768), Cond.methodLink RL 126 yX4_kerfs, Cond.instanceMethod yX4_kerfs, Cond.selects RX4 yX4_kerfs yX4_kerfs, Cond.code yX4_kerfs cX4_kerfs 13 (some .int), Cond.constantDouble RX4 88 (4645040803167600640), Cond.constantDouble RX4 90 (4636737291354636288), Cond.constantDouble RX4 92 (4633260481411531256), Cond.fieldLink RX4 94 "SteamBendsModel" "cuts" "I"]
def wsL_law0_r15 : List Cond := [Cond.fieldLink RX4 97 "SteamBendsModel" "over" "D", Cond.methodLink RL 127 yL_kerfAt, Cond.static yL_kerfAt, Cond.codeWith yL_kerfAt cL_kerfAt 6 (some .int) [(0, 10, 13, 17), (0, 10, 17, 13), (0, 10, 21, 15)], Cond.methodLink RL 56 yX3_kerfAt, Cond.instanceMethod yX3_kerfAt, Cond.selects RX3 yX3_kerfAt yX3_kerfAt, Cond.code yX3_kerfAt cX3_kerfAt 4 (some .double), Cond.methodLink RL 129 yX4_kerfAt, Cond.instanceMethod yX4_kerfAt, Cond.selects RX4 yX4_kerfAt yX4_kerfAt, Cond.code yX4_kerfAt cX4_kerfAt 4 (some .double), Cond.methodLink RL 130 yL_rest, Cond.static yL_rest, Cond.codeWith yL_rest cL_rest 3 (some .int) [(0, 7, 10, 17)], Cond.methodLink RL 59 yX3_rest, Cond.instanceMethod yX3_rest, Cond.selects RX3 yX3_rest yX3_rest, Cond.code yX3_rest cX3_rest 1 (some .double), Cond.methodLink RL 133 yX4_rest, Cond.instanceMethod yX4_rest, Cond.selects RX4 yX4_rest yX4_rest, Cond.code yX4_rest cX4_rest 1 (some .double), Cond.methodLink RL 134 yL_broken]
def wsL_law0_r16 : List Cond := [Cond.static yL_broken, Cond.codeWith yL_broken cL_broken 6 (some .int) [(0, 11, 14, 13), (0, 11, 18, 15)], Cond.methodLink RL 63 yX3_broken, Cond.instanceMethod yX3_broken, Cond.selects RX3 yX3_broken yX3_broken, Cond.code yX3_broken cX3_broken 8 (some .long), Cond.constant RX3 165 (1000000), Cond.methodLink RX3 168 yX3_commonDivisor, Cond.static yX3_commonDivisor, Cond.code yX3_commonDivisor cX3_commonDivisor 6 (some .int), Cond.methodLink RL 137 yX4_broken, Cond.instanceMethod yX4_broken, Cond.selects RX4 yX4_broken yX4_broken, Cond.code yX4_broken cX4_broken 5 (some .long), Cond.constant RX4 101 (1000000), Cond.methodLink RX4 102 yX4_common, Cond.static yX4_common, Cond.code yX4_common cX4_common 5 (some .int), Cond.methodLink RL 138 yL_relaxed, Cond.static yL_relaxed, Cond.codeWith yL_relaxed cL_relaxed 5 (some .int) [(0, 9, 12, 13), (0, 9, 16, 15)], Cond.methodLink RL 67 yX3_relaxed, Cond.instanceMethod yX3_relaxed, Cond.selects RX3 yX3_relaxed yX3_relaxed]
def wsL_law0_r17 : List Cond := [Cond.code yX3_relaxed cX3_relaxed 4 (some .double), Cond.constantDouble RX3 174 (4620693217682128896), Cond.methodLink RL 140 yX4_relaxed, Cond.instanceMethod yX4_relaxed, Cond.selects RX4 yX4_relaxed yX4_relaxed, Cond.code yX4_relaxed cX4_relaxed 3 (some .double), Cond.constantDouble RX4 106 (4620693217682128896)]
def wsL_law0 : List Cond := (wsL_law0_r1 ++ (wsL_law0_r2 ++ (wsL_law0_r3 ++ (wsL_law0_r4 ++ (wsL_law0_r5 ++ (wsL_law0_r6 ++ (wsL_law0_r7 ++ (wsL_law0_r8 ++ (wsL_law0_r9 ++ (wsL_law0_r10 ++ (wsL_law0_r11 ++ (wsL_law0_r12 ++ (wsL_law0_r13 ++ (wsL_law0_r14 ++ (wsL_law0_r15 ++ (wsL_law0_r16 ++ wsL_law0_r17)))))))))))))))) ++ wsX30 ++ wsX40 ++ wsX20 ++ wsX00 ++ wsX10 ++ ([] : List Cond)
def wsL_law : List Cond := wsL_law0 ++ (vx_atS RX3 53 "java/lang/IllegalArgumentException" ["java/lang/RuntimeException", "java/lang/Exception"]).filter goodWord ++ (vx_atS RX3 70 "java/lang/IllegalStateException" ["java/lang/RuntimeException", "java/lang/Exception"]).filter goodWord ++ (vx_atS RX3 115 "java/lang/IndexOutOfBoundsException" ["java/lang/RuntimeException", "java/lang/Exception"]).filter goodWord
theorem mem_r {big : List Cond} (ws : List Cond) (ps : List Nat) (hp : ws = ps.filterMap (fun i => big[i]?)) : ∀ w ∈ ws, w ∈ big := by
  intro w hw
  rw [hp] at hw
  obtain ⟨i, -, hi⟩ := List.mem_filterMap.mp hw
  first | exact List.mem_of_getElem? hi | exact List.getElem?_mem hi
set_option maxRecDepth 20000 in
theorem wsL_in_r1 : ∀ w ∈ wsL_law0_r1, w ∈ lw_tbl := mem_r _ [21, 22, 9, 429, 430, 14, 586, 58, 585, 23, 24, 25, 26, 27, 28, 29, 89, 31, 32, 10, 90, 91, 92, 64] (by decide +kernel)
set_option maxRecDepth 20000 in
theorem wsL_in_r2 : ∀ w ∈ wsL_law0_r2, w ∈ lw_tbl := mem_r _ [13, 34, 35, 36, 37, 38, 11, 59, 39, 40, 41, 42, 48, 43, 44, 12, 45, 46, 47, 66, 67, 68, 69, 72] (by decide +kernel)
set_option maxRecDepth 20000 in
theorem wsL_in_r3 : ∀ w ∈ wsL_law0_r3, w ∈ lw_tbl := mem_r _ [74, 71, 76, 78, 70, 431, 432, 433, 434, 482, 437, 438, 439, 440, 441, 442, 443, 444, 446, 447, 435, 110, 111, 8] (by decide +kernel)
set_option maxRecDepth 20000 in
theorem wsL_in_r4 : ∀ w ∈ wsL_law0_r4, w ∈ lw_tbl := mem_r _ [112, 113, 114, 115, 116, 117, 118, 119, 210, 19, 230, 20, 192, 193, 197, 120, 122, 0, 123, 124, 18, 194, 195, 196] (by decide +kernel)
set_option maxRecDepth 20000 in
theorem wsL_in_r5 : ∀ w ∈ wsL_law0_r5, w ∈ lw_tbl := mem_r _ [198, 199, 200, 201, 202, 203, 204, 205, 206, 208, 2, 209, 226, 227, 228, 229, 487, 488, 489, 490, 436, 494, 495, 499] (by decide +kernel)
set_option maxRecDepth 20000 in
theorem wsL_in_r6 : ∀ w ∈ wsL_law0_r6, w ∈ lw_tbl := mem_r _ [491, 492, 493, 496, 497, 498, 483, 484, 485, 486, 246, 247, 248, 249, 250, 251, 252, 254, 255, 256, 257, 262, 258, 259] (by decide +kernel)
set_option maxRecDepth 20000 in
theorem wsL_in_r7 : ∀ w ∈ wsL_law0_r7, w ∈ lw_tbl := mem_r _ [260, 261, 263, 265, 3, 266, 267, 268, 269, 500, 501, 502, 503, 450, 504, 506, 5, 507, 271, 272, 273, 274, 275, 276] (by decide +kernel)
set_option maxRecDepth 20000 in
theorem wsL_in_r8 : ∀ w ∈ wsL_law0_r8, w ∈ lw_tbl := mem_r _ [277, 279, 280, 281, 282, 283, 508, 509, 510, 511, 285, 286, 287, 288, 289, 290, 291, 292, 512, 513, 514, 515, 516, 295] (by decide +kernel)
set_option maxRecDepth 20000 in
theorem wsL_in_r9 : ∀ w ∈ wsL_law0_r9, w ∈ lw_tbl := mem_r _ [296, 297, 298, 299, 300, 301, 303, 304, 305, 306, 311, 307, 308, 309, 310, 517, 518, 519, 520, 521, 523, 6, 524, 529] (by decide +kernel)
set_option maxRecDepth 20000 in
theorem wsL_in_r10 : ∀ w ∈ wsL_law0_r10, w ∈ lw_tbl := mem_r _ [525, 527, 7, 528, 312, 313, 314, 315, 316, 317, 318, 319, 530, 531, 532, 533, 321, 322, 323, 324, 325, 326, 327, 329] (by decide +kernel)
set_option maxRecDepth 20000 in
theorem wsL_in_r11 : ∀ w ∈ wsL_law0_r11, w ∈ lw_tbl := mem_r _ [330, 331, 332, 534, 535, 536, 537, 333, 334, 335, 336, 337, 338, 339, 340, 341, 342, 538, 539, 540, 541, 542, 543, 544] (by decide +kernel)
set_option maxRecDepth 20000 in
theorem wsL_in_r12 : ∀ w ∈ wsL_law0_r12, w ∈ lw_tbl := mem_r _ [343, 344, 345, 346, 347, 348, 349, 545, 546, 547, 548, 445, 102, 103, 104, 105, 106, 107, 108, 109, 549, 550, 551, 552] (by decide +kernel)
set_option maxRecDepth 20000 in
theorem wsL_in_r13 : ∀ w ∈ wsL_law0_r13, w ∈ lw_tbl := mem_r _ [352, 353, 354, 355, 356, 357, 358, 359, 360, 361, 362, 364, 363, 366, 367, 368, 369, 370, 372, 4, 373, 374, 553, 554] (by decide +kernel)
set_option maxRecDepth 20000 in
theorem wsL_in_r14 : ∀ w ∈ wsL_law0_r14, w ∈ lw_tbl := mem_r _ [555, 556, 375, 376, 377, 378, 379, 380, 381, 382, 383, 385, 386, 387, 388, 389, 557, 558, 559, 560, 561, 562, 563, 448] (by decide +kernel)
set_option maxRecDepth 20000 in
theorem wsL_in_r15 : ∀ w ∈ wsL_law0_r15, w ∈ lw_tbl := mem_r _ [449, 390, 391, 392, 393, 394, 395, 396, 564, 565, 566, 567, 400, 401, 402, 403, 404, 405, 406, 568, 569, 570, 571, 407] (by decide +kernel)
set_option maxRecDepth 20000 in
theorem wsL_in_r16 : ∀ w ∈ wsL_law0_r16, w ∈ lw_tbl := mem_r _ [408, 409, 410, 411, 412, 413, 415, 417, 418, 419, 572, 573, 574, 575, 576, 577, 578, 579, 420, 421, 422, 423, 424, 425] (by decide +kernel)
set_option maxRecDepth 20000 in
theorem wsL_in_r17 : ∀ w ∈ wsL_law0_r17, w ∈ lw_tbl := mem_r _ [426, 428, 580, 581, 582, 583, 584] (by decide +kernel)
set_option maxRecDepth 20000 in
theorem wsL_in_X3 : ∀ w ∈ wsX30, w ∈ lw_tbl := by decide +kernel
set_option maxRecDepth 20000 in
theorem wsL_in_X4 : ∀ w ∈ wsX40, w ∈ lw_tbl := by decide +kernel
set_option maxRecDepth 20000 in
theorem wsL_in_X2 : ∀ w ∈ wsX20, w ∈ lw_tbl := by decide +kernel
set_option maxRecDepth 20000 in
theorem wsL_in_X0 : ∀ w ∈ wsX00, w ∈ lw_tbl := by decide +kernel
set_option maxRecDepth 20000 in
theorem wsL_in_X1 : ∀ w ∈ wsX10, w ∈ lw_tbl := by decide +kernel
theorem mem_a {big a b : List Cond} (ha : ∀ w ∈ a, w ∈ big) (hb : ∀ w ∈ b, w ∈ big) : ∀ w ∈ a ++ b, w ∈ big := fun w h => (List.mem_append.mp h).elim (ha w) (hb w)
theorem wsL_law_in0 : ∀ w ∈ wsL_law0, w ∈ lw_tbl := mem_a (mem_a (mem_a (mem_a (mem_a (mem_a (mem_a wsL_in_r1 (mem_a wsL_in_r2 (mem_a wsL_in_r3 (mem_a wsL_in_r4 (mem_a wsL_in_r5 (mem_a wsL_in_r6 (mem_a wsL_in_r7 (mem_a wsL_in_r8 (mem_a wsL_in_r9 (mem_a wsL_in_r10 (mem_a wsL_in_r11 (mem_a wsL_in_r12 (mem_a wsL_in_r13 (mem_a wsL_in_r14 (mem_a wsL_in_r15 (mem_a wsL_in_r16 wsL_in_r17)))))))))))))))) wsL_in_X3) wsL_in_X4) wsL_in_X2) wsL_in_X0) wsL_in_X1) (fun w h => absurd h List.not_mem_nil)
theorem wsL_law_x0 : ∀ w ∈ (vx_atS RX3 53 "java/lang/IllegalArgumentException" ["java/lang/RuntimeException", "java/lang/Exception"]).filter goodWord, w ∈ lw_tbl := by decide +kernel
theorem wsL_law_x1 : ∀ w ∈ (vx_atS RX3 70 "java/lang/IllegalStateException" ["java/lang/RuntimeException", "java/lang/Exception"]).filter goodWord, w ∈ lw_tbl := by decide +kernel
theorem wsL_law_x2 : ∀ w ∈ (vx_atS RX3 115 "java/lang/IndexOutOfBoundsException" ["java/lang/RuntimeException", "java/lang/Exception"]).filter goodWord, w ∈ lw_tbl := by decide +kernel
theorem wsL_law_in : ∀ w ∈ wsL_law, w ∈ lw_tbl := fun w h => (List.mem_append.mp h).elim (fun h => (List.mem_append.mp h).elim (fun h => (List.mem_append.mp h).elim (fun h => wsL_law_in0 w h) (fun h => wsL_law_x0 w h)) (fun h => wsL_law_x1 w h)) (fun h => wsL_law_x2 w h)
theorem inlX0 : ∀ w ∈ wsX00, w ∈ wsL_law := fun _ h => List.mem_append_left _ (List.mem_append_left _ (List.mem_append_left _ (List.mem_append_left _ (List.mem_append_left _ (List.mem_append_right _ h)))))
theorem inX0 : ∀ w ∈ wsX00, w ∈ lw_tbl := fun w h => wsL_law_in w (inlX0 w h)
theorem inlX1 : ∀ w ∈ wsX10, w ∈ wsL_law := fun _ h => List.mem_append_left _ (List.mem_append_left _ (List.mem_append_left _ (List.mem_append_left _ (List.mem_append_right _ h))))
theorem inX1 : ∀ w ∈ wsX10, w ∈ lw_tbl := fun w h => wsL_law_in w (inlX1 w h)
theorem inlX2 : ∀ w ∈ wsX20, w ∈ wsL_law := fun _ h => List.mem_append_left _ (List.mem_append_left _ (List.mem_append_left _ (List.mem_append_left _ (List.mem_append_left _ (List.mem_append_left _ (List.mem_append_right _ h))))))
theorem inX2 : ∀ w ∈ wsX20, w ∈ lw_tbl := fun w h => wsL_law_in w (inlX2 w h)
theorem inlX3 : ∀ w ∈ wsX30, w ∈ wsL_law := fun _ h => List.mem_append_left _ (List.mem_append_left _ (List.mem_append_left _ (List.mem_append_left _ (List.mem_append_left _ (List.mem_append_left _ (List.mem_append_left _ (List.mem_append_left _ (List.mem_append_right _ h))))))))
theorem inX3 : ∀ w ∈ wsX30, w ∈ lw_tbl := fun w h => wsL_law_in w (inlX3 w h)
theorem inlX4 : ∀ w ∈ wsX40, w ∈ wsL_law := fun _ h => List.mem_append_left _ (List.mem_append_left _ (List.mem_append_left _ (List.mem_append_left _ (List.mem_append_left _ (List.mem_append_left _ (List.mem_append_left _ (List.mem_append_right _ h)))))))
theorem inX4 : ∀ w ∈ wsX40, w ∈ lw_tbl := fun w h => wsL_law_in w (inlX4 w h)
theorem inJ9 : ∀ w ∈ wsJ90, w ∈ lw_tbl := by decide +kernel
theorem inJ0 : ∀ w ∈ wsJ00, w ∈ lw_tbl := by decide +kernel
set_option maxRecDepth 20000 in
theorem ggX0_init_X1_init : GoodIn wsX0_init wsX1_init := goodIn_r _ [14, 15, 2, 3, 16, 17, 18, 19, 20, 21, 22, 23, 24, 25, 26] (by decide +kernel) (by decide +kernel)
set_option maxRecDepth 20000 in
theorem gX0_init_X1_init : GoodIn wsX0_init (wsX1_init) := ggX0_init_X1_init
set_option maxRecDepth 20000 in
theorem ggX0_isAboveRows_X1_first : GoodIn wsX0_isAboveRows wsX1_first := goodIn_r _ [6, 7, 8, 9, 10, 5, 11, 12, 17, 18, 19] (by decide +kernel) (by decide +kernel)
set_option maxRecDepth 20000 in
theorem gX0_isAboveRows_X1_first : GoodIn wsX0_isAboveRows (wsV RX0 36 RX1 yX1_first wsX1_first) := goodIn_app (goodIn_of _ (by decide +kernel)) ggX0_isAboveRows_X1_first
set_option maxRecDepth 20000 in
theorem ggX0_leastRadius_X1_first : GoodIn wsX0_leastRadius wsX1_first := goodIn_r _ [7, 8, 9, 10, 11, 6, 12, 13, 27, 28, 29] (by decide +kernel) (by decide +kernel)
set_option maxRecDepth 20000 in
theorem gX0_leastRadius_X1_first : GoodIn wsX0_leastRadius (wsV RX0 36 RX1 yX1_first wsX1_first) := goodIn_app (goodIn_of _ (by decide +kernel)) ggX0_leastRadius_X1_first
set_option maxRecDepth 20000 in
theorem ggX0_leastRadius_X1_second : GoodIn wsX0_leastRadius wsX1_second := goodIn_r _ [17, 13, 9, 10, 11, 6, 12, 8, 27, 28, 29] (by decide +kernel) (by decide +kernel)
set_option maxRecDepth 20000 in
theorem gX0_leastRadius_X1_second : GoodIn wsX0_leastRadius (wsV RX0 40 RX1 yX1_second wsX1_second) := goodIn_app (goodIn_of _ (by decide +kernel)) ggX0_leastRadius_X1_second
set_option maxRecDepth 20000 in
theorem ggX0_leastRadius_X0_radiusBetween : GoodIn wsX0_leastRadius wsX0_radiusBetween := goodIn_r _ [22, 1, 3, 4, 5, 6, 7, 8, 9, 10, 11, 12, 13, 14, 15, 16, 17, 23, 24, 25, 26, 27, 28, 29] (by decide +kernel) (by decide +kernel)
set_option maxRecDepth 20000 in
theorem gX0_leastRadius_X0_radiusBetween : GoodIn wsX0_leastRadius (wsV RX0 45 RX0 yX0_radiusBetween wsX0_radiusBetween) := goodIn_app (goodIn_of _ (by decide +kernel)) ggX0_leastRadius_X0_radiusBetween
set_option maxRecDepth 20000 in
theorem ggX0_radiusBetween_X1_first : GoodIn wsX0_radiusBetween wsX1_first := goodIn_r _ [6, 7, 8, 9, 10, 5, 11, 12, 21, 22, 23] (by decide +kernel) (by decide +kernel)
set_option maxRecDepth 20000 in
theorem gX0_radiusBetween_X1_first : GoodIn wsX0_radiusBetween (wsV RX0 36 RX1 yX1_first wsX1_first) := goodIn_app (goodIn_of _ (by decide +kernel)) ggX0_radiusBetween_X1_first
set_option maxRecDepth 20000 in
theorem ggX0_radiusBetween_X1_second : GoodIn wsX0_radiusBetween wsX1_second := goodIn_r _ [16, 12, 8, 9, 10, 5, 11, 7, 21, 22, 23] (by decide +kernel) (by decide +kernel)
set_option maxRecDepth 20000 in
theorem gX0_radiusBetween_X1_second : GoodIn wsX0_radiusBetween (wsV RX0 40 RX1 yX1_second wsX1_second) := goodIn_app (goodIn_of _ (by decide +kernel)) ggX0_radiusBetween_X1_second
set_option maxRecDepth 20000 in
theorem ggX0_leastStrips_X0_leastRadius : GoodIn wsX0_leastStrips wsX0_leastRadius := goodIn_r _ [5, 6, 7, 8, 9, 10, 11, 12, 13, 14, 15, 16, 17, 18, 19, 20, 21, 22, 23, 24, 25, 4, 26, 30, 31, 32, 33, 34, 35, 36] (by decide +kernel) (by decide +kernel)
set_option maxRecDepth 20000 in
theorem gX0_leastStrips_X0_leastRadius : GoodIn wsX0_leastStrips (wsV RX0 49 RX0 yX0_leastRadius wsX0_leastRadius) := goodIn_app (goodIn_of _ (by decide +kernel)) ggX0_leastStrips_X0_leastRadius
set_option maxRecDepth 20000 in
theorem ggX0_leastStrips_X3_isNone : GoodIn wsX0_leastStrips wsX3_isNone := goodIn_r _ [29] (by decide +kernel) (by decide +kernel)
set_option maxRecDepth 20000 in
theorem gX0_leastStrips_X3_isNone_n53 : GoodIn wsX0_leastStrips (wsX3_isNone) := ggX0_leastStrips_X3_isNone
set_option maxRecDepth 20000 in
theorem ggX0_residue_X1_second : GoodIn wsX0_residue wsX1_second := goodIn_r _ [6, 7, 8, 9, 10, 5, 11, 12, 21, 22, 23] (by decide +kernel) (by decide +kernel)
set_option maxRecDepth 20000 in
theorem gX0_residue_X1_second : GoodIn wsX0_residue (wsV RX0 40 RX1 yX1_second wsX1_second) := goodIn_app (goodIn_of _ (by decide +kernel)) ggX0_residue_X1_second
set_option maxRecDepth 20000 in
theorem ggX0_residue_X1_first : GoodIn wsX0_residue wsX1_first := goodIn_r _ [16, 12, 8, 9, 10, 5, 11, 7, 21, 22, 23] (by decide +kernel) (by decide +kernel)
set_option maxRecDepth 20000 in
theorem gX0_residue_X1_first : GoodIn wsX0_residue (wsV RX0 36 RX1 yX1_first wsX1_first) := goodIn_app (goodIn_of _ (by decide +kernel)) ggX0_residue_X1_first
set_option maxRecDepth 20000 in
theorem ggX0_fitsBetter_X0_residue : GoodIn wsX0_fitsBetter wsX0_residue := goodIn_r _ [8, 9, 10, 11, 12, 13, 14, 15, 16, 17, 18, 19, 20, 21, 22, 23, 24, 25, 26, 27, 28, 29, 30, 31] (by decide +kernel) (by decide +kernel)
set_option maxRecDepth 20000 in
theorem gX0_fitsBetter_X0_residue : GoodIn wsX0_fitsBetter (wsV RX0 57 RX0 yX0_residue wsX0_residue) := goodIn_app (goodIn_of _ (by decide +kernel)) ggX0_fitsBetter_X0_residue
set_option maxRecDepth 20000 in
theorem ggX1_add_X1_isPlace : GoodIn wsX1_add wsX1_isPlace := goodIn_r _ [8, 2, 3, 9, 10, 11] (by decide +kernel) (by decide +kernel)
set_option maxRecDepth 20000 in
theorem gX1_add_X1_isPlace : GoodIn wsX1_add (wsV RX1 28 RX1 yX1_isPlace wsX1_isPlace) := goodIn_app (goodIn_of _ (by decide +kernel)) ggX1_add_X1_isPlace
set_option maxRecDepth 20000 in
theorem ggX1_first_X1_isPlace : GoodIn wsX1_first wsX1_isPlace := goodIn_r _ [6, 1, 7, 8, 9, 10] (by decide +kernel) (by decide +kernel)
set_option maxRecDepth 20000 in
theorem gX1_first_X1_isPlace : GoodIn wsX1_first (wsV RX1 28 RX1 yX1_isPlace wsX1_isPlace) := goodIn_app (goodIn_of _ (by decide +kernel)) ggX1_first_X1_isPlace
set_option maxRecDepth 20000 in
theorem ggX1_second_X1_isPlace : GoodIn wsX1_second wsX1_isPlace := goodIn_r _ [6, 7, 1, 8, 9, 10] (by decide +kernel) (by decide +kernel)
set_option maxRecDepth 20000 in
theorem gX1_second_X1_isPlace : GoodIn wsX1_second (wsV RX1 28 RX1 yX1_isPlace wsX1_isPlace) := goodIn_app (goodIn_of _ (by decide +kernel)) ggX1_second_X1_isPlace
set_option maxRecDepth 20000 in
theorem ggX2_init_X1_init : GoodIn wsX2_init wsX1_init := goodIn_r _ [10, 11, 2, 3, 12, 13, 14, 15, 16, 17, 18, 19, 20, 21, 22] (by decide +kernel) (by decide +kernel)
set_option maxRecDepth 20000 in
theorem gX2_init_X1_init : GoodIn wsX2_init (wsX1_init) := ggX2_init_X1_init
set_option maxRecDepth 20000 in
theorem ggX2_isBendable_X1_second : GoodIn wsX2_isBendable wsX1_second := goodIn_r _ [7, 8, 9, 10, 11, 6, 12, 13, 15, 16, 17] (by decide +kernel) (by decide +kernel)
set_option maxRecDepth 20000 in
theorem gX2_isBendable_X1_second : GoodIn wsX2_isBendable (wsV RX2 24 RX1 yX1_second wsX1_second) := goodIn_app (goodIn_of _ (by decide +kernel)) ggX2_isBendable_X1_second
set_option maxRecDepth 20000 in
theorem ggX2_sumOfLengths_X2_lengthOf : GoodIn wsX2_sumOfLengths wsX2_lengthOf := goodIn_r _ [6, 1, 7, 8, 9, 10, 11, 12, 13, 14, 15, 16, 17, 18, 19, 20, 21, 22, 23, 24, 25, 26] (by decide +kernel) (by decide +kernel)
set_option maxRecDepth 20000 in
theorem gX2_sumOfLengths_X2_lengthOf : GoodIn wsX2_sumOfLengths (wsV RX2 30 RX2 yX2_lengthOf wsX2_lengthOf) := goodIn_app (goodIn_of _ (by decide +kernel)) ggX2_sumOfLengths_X2_lengthOf
set_option maxRecDepth 20000 in
theorem ggX2_lengthOf_X1_first : GoodIn wsX2_lengthOf wsX1_first := goodIn_r _ [7, 8, 9, 10, 11, 6, 12, 13, 19, 20, 21] (by decide +kernel) (by decide +kernel)
set_option maxRecDepth 20000 in
theorem gX2_lengthOf_X1_first : GoodIn wsX2_lengthOf (wsV RX2 34 RX1 yX1_first wsX1_first) := goodIn_app (goodIn_of _ (by decide +kernel)) ggX2_lengthOf_X1_first
set_option maxRecDepth 20000 in
theorem ggX2_lengthOf_X1_second : GoodIn wsX2_lengthOf wsX1_second := goodIn_r _ [17, 13, 9, 10, 11, 6, 12, 8, 19, 20, 21] (by decide +kernel) (by decide +kernel)
set_option maxRecDepth 20000 in
theorem gX2_lengthOf_X1_second : GoodIn wsX2_lengthOf (wsV RX2 24 RX1 yX1_second wsX1_second) := goodIn_app (goodIn_of _ (by decide +kernel)) ggX2_lengthOf_X1_second
set_option maxRecDepth 20000 in
theorem ggX3_init_X2_init : GoodIn wsX3_init wsX2_init := goodIn_r _ [15, 16, 2, 3, 17, 18, 19, 20, 21, 22, 23, 24, 25, 26, 27, 28, 29, 30, 31, 32, 52, 53, 54, 47] (by decide +kernel) (by decide +kernel)
set_option maxRecDepth 20000 in
theorem gX3_init_X2_init_n17 : GoodIn wsX3_init (wsX2_init) := ggX3_init_X2_init
set_option maxRecDepth 20000 in
theorem ggX3_init_X0_init : GoodIn wsX3_init wsX0_init := goodIn_r _ [34, 35, 2, 3, 36, 18, 19, 37, 38, 39, 40, 41, 42, 22, 23, 24, 25, 26, 27, 28, 29, 30, 31, 32, 52, 53, 54, 48, 49, 50, 51] (by decide +kernel) (by decide +kernel)
set_option maxRecDepth 20000 in
theorem gX3_init_X0_init_n30 : GoodIn wsX3_init (wsX0_init) := ggX3_init_X0_init
set_option maxRecDepth 20000 in
theorem ggX3_table_X3_kindOf : GoodIn wsX3_table wsX3_kindOf := goodIn_ca (goodIn_r _ [12, 13, 14, 15, 45, 46, 47, 48] (by decide +kernel) (by decide +kernel)) (goodIn_sub (fun _ h => List.mem_cons_of_mem _ (List.mem_append_right _ h)) (by decide +kernel))
set_option maxRecDepth 20000 in
theorem gX3_table_X3_kindOf : GoodIn wsX3_table (wsV RX3 31 RX3 yX3_kindOf wsX3_kindOf) := goodIn_app (goodIn_of _ (by decide +kernel)) ggX3_table_X3_kindOf
set_option maxRecDepth 20000 in
theorem ggX3_table_X3_isWithin : GoodIn wsX3_table wsX3_isWithin := goodIn_r _ [18] (by decide +kernel) (by decide +kernel)
set_option maxRecDepth 20000 in
theorem gX3_table_X3_isWithin : GoodIn wsX3_table (va_wsS RX3 39 yX3_isWithin wsX3_isWithin) := goodIn_app (goodIn_of _ (by decide +kernel)) ggX3_table_X3_isWithin
set_option maxRecDepth 20000 in
theorem ggX3_table_X0_isAboveRows : GoodIn wsX3_table wsX0_isAboveRows := goodIn_r _ [23, 24, 25, 26, 27, 28, 29, 30, 31, 32, 33, 34, 35, 41, 42, 43, 44, 49, 50, 51] (by decide +kernel) (by decide +kernel)
set_option maxRecDepth 20000 in
theorem gX3_table_X0_isAboveRows : GoodIn wsX3_table (wsV RX3 45 RX0 yX0_isAboveRows wsX0_isAboveRows) := goodIn_app (goodIn_of _ (by decide +kernel)) ggX3_table_X0_isAboveRows
set_option maxRecDepth 20000 in
theorem ggX3_table_X1_add : GoodIn wsX3_table wsX1_add := goodIn_r _ [39, 40, 30, 35, 31, 32, 33, 28, 34, 49, 50, 51] (by decide +kernel) (by decide +kernel)
set_option maxRecDepth 20000 in
theorem gX3_table_X1_add : GoodIn wsX3_table (wsV RX3 60 RX1 yX1_add wsX1_add) := goodIn_app (goodIn_of _ (by decide +kernel)) ggX3_table_X1_add
set_option maxRecDepth 20000 in
theorem ggX3_radius_X3_kindOf : GoodIn wsX3_radius wsX3_kindOf := goodIn_ca (goodIn_r _ [10, 11, 12, 13, 46, 47, 48, 49] (by decide +kernel) (by decide +kernel)) (goodIn_sub (fun _ h => List.mem_cons_of_mem _ (List.mem_append_right _ h)) (by decide +kernel))
set_option maxRecDepth 20000 in
theorem gX3_radius_X3_kindOf : GoodIn wsX3_radius (wsV RX3 31 RX3 yX3_kindOf wsX3_kindOf) := goodIn_app (goodIn_of _ (by decide +kernel)) ggX3_radius_X3_kindOf
set_option maxRecDepth 20000 in
theorem ggX3_radius_X3_isWithin : GoodIn wsX3_radius wsX3_isWithin := goodIn_r _ [16] (by decide +kernel) (by decide +kernel)
set_option maxRecDepth 20000 in
theorem gX3_radius_X3_isWithin : GoodIn wsX3_radius (va_wsS RX3 39 yX3_isWithin wsX3_isWithin) := goodIn_app (goodIn_of _ (by decide +kernel)) ggX3_radius_X3_isWithin
set_option maxRecDepth 20000 in
theorem ggX3_radius_X0_leastRadius : GoodIn wsX3_radius wsX0_leastRadius := goodIn_r _ [21, 22, 23, 24, 25, 26, 27, 28, 29, 30, 31, 32, 33, 34, 35, 36, 37, 38, 39, 40, 41, 20, 42, 50, 51, 52, 53, 54, 55, 56] (by decide +kernel) (by decide +kernel)
set_option maxRecDepth 20000 in
theorem gX3_radius_X0_leastRadius : GoodIn wsX3_radius (wsV RX3 73 RX0 yX0_leastRadius wsX0_leastRadius) := goodIn_app (goodIn_of _ (by decide +kernel)) ggX3_radius_X0_leastRadius
set_option maxRecDepth 20000 in
theorem ggX3_radius_X3_isNone : GoodIn wsX3_radius wsX3_isNone := goodIn_r _ [45] (by decide +kernel) (by decide +kernel)
set_option maxRecDepth 20000 in
theorem gX3_radius_X3_isNone : GoodIn wsX3_radius (va_wsS RX3 77 yX3_isNone wsX3_isNone) := goodIn_app (goodIn_of _ (by decide +kernel)) ggX3_radius_X3_isNone
set_option maxRecDepth 20000 in
theorem ggX3_strips_X3_kindOf : GoodIn wsX3_strips wsX3_kindOf := goodIn_ca (goodIn_r _ [9, 10, 11, 12, 48, 49, 50, 51] (by decide +kernel) (by decide +kernel)) (goodIn_sub (fun _ h => List.mem_cons_of_mem _ (List.mem_append_right _ h)) (by decide +kernel))
set_option maxRecDepth 20000 in
theorem gX3_strips_X3_kindOf : GoodIn wsX3_strips (wsV RX3 31 RX3 yX3_kindOf wsX3_kindOf) := goodIn_app (goodIn_of _ (by decide +kernel)) ggX3_strips_X3_kindOf
set_option maxRecDepth 20000 in
theorem ggX3_strips_X3_isWithin : GoodIn wsX3_strips wsX3_isWithin := goodIn_r _ [15] (by decide +kernel) (by decide +kernel)
set_option maxRecDepth 20000 in
theorem gX3_strips_X3_isWithin : GoodIn wsX3_strips (va_wsS RX3 39 yX3_isWithin wsX3_isWithin) := goodIn_app (goodIn_of _ (by decide +kernel)) ggX3_strips_X3_isWithin
set_option maxRecDepth 20000 in
theorem ggX3_strips_X0_leastStrips : GoodIn wsX3_strips wsX0_leastStrips := goodIn_r _ [20, 21, 22, 23, 19, 24, 25, 26, 27, 28, 29, 30, 31, 32, 33, 34, 35, 36, 37, 38, 39, 40, 41, 42, 43, 44, 45, 46, 8, 47, 52, 53, 54, 55, 56, 57, 58] (by decide +kernel) (by decide +kernel)
set_option maxRecDepth 20000 in
theorem gX3_strips_X0_leastStrips : GoodIn wsX3_strips (wsV RX3 84 RX0 yX0_leastStrips wsX0_leastStrips) := goodIn_app (goodIn_of _ (by decide +kernel)) ggX3_strips_X0_leastStrips
set_option maxRecDepth 20000 in
theorem ggX3_read_X3_kindOf : GoodIn wsX3_read wsX3_kindOf := goodIn_ca (goodIn_r _ [12, 13, 14, 15, 35, 36, 37, 38] (by decide +kernel) (by decide +kernel)) (goodIn_sub (fun _ h => List.mem_cons_of_mem _ (List.mem_append_right _ h)) (by decide +kernel))
set_option maxRecDepth 20000 in
theorem gX3_read_X3_kindOf : GoodIn wsX3_read (wsV RX3 31 RX3 yX3_kindOf wsX3_kindOf) := goodIn_app (goodIn_of _ (by decide +kernel)) ggX3_read_X3_kindOf
set_option maxRecDepth 20000 in
theorem ggX3_read_X3_isWithin : GoodIn wsX3_read wsX3_isWithin := goodIn_r _ [18] (by decide +kernel) (by decide +kernel)
set_option maxRecDepth 20000 in
theorem gX3_read_X3_isWithin : GoodIn wsX3_read (va_wsS RX3 39 yX3_isWithin wsX3_isWithin) := goodIn_app (goodIn_of _ (by decide +kernel)) ggX3_read_X3_isWithin
set_option maxRecDepth 20000 in
theorem ggX3_read_X1_add : GoodIn wsX3_read wsX1_add := goodIn_r _ [23, 24, 25, 26, 27, 28, 29, 22, 30, 39, 40, 41] (by decide +kernel) (by decide +kernel)
set_option maxRecDepth 20000 in
theorem gX3_read_X1_add : GoodIn wsX3_read (wsV RX3 60 RX1 yX1_add wsX1_add) := goodIn_app (goodIn_of _ (by decide +kernel)) ggX3_read_X1_add
set_option maxRecDepth 20000 in
theorem ggX3_fit_X3_kindOf : GoodIn wsX3_fit wsX3_kindOf := goodIn_ca (goodIn_r _ [7, 8, 9, 10, 39, 40, 41, 42] (by decide +kernel) (by decide +kernel)) (goodIn_sub (fun _ h => List.mem_cons_of_mem _ (List.mem_append_right _ h)) (by decide +kernel))
set_option maxRecDepth 20000 in
theorem gX3_fit_X3_kindOf : GoodIn wsX3_fit (wsV RX3 31 RX3 yX3_kindOf wsX3_kindOf) := goodIn_app (goodIn_of _ (by decide +kernel)) ggX3_fit_X3_kindOf
set_option maxRecDepth 20000 in
theorem ggX3_fit_X0_fitsBetter : GoodIn wsX3_fit wsX0_fitsBetter := goodIn_r _ [15, 16, 17, 18, 19, 20, 21, 14, 22, 23, 24, 25, 26, 27, 28, 29, 30, 31, 32, 33, 34, 35, 36, 37, 38, 43, 44, 45, 46, 47, 48, 49] (by decide +kernel) (by decide +kernel)
set_option maxRecDepth 20000 in
theorem gX3_fit_X0_fitsBetter : GoodIn wsX3_fit (wsV RX3 98 RX0 yX0_fitsBetter wsX0_fitsBetter) := goodIn_app (goodIn_of _ (by decide +kernel)) ggX3_fit_X0_fitsBetter
set_option maxRecDepth 20000 in
theorem ggX3_back_X3_kindOf : GoodIn wsX3_back wsX3_kindOf := goodIn_ca (goodIn_r _ [7, 1, 2, 8, 34, 35, 36, 37] (by decide +kernel) (by decide +kernel)) (goodIn_sub (fun _ h => List.mem_cons_of_mem _ (List.mem_append_right _ h)) (by decide +kernel))
set_option maxRecDepth 20000 in
theorem gX3_back_X3_kindOf : GoodIn wsX3_back (wsV RX3 31 RX3 yX3_kindOf wsX3_kindOf) := goodIn_app (goodIn_of _ (by decide +kernel)) ggX3_back_X3_kindOf
set_option maxRecDepth 20000 in
theorem ggX3_back_X0_residue : GoodIn wsX3_back wsX0_residue := goodIn_r _ [13, 14, 15, 16, 17, 18, 19, 20, 21, 22, 23, 24, 25, 26, 27, 28, 29, 30, 31, 32, 33, 38, 39, 40] (by decide +kernel) (by decide +kernel)
set_option maxRecDepth 20000 in
theorem gX3_back_X0_residue : GoodIn wsX3_back (wsV RX3 108 RX0 yX0_residue wsX0_residue) := goodIn_app (goodIn_of _ (by decide +kernel)) ggX3_back_X0_residue
set_option maxRecDepth 20000 in
theorem ggX3_form_X3_kindOf : GoodIn wsX3_form wsX3_kindOf := goodIn_ca (goodIn_r _ [9, 10, 11, 12, 23, 24, 25, 26] (by decide +kernel) (by decide +kernel)) (goodIn_sub (fun _ h => List.mem_cons_of_mem _ (List.mem_append_right _ h)) (by decide +kernel))
set_option maxRecDepth 20000 in
theorem gX3_form_X3_kindOf : GoodIn wsX3_form (wsV RX3 31 RX3 yX3_kindOf wsX3_kindOf) := goodIn_app (goodIn_of _ (by decide +kernel)) ggX3_form_X3_kindOf
set_option maxRecDepth 20000 in
theorem ggX3_form_X3_isWithin : GoodIn wsX3_form wsX3_isWithin := goodIn_r _ [15] (by decide +kernel) (by decide +kernel)
set_option maxRecDepth 20000 in
theorem gX3_form_X3_isWithin : GoodIn wsX3_form (va_wsS RX3 39 yX3_isWithin wsX3_isWithin) := goodIn_app (goodIn_of _ (by decide +kernel)) ggX3_form_X3_isWithin
set_option maxRecDepth 20000 in
theorem ggX3_form_X0_formFor : GoodIn wsX3_form wsX0_formFor := goodIn_r _ [20, 21, 22, 27, 28, 29, 30] (by decide +kernel) (by decide +kernel)
set_option maxRecDepth 20000 in
theorem gX3_form_X0_formFor : GoodIn wsX3_form (wsV RX3 118 RX0 yX0_formFor wsX0_formFor) := goodIn_app (goodIn_of _ (by decide +kernel)) ggX3_form_X0_formFor
set_option maxRecDepth 20000 in
theorem ggX3_minutes_X3_isWithin : GoodIn wsX3_minutes wsX3_isWithin := goodIn_r _ [10] (by decide +kernel) (by decide +kernel)
set_option maxRecDepth 20000 in
theorem gX3_minutes_X3_isWithin : GoodIn wsX3_minutes (va_wsS RX3 39 yX3_isWithin wsX3_isWithin) := goodIn_app (goodIn_of _ (by decide +kernel)) ggX3_minutes_X3_isWithin
set_option maxRecDepth 20000 in
theorem ggX3_piece_X3_isWithin : GoodIn wsX3_piece wsX3_isWithin := goodIn_r _ [10] (by decide +kernel) (by decide +kernel)
set_option maxRecDepth 20000 in
theorem gX3_piece_X3_isWithin : GoodIn wsX3_piece (va_wsS RX3 39 yX3_isWithin wsX3_isWithin) := goodIn_app (goodIn_of _ (by decide +kernel)) ggX3_piece_X3_isWithin
set_option maxRecDepth 20000 in
theorem ggX3_piece_X1_add : GoodIn wsX3_piece wsX1_add := goodIn_r _ [15, 16, 17, 18, 19, 20, 21, 14, 22, 28, 29, 30] (by decide +kernel) (by decide +kernel)
set_option maxRecDepth 20000 in
theorem gX3_piece_X1_add : GoodIn wsX3_piece (wsV RX3 60 RX1 yX1_add wsX1_add) := goodIn_app (goodIn_of _ (by decide +kernel)) ggX3_piece_X1_add
set_option maxRecDepth 20000 in
theorem ggX3_clear_X1_removeAll : GoodIn wsX3_clear wsX1_removeAll := goodIn_r _ [6, 7, 13, 14, 15] (by decide +kernel) (by decide +kernel)
set_option maxRecDepth 20000 in
theorem gX3_clear_X1_removeAll : GoodIn wsX3_clear (wsV RX3 134 RX1 yX1_removeAll wsX1_removeAll) := goodIn_app (goodIn_of _ (by decide +kernel)) ggX3_clear_X1_removeAll
set_option maxRecDepth 20000 in
theorem ggX3_length_X3_isWithin : GoodIn wsX3_length wsX3_isWithin := goodIn_r _ [8] (by decide +kernel) (by decide +kernel)
set_option maxRecDepth 20000 in
theorem gX3_length_X3_isWithin : GoodIn wsX3_length (va_wsS RX3 39 yX3_isWithin wsX3_isWithin) := goodIn_app (goodIn_of _ (by decide +kernel)) ggX3_length_X3_isWithin
set_option maxRecDepth 20000 in
theorem ggX3_length_X2_isBendable : GoodIn wsX3_length wsX2_isBendable := goodIn_r _ [13, 14, 15, 16, 17, 18, 19, 20, 21, 22, 23, 24, 25, 26, 43, 44, 45, 46] (by decide +kernel) (by decide +kernel)
set_option maxRecDepth 20000 in
theorem gX3_length_X2_isBendable : GoodIn wsX3_length (wsV RX3 137 RX2 yX2_isBendable wsX2_isBendable) := goodIn_app (goodIn_of _ (by decide +kernel)) ggX3_length_X2_isBendable
set_option maxRecDepth 20000 in
theorem ggX3_length_X2_sumOfLengths : GoodIn wsX3_length wsX2_sumOfLengths := goodIn_r _ [30, 14, 31, 32, 33, 12, 34, 15, 35, 36, 37, 19, 38, 26, 22, 23, 24, 25, 21, 16, 17, 18, 20, 43, 44, 45, 46] (by decide +kernel) (by decide +kernel)
set_option maxRecDepth 20000 in
theorem gX3_length_X2_sumOfLengths : GoodIn wsX3_length (wsV RX3 142 RX2 yX2_sumOfLengths wsX2_sumOfLengths) := goodIn_app (goodIn_of _ (by decide +kernel)) ggX3_length_X2_sumOfLengths
set_option maxRecDepth 20000 in
theorem ggX3_kerfs_X3_isWithin : GoodIn wsX3_kerfs wsX3_isWithin := goodIn_r _ [13] (by decide +kernel) (by decide +kernel)
set_option maxRecDepth 20000 in
theorem gX3_kerfs_X3_isWithin : GoodIn wsX3_kerfs (va_wsS RX3 39 yX3_isWithin wsX3_isWithin) := goodIn_app (goodIn_of _ (by decide +kernel)) ggX3_kerfs_X3_isWithin
set_option maxRecDepth 20000 in
theorem ggX3_kerfs_X3_leastKerfs : GoodIn wsX3_kerfs wsX3_leastKerfs := goodIn_r _ [16, 17] (by decide +kernel) (by decide +kernel)
set_option maxRecDepth 20000 in
theorem gX3_kerfs_X3_leastKerfs : GoodIn wsX3_kerfs (va_wsS RX3 154 yX3_leastKerfs wsX3_leastKerfs) := goodIn_app (goodIn_of _ (by decide +kernel)) ggX3_kerfs_X3_leastKerfs
set_option maxRecDepth 20000 in
theorem ggX3_kerfAt_X3_isWithin : GoodIn wsX3_kerfAt wsX3_isWithin := goodIn_r _ [12] (by decide +kernel) (by decide +kernel)
set_option maxRecDepth 20000 in
theorem gX3_kerfAt_X3_isWithin : GoodIn wsX3_kerfAt (va_wsS RX3 39 yX3_isWithin wsX3_isWithin) := goodIn_app (goodIn_of _ (by decide +kernel)) ggX3_kerfAt_X3_isWithin
set_option maxRecDepth 20000 in
theorem ggX3_broken_X3_commonDivisor : GoodIn wsX3_broken wsX3_commonDivisor := goodIn_r _ [9] (by decide +kernel) (by decide +kernel)
set_option maxRecDepth 20000 in
theorem gX3_broken_X3_commonDivisor : GoodIn wsX3_broken (va_wsS RX3 168 yX3_commonDivisor wsX3_commonDivisor) := goodIn_app (goodIn_of _ (by decide +kernel)) ggX3_broken_X3_commonDivisor
set_option maxRecDepth 20000 in
theorem ggX3_relaxed_X3_kindOf : GoodIn wsX3_relaxed wsX3_kindOf := goodIn_ca (goodIn_r _ [8, 9, 10, 11, 16, 17, 18, 19] (by decide +kernel) (by decide +kernel)) (goodIn_sub (fun _ h => List.mem_cons_of_mem _ (List.mem_append_right _ h)) (by decide +kernel))
set_option maxRecDepth 20000 in
theorem gX3_relaxed_X3_kindOf : GoodIn wsX3_relaxed (wsV RX3 31 RX3 yX3_kindOf wsX3_kindOf) := goodIn_app (goodIn_of _ (by decide +kernel)) ggX3_relaxed_X3_kindOf
set_option maxRecDepth 20000 in
theorem ggX4_table_X4_isKind : GoodIn wsX4_table wsX4_isKind := goodIn_r _ [11] (by decide +kernel) (by decide +kernel)
set_option maxRecDepth 20000 in
theorem gX4_table_X4_isKind : GoodIn wsX4_table (va_wsS RX4 47 yX4_isKind wsX4_isKind) := goodIn_app (goodIn_of _ (by decide +kernel)) ggX4_table_X4_isKind
set_option maxRecDepth 20000 in
theorem ggX4_table_X4_isIn : GoodIn wsX4_table wsX4_isIn := goodIn_r _ [14] (by decide +kernel) (by decide +kernel)
set_option maxRecDepth 20000 in
theorem gX4_table_X4_isIn : GoodIn wsX4_table (va_wsS RX4 55 yX4_isIn wsX4_isIn) := goodIn_app (goodIn_of _ (by decide +kernel)) ggX4_table_X4_isIn
set_option maxRecDepth 20000 in
theorem ggX4_radius_X4_isKind : GoodIn wsX4_radius wsX4_isKind := goodIn_r _ [7] (by decide +kernel) (by decide +kernel)
set_option maxRecDepth 20000 in
theorem gX4_radius_X4_isKind : GoodIn wsX4_radius (va_wsS RX4 47 yX4_isKind wsX4_isKind) := goodIn_app (goodIn_of _ (by decide +kernel)) ggX4_radius_X4_isKind
set_option maxRecDepth 20000 in
theorem ggX4_radius_X4_isIn : GoodIn wsX4_radius wsX4_isIn := goodIn_r _ [10] (by decide +kernel) (by decide +kernel)
set_option maxRecDepth 20000 in
theorem gX4_radius_X4_isIn : GoodIn wsX4_radius (va_wsS RX4 55 yX4_isIn wsX4_isIn) := goodIn_app (goodIn_of _ (by decide +kernel)) ggX4_radius_X4_isIn
set_option maxRecDepth 20000 in
theorem ggX4_radius_X4_radiusAt : GoodIn wsX4_radius wsX4_radiusAt := goodIn_r _ [14, 3, 15, 16, 17, 18, 19, 20, 21, 22, 23, 24, 25, 26, 27, 28, 29, 30, 31, 32] (by decide +kernel) (by decide +kernel)
set_option maxRecDepth 20000 in
theorem gX4_radius_X4_radiusAt : GoodIn wsX4_radius (wsV RX4 65 RX4 yX4_radiusAt wsX4_radiusAt) := goodIn_app (goodIn_of _ (by decide +kernel)) ggX4_radius_X4_radiusAt
set_option maxRecDepth 20000 in
theorem ggX4_strips_X4_isKind : GoodIn wsX4_strips wsX4_isKind := goodIn_r _ [8] (by decide +kernel) (by decide +kernel)
set_option maxRecDepth 20000 in
theorem gX4_strips_X4_isKind : GoodIn wsX4_strips (va_wsS RX4 47 yX4_isKind wsX4_isKind) := goodIn_app (goodIn_of _ (by decide +kernel)) ggX4_strips_X4_isKind
set_option maxRecDepth 20000 in
theorem ggX4_strips_X4_isIn : GoodIn wsX4_strips wsX4_isIn := goodIn_r _ [11] (by decide +kernel) (by decide +kernel)
set_option maxRecDepth 20000 in
theorem gX4_strips_X4_isIn : GoodIn wsX4_strips (va_wsS RX4 55 yX4_isIn wsX4_isIn) := goodIn_app (goodIn_of _ (by decide +kernel)) ggX4_strips_X4_isIn
set_option maxRecDepth 20000 in
theorem ggX4_strips_X4_radiusAt : GoodIn wsX4_strips wsX4_radiusAt := goodIn_r _ [15, 4, 16, 17, 18, 19, 20, 21, 22, 23, 24, 25, 26, 27, 28, 29, 30, 31, 32, 33] (by decide +kernel) (by decide +kernel)
set_option maxRecDepth 20000 in
theorem gX4_strips_X4_radiusAt : GoodIn wsX4_strips (wsV RX4 65 RX4 yX4_radiusAt wsX4_radiusAt) := goodIn_app (goodIn_of _ (by decide +kernel)) ggX4_strips_X4_radiusAt
set_option maxRecDepth 20000 in
theorem ggX4_read_X4_isKind : GoodIn wsX4_read wsX4_isKind := goodIn_r _ [11] (by decide +kernel) (by decide +kernel)
set_option maxRecDepth 20000 in
theorem gX4_read_X4_isKind : GoodIn wsX4_read (va_wsS RX4 47 yX4_isKind wsX4_isKind) := goodIn_app (goodIn_of _ (by decide +kernel)) ggX4_read_X4_isKind
set_option maxRecDepth 20000 in
theorem ggX4_read_X4_isIn : GoodIn wsX4_read wsX4_isIn := goodIn_r _ [14] (by decide +kernel) (by decide +kernel)
set_option maxRecDepth 20000 in
theorem gX4_read_X4_isIn : GoodIn wsX4_read (va_wsS RX4 55 yX4_isIn wsX4_isIn) := goodIn_app (goodIn_of _ (by decide +kernel)) ggX4_read_X4_isIn
set_option maxRecDepth 20000 in
theorem ggX4_improves_X4_residue : GoodIn wsX4_improves wsX4_residue := goodIn_r _ [8, 9, 10, 11, 12, 13, 14, 15, 16, 17, 18, 19, 20, 21, 22, 23, 24, 25, 26] (by decide +kernel) (by decide +kernel)
set_option maxRecDepth 20000 in
theorem gX4_improves_X4_residue : GoodIn wsX4_improves (wsV RX4 71 RX4 yX4_residue wsX4_residue) := goodIn_app (goodIn_of _ (by decide +kernel)) ggX4_improves_X4_residue
set_option maxRecDepth 20000 in
theorem ggX4_fit_X4_isKind : GoodIn wsX4_fit wsX4_isKind := goodIn_r _ [5] (by decide +kernel) (by decide +kernel)
set_option maxRecDepth 20000 in
theorem gX4_fit_X4_isKind : GoodIn wsX4_fit (va_wsS RX4 47 yX4_isKind wsX4_isKind) := goodIn_app (goodIn_of _ (by decide +kernel)) ggX4_fit_X4_isKind
set_option maxRecDepth 20000 in
theorem ggX4_fit_X4_improves : GoodIn wsX4_fit wsX4_improves := goodIn_r _ [9, 10, 11, 12, 13, 14, 15, 4, 16, 17, 18, 19, 20, 21, 22, 23, 24, 25, 26, 27, 28, 29, 30, 31, 32, 33, 34] (by decide +kernel) (by decide +kernel)
set_option maxRecDepth 20000 in
theorem gX4_fit_X4_improves : GoodIn wsX4_fit (wsV RX4 76 RX4 yX4_improves wsX4_improves) := goodIn_app (goodIn_of _ (by decide +kernel)) ggX4_fit_X4_improves
set_option maxRecDepth 20000 in
theorem ggX4_back_X4_isKind : GoodIn wsX4_back wsX4_isKind := goodIn_r _ [7] (by decide +kernel) (by decide +kernel)
set_option maxRecDepth 20000 in
theorem gX4_back_X4_isKind : GoodIn wsX4_back (va_wsS RX4 47 yX4_isKind wsX4_isKind) := goodIn_app (goodIn_of _ (by decide +kernel)) ggX4_back_X4_isKind
set_option maxRecDepth 20000 in
theorem ggX4_back_X4_residue : GoodIn wsX4_back wsX4_residue := goodIn_r _ [11, 12, 13, 14, 15, 16, 17, 18, 19, 20, 21, 22, 23, 24, 25, 26, 27, 28, 29] (by decide +kernel) (by decide +kernel)
set_option maxRecDepth 20000 in
theorem gX4_back_X4_residue : GoodIn wsX4_back (wsV RX4 71 RX4 yX4_residue wsX4_residue) := goodIn_app (goodIn_of _ (by decide +kernel)) ggX4_back_X4_residue
set_option maxRecDepth 20000 in
theorem ggX4_form_X4_isKind : GoodIn wsX4_form wsX4_isKind := goodIn_r _ [9] (by decide +kernel) (by decide +kernel)
set_option maxRecDepth 20000 in
theorem gX4_form_X4_isKind : GoodIn wsX4_form (va_wsS RX4 47 yX4_isKind wsX4_isKind) := goodIn_app (goodIn_of _ (by decide +kernel)) ggX4_form_X4_isKind
set_option maxRecDepth 20000 in
theorem ggX4_form_X4_isIn : GoodIn wsX4_form wsX4_isIn := goodIn_r _ [12] (by decide +kernel) (by decide +kernel)
set_option maxRecDepth 20000 in
theorem gX4_form_X4_isIn : GoodIn wsX4_form (va_wsS RX4 55 yX4_isIn wsX4_isIn) := goodIn_app (goodIn_of _ (by decide +kernel)) ggX4_form_X4_isIn
set_option maxRecDepth 20000 in
theorem ggX4_minutes_X4_isIn : GoodIn wsX4_minutes wsX4_isIn := goodIn_r _ [9] (by decide +kernel) (by decide +kernel)
set_option maxRecDepth 20000 in
theorem gX4_minutes_X4_isIn : GoodIn wsX4_minutes (va_wsS RX4 55 yX4_isIn wsX4_isIn) := goodIn_app (goodIn_of _ (by decide +kernel)) ggX4_minutes_X4_isIn
set_option maxRecDepth 20000 in
theorem ggX4_piece_X4_isIn : GoodIn wsX4_piece wsX4_isIn := goodIn_r _ [9] (by decide +kernel) (by decide +kernel)
set_option maxRecDepth 20000 in
theorem gX4_piece_X4_isIn : GoodIn wsX4_piece (va_wsS RX4 55 yX4_isIn wsX4_isIn) := goodIn_app (goodIn_of _ (by decide +kernel)) ggX4_piece_X4_isIn
set_option maxRecDepth 20000 in
theorem ggX4_length_X4_isIn : GoodIn wsX4_length wsX4_isIn := goodIn_r _ [10] (by decide +kernel) (by decide +kernel)
set_option maxRecDepth 20000 in
theorem gX4_length_X4_isIn : GoodIn wsX4_length (va_wsS RX4 55 yX4_isIn wsX4_isIn) := goodIn_app (goodIn_of _ (by decide +kernel)) ggX4_length_X4_isIn
set_option maxRecDepth 20000 in
theorem ggX4_kerfs_X4_isIn : GoodIn wsX4_kerfs wsX4_isIn := goodIn_r _ [12] (by decide +kernel) (by decide +kernel)
set_option maxRecDepth 20000 in
theorem gX4_kerfs_X4_isIn : GoodIn wsX4_kerfs (va_wsS RX4 55 yX4_isIn wsX4_isIn) := goodIn_app (goodIn_of _ (by decide +kernel)) ggX4_kerfs_X4_isIn
set_option maxRecDepth 20000 in
theorem ggX4_kerfAt_X4_isIn : GoodIn wsX4_kerfAt wsX4_isIn := goodIn_r _ [7] (by decide +kernel) (by decide +kernel)
set_option maxRecDepth 20000 in
theorem gX4_kerfAt_X4_isIn : GoodIn wsX4_kerfAt (va_wsS RX4 55 yX4_isIn wsX4_isIn) := goodIn_app (goodIn_of _ (by decide +kernel)) ggX4_kerfAt_X4_isIn
set_option maxRecDepth 20000 in
theorem ggX4_broken_X4_common : GoodIn wsX4_broken wsX4_common := goodIn_r _ [6] (by decide +kernel) (by decide +kernel)
set_option maxRecDepth 20000 in
theorem gX4_broken_X4_common : GoodIn wsX4_broken (va_wsS RX4 102 yX4_common wsX4_common) := goodIn_app (goodIn_of _ (by decide +kernel)) ggX4_broken_X4_common
set_option maxRecDepth 20000 in
theorem ggX4_relaxed_X4_isKind : GoodIn wsX4_relaxed wsX4_isKind := goodIn_r _ [7] (by decide +kernel) (by decide +kernel)
set_option maxRecDepth 20000 in
theorem gX4_relaxed_X4_isKind : GoodIn wsX4_relaxed (va_wsS RX4 47 yX4_isKind wsX4_isKind) := goodIn_app (goodIn_of _ (by decide +kernel)) ggX4_relaxed_X4_isKind
set_option maxRecDepth 20000 in
theorem ggL_table_X3_table : GoodIn wsL_table wsX3_table := goodIn_ca (goodIn_ca (goodIn_ca (goodIn_r _ [8, 9, 10, 11, 12, 13, 14, 15, 16, 17, 18, 7, 19, 20, 21, 22, 23, 24, 25, 26, 27, 28, 29, 30, 31, 32, 33, 34, 35, 36, 37, 38, 39, 40, 41, 42, 43, 44, 45, 46, 47, 48, 49, 50, 51, 52, 53, 54, 55, 56, 57, 58] (by decide +kernel) (by decide +kernel)) (goodIn_sub (fun _ h => List.mem_cons_of_mem _ (List.mem_append_left _ (List.mem_append_left _ (List.mem_append_right _ h)))) (by decide +kernel))) (goodIn_sub (fun _ h => List.mem_cons_of_mem _ (List.mem_append_left _ (List.mem_append_right _ h))) (by decide +kernel))) (goodIn_sub (fun _ h => List.mem_cons_of_mem _ (List.mem_append_right _ h)) (by decide +kernel))
set_option maxRecDepth 20000 in
theorem gL_table_X3_table : GoodIn wsL_table (wsV RL 7 RX3 yX3_table wsX3_table) := goodIn_app (goodIn_of _ (by decide +kernel)) ggL_table_X3_table
set_option maxRecDepth 20000 in
theorem ggL_radius_X3_radius : GoodIn wsL_radius wsX3_radius := goodIn_ca (goodIn_ca (goodIn_ca (goodIn_r _ [8, 9, 10, 11, 12, 13, 14, 15, 16, 7, 17, 18, 19, 20, 21, 22, 23, 24, 25, 26, 27, 28, 29, 30, 31, 32, 33, 34, 35, 36, 37, 38, 39, 40, 41, 42, 43, 44, 45, 46, 47, 48, 49, 50, 51, 52, 53, 54, 55, 56, 57, 58, 59, 60, 61, 62, 63] (by decide +kernel) (by decide +kernel)) (goodIn_sub (fun _ h => List.mem_cons_of_mem _ (List.mem_append_left _ (List.mem_append_left _ (List.mem_append_right _ h)))) (by decide +kernel))) (goodIn_sub (fun _ h => List.mem_cons_of_mem _ (List.mem_append_left _ (List.mem_append_right _ h))) (by decide +kernel))) (goodIn_sub (fun _ h => List.mem_cons_of_mem _ (List.mem_append_right _ h)) (by decide +kernel))
set_option maxRecDepth 20000 in
theorem gL_radius_X3_radius : GoodIn wsL_radius (wsV RL 19 RX3 yX3_radius wsX3_radius) := goodIn_app (goodIn_of _ (by decide +kernel)) ggL_radius_X3_radius
set_option maxRecDepth 20000 in
theorem ggL_strips_X3_strips : GoodIn wsL_strips wsX3_strips := goodIn_ca (goodIn_ca (goodIn_r _ [7, 8, 9, 10, 11, 12, 13, 14, 6, 15, 16, 17, 18, 19, 20, 21, 22, 23, 24, 25, 26, 27, 28, 29, 30, 31, 32, 33, 34, 35, 36, 37, 38, 39, 40, 41, 42, 43, 44, 45, 46, 47, 48, 49, 50, 51, 52, 53, 54, 55, 56, 57, 58, 59, 60, 61, 62, 63, 64] (by decide +kernel) (by decide +kernel)) (goodIn_sub (fun _ h => List.mem_cons_of_mem _ (List.mem_append_left _ (List.mem_append_right _ h))) (by decide +kernel))) (goodIn_sub (fun _ h => List.mem_cons_of_mem _ (List.mem_append_right _ h)) (by decide +kernel))
set_option maxRecDepth 20000 in
theorem gL_strips_X3_strips : GoodIn wsL_strips (wsV RL 23 RX3 yX3_strips wsX3_strips) := goodIn_app (goodIn_of _ (by decide +kernel)) ggL_strips_X3_strips
set_option maxRecDepth 20000 in
theorem ggL_read_X3_read : GoodIn wsL_read wsX3_read := goodIn_ca (goodIn_ca (goodIn_ca (goodIn_r _ [8, 9, 10, 11, 12, 13, 14, 15, 16, 17, 18, 7, 19, 20, 21, 22, 23, 24, 25, 26, 27, 28, 29, 30, 31, 32, 33, 34, 35, 36, 37, 38, 39, 40, 41, 42, 43, 44, 45, 46, 47, 48] (by decide +kernel) (by decide +kernel)) (goodIn_sub (fun _ h => List.mem_cons_of_mem _ (List.mem_append_left _ (List.mem_append_left _ (List.mem_append_right _ h)))) (by decide +kernel))) (goodIn_sub (fun _ h => List.mem_cons_of_mem _ (List.mem_append_left _ (List.mem_append_right _ h))) (by decide +kernel))) (goodIn_sub (fun _ h => List.mem_cons_of_mem _ (List.mem_append_right _ h)) (by decide +kernel))
set_option maxRecDepth 20000 in
theorem gL_read_X3_read : GoodIn wsL_read (wsV RL 26 RX3 yX3_read wsX3_read) := goodIn_app (goodIn_of _ (by decide +kernel)) ggL_read_X3_read
set_option maxRecDepth 20000 in
theorem ggL_fit_X3_fit : GoodIn wsL_fit wsX3_fit := goodIn_ca (goodIn_ca (goodIn_r _ [7, 8, 9, 10, 11, 12, 6, 13, 14, 15, 16, 17, 18, 19, 20, 21, 22, 23, 24, 25, 26, 27, 28, 29, 30, 31, 32, 33, 34, 35, 36, 37, 38, 39, 40, 41, 42, 43, 44, 45, 46, 47, 48, 49, 50, 51, 52, 53, 54, 55] (by decide +kernel) (by decide +kernel)) (goodIn_sub (fun _ h => List.mem_cons_of_mem _ (List.mem_append_left _ (List.mem_append_right _ h))) (by decide +kernel))) (goodIn_sub (fun _ h => List.mem_cons_of_mem _ (List.mem_append_right _ h)) (by decide +kernel))
set_option maxRecDepth 20000 in
theorem gL_fit_X3_fit : GoodIn wsL_fit (wsV RL 29 RX3 yX3_fit wsX3_fit) := goodIn_app (goodIn_of _ (by decide +kernel)) ggL_fit_X3_fit
set_option maxRecDepth 20000 in
theorem ggL_back_X3_back : GoodIn wsL_back wsX3_back := goodIn_ca (goodIn_r _ [6, 7, 8, 9, 10, 11, 5, 12, 13, 14, 15, 16, 17, 18, 19, 20, 21, 22, 23, 24, 25, 26, 27, 28, 29, 30, 31, 32, 33, 34, 35, 36, 37, 38, 39, 40, 41, 42, 43, 44, 45] (by decide +kernel) (by decide +kernel)) (goodIn_sub (fun _ h => List.mem_cons_of_mem _ (List.mem_append_right _ h)) (by decide +kernel))
set_option maxRecDepth 20000 in
theorem gL_back_X3_back : GoodIn wsL_back (wsV RL 33 RX3 yX3_back wsX3_back) := goodIn_app (goodIn_of _ (by decide +kernel)) ggL_back_X3_back
set_option maxRecDepth 20000 in
theorem ggL_form_X3_form : GoodIn wsL_form wsX3_form := goodIn_ca (goodIn_ca (goodIn_r _ [7, 8, 9, 10, 11, 12, 13, 14, 6, 15, 16, 17, 18, 19, 20, 21, 22, 23, 24, 25, 26, 27, 28, 29, 30, 31, 32, 33, 34, 35, 36] (by decide +kernel) (by decide +kernel)) (goodIn_sub (fun _ h => List.mem_cons_of_mem _ (List.mem_append_left _ (List.mem_append_right _ h))) (by decide +kernel))) (goodIn_sub (fun _ h => List.mem_cons_of_mem _ (List.mem_append_right _ h)) (by decide +kernel))
set_option maxRecDepth 20000 in
theorem gL_form_X3_form : GoodIn wsL_form (wsV RL 37 RX3 yX3_form wsX3_form) := goodIn_app (goodIn_of _ (by decide +kernel)) ggL_form_X3_form
set_option maxRecDepth 20000 in
theorem ggL_minutes_X3_minutes : GoodIn wsL_minutes wsX3_minutes := goodIn_ca (goodIn_r _ [6, 7, 8, 9, 10, 11, 12, 13, 14, 5, 15] (by decide +kernel) (by decide +kernel)) (goodIn_sub (fun _ h => List.mem_cons_of_mem _ (List.mem_append_right _ h)) (by decide +kernel))
set_option maxRecDepth 20000 in
theorem gL_minutes_X3_minutes : GoodIn wsL_minutes (wsV RL 40 RX3 yX3_minutes wsX3_minutes) := goodIn_app (goodIn_of _ (by decide +kernel)) ggL_minutes_X3_minutes
set_option maxRecDepth 20000 in
theorem ggL_piece_X3_piece : GoodIn wsL_piece wsX3_piece := goodIn_ca (goodIn_ca (goodIn_r _ [7, 8, 9, 10, 11, 12, 13, 14, 15, 6, 16, 17, 18, 19, 20, 21, 22, 23, 24, 25, 26, 27, 28, 29, 30, 31, 32, 33, 34, 35, 36] (by decide +kernel) (by decide +kernel)) (goodIn_sub (fun _ h => List.mem_cons_of_mem _ (List.mem_append_left _ (List.mem_append_right _ h))) (by decide +kernel))) (goodIn_sub (fun _ h => List.mem_cons_of_mem _ (List.mem_append_right _ h)) (by decide +kernel))
set_option maxRecDepth 20000 in
theorem gL_piece_X3_piece : GoodIn wsL_piece (wsV RL 44 RX3 yX3_piece wsX3_piece) := goodIn_app (goodIn_of _ (by decide +kernel)) ggL_piece_X3_piece
set_option maxRecDepth 20000 in
theorem ggL_length_X3_length : GoodIn wsL_length wsX3_length := goodIn_ca (goodIn_r _ [6, 7, 8, 9, 10, 11, 12, 5, 13, 14, 15, 16, 17, 18, 19, 20, 21, 22, 23, 24, 25, 26, 27, 28, 29, 30, 31, 32, 33, 34, 35, 36, 37, 38, 39, 40, 41, 42, 43, 44, 45, 46, 47, 48, 49, 50, 51] (by decide +kernel) (by decide +kernel)) (goodIn_sub (fun _ h => List.mem_cons_of_mem _ (List.mem_append_right _ h)) (by decide +kernel))
set_option maxRecDepth 20000 in
theorem gL_length_X3_length : GoodIn wsL_length (wsV RL 48 RX3 yX3_length wsX3_length) := goodIn_app (goodIn_of _ (by decide +kernel)) ggL_length_X3_length
set_option maxRecDepth 20000 in
theorem ggL_kerfs_X3_kerfs : GoodIn wsL_kerfs wsX3_kerfs := goodIn_ca (goodIn_r _ [6, 7, 8, 9, 10, 11, 12, 13, 14, 15, 16, 17, 5, 18, 19, 20, 21, 22, 23, 24, 25, 26] (by decide +kernel) (by decide +kernel)) (goodIn_sub (fun _ h => List.mem_cons_of_mem _ (List.mem_append_right _ h)) (by decide +kernel))
set_option maxRecDepth 20000 in
theorem gL_kerfs_X3_kerfs : GoodIn wsL_kerfs (wsV RL 52 RX3 yX3_kerfs wsX3_kerfs) := goodIn_app (goodIn_of _ (by decide +kernel)) ggL_kerfs_X3_kerfs
set_option maxRecDepth 20000 in
theorem ggL_kerfAt_X3_kerfAt : GoodIn wsL_kerfAt wsX3_kerfAt := goodIn_ca (goodIn_ca (goodIn_ca (goodIn_r _ [8, 9, 10, 11, 12, 13, 14, 15, 16, 17, 18, 7, 19, 20, 21, 22, 23] (by decide +kernel) (by decide +kernel)) (goodIn_sub (fun _ h => List.mem_cons_of_mem _ (List.mem_append_left _ (List.mem_append_left _ (List.mem_append_right _ h)))) (by decide +kernel))) (goodIn_sub (fun _ h => List.mem_cons_of_mem _ (List.mem_append_left _ (List.mem_append_right _ h))) (by decide +kernel))) (goodIn_sub (fun _ h => List.mem_cons_of_mem _ (List.mem_append_right _ h)) (by decide +kernel))
set_option maxRecDepth 20000 in
theorem gL_kerfAt_X3_kerfAt : GoodIn wsL_kerfAt (wsV RL 56 RX3 yX3_kerfAt wsX3_kerfAt) := goodIn_app (goodIn_of _ (by decide +kernel)) ggL_kerfAt_X3_kerfAt
set_option maxRecDepth 20000 in
theorem ggL_rest_X3_rest : GoodIn wsL_rest wsX3_rest := goodIn_ca (goodIn_r _ [6, 7, 8, 9, 10, 11, 12, 13, 14] (by decide +kernel) (by decide +kernel)) (goodIn_sub (fun _ h => List.mem_cons_of_mem _ (List.mem_append_right _ h)) (by decide +kernel))
set_option maxRecDepth 20000 in
theorem gL_rest_X3_rest : GoodIn wsL_rest (wsV RL 59 RX3 yX3_rest wsX3_rest) := goodIn_app (goodIn_of _ (by decide +kernel)) ggL_rest_X3_rest
set_option maxRecDepth 20000 in
theorem ggL_broken_X3_broken : GoodIn wsL_broken wsX3_broken := goodIn_ca (goodIn_ca (goodIn_r _ [7, 8, 9, 10, 11, 12, 13, 14, 6, 15] (by decide +kernel) (by decide +kernel)) (goodIn_sub (fun _ h => List.mem_cons_of_mem _ (List.mem_append_left _ (List.mem_append_right _ h))) (by decide +kernel))) (goodIn_sub (fun _ h => List.mem_cons_of_mem _ (List.mem_append_right _ h)) (by decide +kernel))
set_option maxRecDepth 20000 in
theorem gL_broken_X3_broken : GoodIn wsL_broken (wsV RL 63 RX3 yX3_broken wsX3_broken) := goodIn_app (goodIn_of _ (by decide +kernel)) ggL_broken_X3_broken
set_option maxRecDepth 20000 in
theorem ggL_relaxed_X3_relaxed : GoodIn wsL_relaxed wsX3_relaxed := goodIn_ca (goodIn_ca (goodIn_r _ [7, 8, 9, 10, 11, 12, 13, 6, 14, 15, 16, 17, 18, 19, 20, 21, 22, 23, 24, 25] (by decide +kernel) (by decide +kernel)) (goodIn_sub (fun _ h => List.mem_cons_of_mem _ (List.mem_append_left _ (List.mem_append_right _ h))) (by decide +kernel))) (goodIn_sub (fun _ h => List.mem_cons_of_mem _ (List.mem_append_right _ h)) (by decide +kernel))
set_option maxRecDepth 20000 in
theorem gL_relaxed_X3_relaxed : GoodIn wsL_relaxed (wsV RL 67 RX3 yX3_relaxed wsX3_relaxed) := goodIn_app (goodIn_of _ (by decide +kernel)) ggL_relaxed_X3_relaxed
set_option maxRecDepth 20000 in
theorem ggL_law_X3_init : GoodIn wsL_law wsX3_init := goodIn_r _ [11, 12, 13, 14, 15, 16, 17, 18, 19, 20, 21, 22, 23, 24, 25, 26, 27, 28, 29, 30, 31, 32, 33, 34, 35, 36, 37, 38, 39, 40, 7, 41, 42, 43, 44, 45, 46, 47, 48, 49, 50, 51, 52, 391, 392, 393, 394, 410, 411, 412, 413, 414, 415, 416, 417] (by decide +kernel) (by decide +kernel)
set_option maxRecDepth 20000 in
theorem gL_law_X3_init : GoodIn wsL_law (wsX3_init) := ggL_law_X3_init
set_option maxRecDepth 20000 in
theorem ggL_law_X4_init : GoodIn wsL_law wsX4_init := goodIn_r _ [55, 56, 13, 14, 57, 58, 7, 59, 60, 61, 62, 63, 64, 65, 66, 67, 68, 395, 396, 397, 398, 399, 400, 401, 402, 403, 404, 405, 406, 407, 408, 409] (by decide +kernel) (by decide +kernel)
set_option maxRecDepth 20000 in
theorem gL_law_X4_init : GoodIn wsL_law (wsX4_init) := ggL_law_X4_init
set_option maxRecDepth 20000 in
theorem ggL_law_L_table : GoodIn wsL_law wsL_table := goodIn_ca (goodIn_ca (goodIn_ca (goodIn_r _ [72, 73, 74, 75, 76, 77, 78, 2, 79, 80, 81, 82, 83, 84, 85, 86, 87, 88, 89, 90, 91, 92, 16, 93, 94, 95, 96, 97, 98, 24, 99, 47, 100, 101, 102, 30, 103, 41, 104, 105, 106, 107, 42, 108, 109, 110, 111, 36, 411, 412, 413, 414, 391, 392, 393, 394, 415, 416, 417] (by decide +kernel) (by decide +kernel)) (goodIn_sub (fun _ h => List.mem_append_left _ (List.mem_append_left _ (List.mem_append_right _ h))) (by decide +kernel))) (goodIn_sub (fun _ h => List.mem_append_left _ (List.mem_append_right _ h)) (by decide +kernel))) (goodIn_sub (fun _ h => List.mem_append_right _ h) (by decide +kernel))
set_option maxRecDepth 20000 in
theorem gL_law_L_table : GoodIn wsL_law (va_wsS RL 76 yL_table wsL_table) := goodIn_app (goodIn_of _ (by decide +kernel)) ggL_law_L_table
set_option maxRecDepth 20000 in
theorem ggL_law_X4_table : GoodIn wsL_law wsX4_table := goodIn_r _ [115, 116, 58, 117, 118, 119, 59, 60, 120, 121, 5, 122, 123, 124, 125, 395, 396, 397, 398, 399, 400, 401, 402, 403, 404, 405, 406, 407, 408, 409] (by decide +kernel) (by decide +kernel)
set_option maxRecDepth 20000 in
theorem gL_law_X4_table : GoodIn wsL_law (wsV RL 81 RX4 yX4_table wsX4_table) := goodIn_app (goodIn_of _ (by decide +kernel)) ggL_law_X4_table
set_option maxRecDepth 20000 in
theorem ggL_law_X4_thrown : GoodIn wsL_law wsX4_thrown := goodIn_r _ [129, 116, 395, 396, 397, 398, 399, 400, 401, 402, 403, 404, 405, 406, 407, 408, 409] (by decide +kernel) (by decide +kernel)
set_option maxRecDepth 20000 in
theorem gL_law_X4_thrown : GoodIn wsL_law (wsV RL 82 RX4 yX4_thrown wsX4_thrown) := goodIn_app (goodIn_of _ (by decide +kernel)) ggL_law_X4_thrown
set_option maxRecDepth 20000 in
theorem ggL_law_L_radius : GoodIn wsL_law wsL_radius := goodIn_ca (goodIn_ca (goodIn_ca (goodIn_r _ [132, 73, 74, 75, 133, 134, 135, 2, 136, 80, 81, 82, 83, 85, 87, 88, 89, 90, 91, 92, 16, 93, 94, 95, 137, 138, 139, 24, 140, 47, 141, 100, 101, 102, 30, 103, 41, 104, 105, 106, 107, 42, 142, 143, 144, 145, 146, 147, 148, 149, 150, 151, 152, 391, 392, 393, 394, 411, 412, 413, 414, 415, 416, 417] (by decide +kernel) (by decide +kernel)) (goodIn_sub (fun _ h => List.mem_append_left _ (List.mem_append_left _ (List.mem_append_right _ h))) (by decide +kernel))) (goodIn_sub (fun _ h => List.mem_append_left _ (List.mem_append_right _ h)) (by decide +kernel))) (goodIn_sub (fun _ h => List.mem_append_right _ h) (by decide +kernel))
set_option maxRecDepth 20000 in
theorem gL_law_L_radius : GoodIn wsL_law (va_wsS RL 86 yL_radius wsL_radius) := goodIn_app (goodIn_of _ (by decide +kernel)) ggL_law_L_radius
set_option maxRecDepth 20000 in
theorem ggL_law_X4_radius : GoodIn wsL_law wsX4_radius := goodIn_r _ [156, 118, 116, 157, 120, 121, 5, 122, 123, 124, 125, 158, 159, 160, 161, 58, 59, 60, 395, 396, 397, 398, 399, 400, 401, 402, 403, 404, 405, 406, 407, 408, 409] (by decide +kernel) (by decide +kernel)
set_option maxRecDepth 20000 in
theorem gL_law_X4_radius : GoodIn wsL_law (wsV RL 89 RX4 yX4_radius wsX4_radius) := goodIn_app (goodIn_of _ (by decide +kernel)) ggL_law_X4_radius
set_option maxRecDepth 20000 in
theorem ggL_law_L_strips : GoodIn wsL_law wsL_strips := goodIn_ca (goodIn_ca (goodIn_r _ [164, 73, 74, 165, 166, 167, 2, 168, 80, 81, 84, 86, 87, 88, 89, 90, 91, 92, 16, 93, 94, 95, 169, 170, 171, 24, 172, 173, 138, 139, 140, 47, 141, 100, 101, 102, 30, 103, 41, 104, 105, 106, 107, 42, 142, 143, 144, 145, 146, 147, 148, 149, 151, 152, 391, 392, 393, 394, 411, 412, 413, 414, 415, 416, 417] (by decide +kernel) (by decide +kernel)) (goodIn_sub (fun _ h => List.mem_append_left _ (List.mem_append_left _ (List.mem_append_right _ h))) (by decide +kernel))) (goodIn_sub (fun _ h => List.mem_append_right _ h) (by decide +kernel))
set_option maxRecDepth 20000 in
theorem gL_law_L_strips : GoodIn wsL_law (va_wsS RL 90 yL_strips wsL_strips) := goodIn_app (goodIn_of _ (by decide +kernel)) ggL_law_L_strips
set_option maxRecDepth 20000 in
theorem ggL_law_X4_strips : GoodIn wsL_law wsX4_strips := goodIn_r _ [177, 117, 119, 116, 157, 120, 121, 5, 122, 123, 124, 125, 158, 159, 160, 161, 58, 59, 60, 395, 396, 397, 398, 399, 400, 401, 402, 403, 404, 405, 406, 407, 408, 409] (by decide +kernel) (by decide +kernel)
set_option maxRecDepth 20000 in
theorem gL_law_X4_strips : GoodIn wsL_law (wsV RL 92 RX4 yX4_strips wsX4_strips) := goodIn_app (goodIn_of _ (by decide +kernel)) ggL_law_X4_strips
set_option maxRecDepth 20000 in
theorem ggL_law_L_read : GoodIn wsL_law wsL_read := goodIn_ca (goodIn_ca (goodIn_ca (goodIn_r _ [180, 73, 74, 75, 181, 182, 183, 2, 184, 80, 81, 82, 83, 84, 86, 185, 87, 88, 89, 90, 91, 92, 16, 93, 94, 95, 108, 109, 110, 30, 111, 36, 41, 42, 104, 105, 106, 107, 411, 412, 413, 414, 391, 392, 393, 394, 415, 416, 417] (by decide +kernel) (by decide +kernel)) (goodIn_sub (fun _ h => List.mem_append_left _ (List.mem_append_left _ (List.mem_append_right _ h))) (by decide +kernel))) (goodIn_sub (fun _ h => List.mem_append_left _ (List.mem_append_right _ h)) (by decide +kernel))) (goodIn_sub (fun _ h => List.mem_append_right _ h) (by decide +kernel))
set_option maxRecDepth 20000 in
theorem gL_law_L_read : GoodIn wsL_law (va_wsS RL 93 yL_read wsL_read) := goodIn_app (goodIn_of _ (by decide +kernel)) ggL_law_L_read
set_option maxRecDepth 20000 in
theorem ggL_law_X4_read : GoodIn wsL_law wsX4_read := goodIn_r _ [189, 117, 119, 190, 61, 116, 62, 63, 120, 121, 5, 122, 123, 124, 125, 395, 396, 397, 398, 399, 400, 401, 402, 403, 404, 405, 406, 407, 408, 409] (by decide +kernel) (by decide +kernel)
set_option maxRecDepth 20000 in
theorem gL_law_X4_read : GoodIn wsL_law (wsV RL 95 RX4 yX4_read wsX4_read) := goodIn_app (goodIn_of _ (by decide +kernel)) ggL_law_X4_read
set_option maxRecDepth 20000 in
theorem ggL_law_L_fit : GoodIn wsL_law wsL_fit := goodIn_ca (goodIn_ca (goodIn_r _ [193, 73, 74, 194, 195, 196, 2, 197, 80, 81, 87, 88, 89, 90, 91, 92, 16, 198, 199, 200, 24, 201, 50, 51, 202, 203, 204, 205, 206, 48, 142, 143, 144, 30, 145, 42, 104, 105, 106, 107, 41, 100, 101, 102, 103, 391, 392, 393, 394, 411, 412, 413, 414, 415, 416, 417] (by decide +kernel) (by decide +kernel)) (goodIn_sub (fun _ h => List.mem_append_left _ (List.mem_append_left _ (List.mem_append_right _ h))) (by decide +kernel))) (goodIn_sub (fun _ h => List.mem_append_right _ h) (by decide +kernel))
set_option maxRecDepth 20000 in
theorem gL_law_L_fit : GoodIn wsL_law (va_wsS RL 96 yL_fit wsL_fit) := goodIn_app (goodIn_of _ (by decide +kernel)) ggL_law_L_fit
set_option maxRecDepth 20000 in
theorem ggL_law_X4_fit : GoodIn wsL_law wsX4_fit := goodIn_r _ [210, 116, 120, 121, 5, 122, 211, 212, 213, 214, 64, 65, 215, 216, 217, 218, 219, 61, 63, 62, 395, 396, 397, 398, 399, 400, 401, 402, 403, 404, 405, 406, 407, 408, 409] (by decide +kernel) (by decide +kernel)
set_option maxRecDepth 20000 in
theorem gL_law_X4_fit : GoodIn wsL_law (wsV RL 99 RX4 yX4_fit wsX4_fit) := goodIn_app (goodIn_of _ (by decide +kernel)) ggL_law_X4_fit
set_option maxRecDepth 20000 in
theorem ggL_law_L_back : GoodIn wsL_law wsL_back := goodIn_ca (goodIn_r _ [222, 73, 223, 224, 225, 2, 226, 91, 92, 87, 88, 89, 90, 16, 227, 204, 205, 24, 206, 48, 142, 143, 144, 30, 145, 42, 104, 105, 106, 107, 41, 100, 101, 102, 103, 411, 412, 413, 414, 391, 392, 393, 394, 415, 416, 417] (by decide +kernel) (by decide +kernel)) (goodIn_sub (fun _ h => List.mem_append_right _ h) (by decide +kernel))
set_option maxRecDepth 20000 in
theorem gL_law_L_back : GoodIn wsL_law (va_wsS RL 100 yL_back wsL_back) := goodIn_app (goodIn_of _ (by decide +kernel)) ggL_law_L_back
set_option maxRecDepth 20000 in
theorem ggL_law_X4_back : GoodIn wsL_law wsX4_back := goodIn_r _ [231, 116, 64, 65, 120, 121, 5, 122, 216, 217, 218, 219, 61, 63, 62, 395, 396, 397, 398, 399, 400, 401, 402, 403, 404, 405, 406, 407, 408, 409] (by decide +kernel) (by decide +kernel)
set_option maxRecDepth 20000 in
theorem gL_law_X4_back : GoodIn wsL_law (wsV RL 103 RX4 yX4_back wsX4_back) := goodIn_app (goodIn_of _ (by decide +kernel)) ggL_law_X4_back
set_option maxRecDepth 20000 in
theorem ggL_law_L_form : GoodIn wsL_law wsL_form := goodIn_ca (goodIn_ca (goodIn_r _ [234, 73, 74, 235, 236, 237, 2, 238, 80, 81, 84, 185, 87, 88, 89, 90, 91, 92, 16, 93, 94, 95, 239, 240, 241, 24, 242, 202, 50, 391, 392, 393, 394, 411, 412, 413, 414] (by decide +kernel) (by decide +kernel)) (goodIn_sub (fun _ h => List.mem_append_left _ (List.mem_append_left _ (List.mem_append_right _ h))) (by decide +kernel))) (goodIn_sub (fun _ h => List.mem_append_right _ h) (by decide +kernel))
set_option maxRecDepth 20000 in
theorem gL_law_L_form : GoodIn wsL_law (va_wsS RL 104 yL_form wsL_form) := goodIn_app (goodIn_of _ (by decide +kernel)) ggL_law_L_form
set_option maxRecDepth 20000 in
theorem ggL_law_X4_form : GoodIn wsL_law wsX4_form := goodIn_r _ [246, 117, 190, 116, 215, 64, 120, 121, 5, 122, 123, 124, 125, 395, 396, 397, 398, 399, 400, 401, 402, 403, 404, 405, 406, 407, 408, 409] (by decide +kernel) (by decide +kernel)
set_option maxRecDepth 20000 in
theorem gL_law_X4_form : GoodIn wsL_law (wsV RL 106 RX4 yX4_form wsX4_form) := goodIn_app (goodIn_of _ (by decide +kernel)) ggL_law_X4_form
set_option maxRecDepth 20000 in
theorem ggL_law_L_minutes : GoodIn wsL_law wsL_minutes := goodIn_ca (goodIn_r _ [249, 74, 250, 251, 252, 2, 253, 80, 81, 85, 254, 255, 256, 93, 94, 95] (by decide +kernel) (by decide +kernel)) (goodIn_sub (fun _ h => List.mem_append_left _ (List.mem_append_left _ (List.mem_append_right _ h))) (by decide +kernel))
set_option maxRecDepth 20000 in
theorem gL_law_L_minutes : GoodIn wsL_law (va_wsS RL 107 yL_minutes wsL_minutes) := goodIn_app (goodIn_of _ (by decide +kernel)) ggL_law_L_minutes
set_option maxRecDepth 20000 in
theorem ggL_law_X4_minutes : GoodIn wsL_law wsX4_minutes := goodIn_r _ [260, 118, 116, 261, 262, 263, 123, 124, 5, 125, 395, 396, 397, 398, 399, 400, 401, 402, 403, 404, 405, 406, 407, 408, 409] (by decide +kernel) (by decide +kernel)
set_option maxRecDepth 20000 in
theorem gL_law_X4_minutes : GoodIn wsL_law (wsV RL 110 RX4 yX4_minutes wsX4_minutes) := goodIn_app (goodIn_of _ (by decide +kernel)) ggL_law_X4_minutes
set_option maxRecDepth 20000 in
theorem ggL_law_L_piece : GoodIn wsL_law wsL_piece := goodIn_ca (goodIn_ca (goodIn_r _ [266, 74, 75, 267, 268, 269, 2, 270, 80, 81, 82, 83, 86, 20, 93, 94, 95, 108, 109, 110, 30, 111, 36, 41, 42, 104, 105, 106, 107, 391, 392, 393, 394, 410, 415, 416, 417] (by decide +kernel) (by decide +kernel)) (goodIn_sub (fun _ h => List.mem_append_left _ (List.mem_append_left _ (List.mem_append_right _ h))) (by decide +kernel))) (goodIn_sub (fun _ h => List.mem_append_left _ (List.mem_append_right _ h)) (by decide +kernel))
set_option maxRecDepth 20000 in
theorem gL_law_L_piece : GoodIn wsL_law (va_wsS RL 111 yL_piece wsL_piece) := goodIn_app (goodIn_of _ (by decide +kernel)) ggL_law_L_piece
set_option maxRecDepth 20000 in
theorem ggL_law_X4_piece : GoodIn wsL_law wsX4_piece := goodIn_r _ [274, 119, 275, 116, 66, 67, 123, 124, 5, 125, 395, 396, 397, 398, 399, 400, 401, 402, 403, 404, 405, 406, 407, 408, 409] (by decide +kernel) (by decide +kernel)
set_option maxRecDepth 20000 in
theorem gL_law_X4_piece : GoodIn wsL_law (wsV RL 114 RX4 yX4_piece wsX4_piece) := goodIn_app (goodIn_of _ (by decide +kernel)) ggL_law_X4_piece
set_option maxRecDepth 20000 in
theorem ggL_law_X3_clear : GoodIn wsL_law wsX3_clear := goodIn_r _ [279, 20, 280, 281, 282, 30, 283, 36, 391, 392, 393, 394, 410, 415, 416, 417] (by decide +kernel) (by decide +kernel)
set_option maxRecDepth 20000 in
theorem gL_law_X3_clear : GoodIn wsL_law (wsV RL 115 RX3 yX3_clear wsX3_clear) := goodIn_app (goodIn_of _ (by decide +kernel)) ggL_law_X3_clear
set_option maxRecDepth 20000 in
theorem ggL_law_X4_clear : GoodIn wsL_law wsX4_clear := goodIn_r _ [287, 116, 275, 395, 396, 397, 398, 399, 400, 401, 402, 403, 404, 405, 406, 407, 408, 409] (by decide +kernel) (by decide +kernel)
set_option maxRecDepth 20000 in
theorem gL_law_X4_clear : GoodIn wsL_law (wsV RL 118 RX4 yX4_clear wsX4_clear) := goodIn_app (goodIn_of _ (by decide +kernel)) ggL_law_X4_clear
set_option maxRecDepth 20000 in
theorem ggL_law_L_length : GoodIn wsL_law wsL_length := goodIn_ca (goodIn_r _ [290, 74, 291, 292, 293, 2, 294, 80, 81, 85, 20, 93, 94, 95, 295, 296, 297, 19, 298, 31, 299, 300, 143, 144, 30, 145, 42, 104, 105, 106, 107, 41, 301, 302, 303, 304, 305, 306, 307, 308, 309, 101, 102, 103, 391, 392, 393, 394, 410, 415, 416, 417] (by decide +kernel) (by decide +kernel)) (goodIn_sub (fun _ h => List.mem_append_left _ (List.mem_append_left _ (List.mem_append_right _ h))) (by decide +kernel))
set_option maxRecDepth 20000 in
theorem gL_law_L_length : GoodIn wsL_law (va_wsS RL 119 yL_length wsL_length) := goodIn_app (goodIn_of _ (by decide +kernel)) ggL_law_L_length
set_option maxRecDepth 20000 in
theorem ggL_law_X4_length : GoodIn wsL_law wsX4_length := goodIn_r _ [313, 118, 275, 67, 215, 116, 66, 123, 124, 5, 125, 395, 396, 397, 398, 399, 400, 401, 402, 403, 404, 405, 406, 407, 408, 409] (by decide +kernel) (by decide +kernel)
set_option maxRecDepth 20000 in
theorem gL_law_X4_length : GoodIn wsL_law (wsV RL 122 RX4 yX4_length wsX4_length) := goodIn_app (goodIn_of _ (by decide +kernel)) ggL_law_X4_length
set_option maxRecDepth 20000 in
theorem ggL_law_L_kerfs : GoodIn wsL_law wsL_kerfs := goodIn_ca (goodIn_r _ [316, 74, 317, 318, 319, 2, 320, 80, 81, 321, 85, 84, 322, 323, 21, 22, 93, 94, 95, 324, 325, 326, 327, 391, 392, 393, 394] (by decide +kernel) (by decide +kernel)) (goodIn_sub (fun _ h => List.mem_append_left _ (List.mem_append_left _ (List.mem_append_right _ h))) (by decide +kernel))
set_option maxRecDepth 20000 in
theorem gL_law_L_kerfs : GoodIn wsL_law (va_wsS RL 123 yL_kerfs wsL_kerfs) := goodIn_app (goodIn_of _ (by decide +kernel)) ggL_law_L_kerfs
set_option maxRecDepth 20000 in
theorem ggL_law_X4_kerfs : GoodIn wsL_law wsX4_kerfs := goodIn_r _ [331, 332, 118, 117, 333, 116, 334, 335, 336, 123, 124, 5, 125, 395, 396, 397, 398, 399, 400, 401, 402, 403, 404, 405, 406, 407, 408, 409] (by decide +kernel) (by decide +kernel)
set_option maxRecDepth 20000 in
theorem gL_law_X4_kerfs : GoodIn wsL_law (wsV RL 126 RX4 yX4_kerfs wsX4_kerfs) := goodIn_app (goodIn_of _ (by decide +kernel)) ggL_law_X4_kerfs
set_option maxRecDepth 20000 in
theorem ggL_law_L_kerfAt : GoodIn wsL_law wsL_kerfAt := goodIn_ca (goodIn_ca (goodIn_ca (goodIn_r _ [339, 75, 73, 74, 340, 341, 342, 2, 343, 82, 83, 91, 92, 80, 81, 21, 86, 93, 94, 95, 391, 392, 393, 394] (by decide +kernel) (by decide +kernel)) (goodIn_sub (fun _ h => List.mem_append_left _ (List.mem_append_right _ h)) (by decide +kernel))) (goodIn_sub (fun _ h => List.mem_append_right _ h) (by decide +kernel))) (goodIn_sub (fun _ h => List.mem_append_left _ (List.mem_append_left _ (List.mem_append_right _ h))) (by decide +kernel))
set_option maxRecDepth 20000 in
theorem gL_law_L_kerfAt : GoodIn wsL_law (va_wsS RL 127 yL_kerfAt wsL_kerfAt) := goodIn_app (goodIn_of _ (by decide +kernel)) ggL_law_L_kerfAt
set_option maxRecDepth 20000 in
theorem ggL_law_X4_kerfAt : GoodIn wsL_law wsX4_kerfAt := goodIn_r _ [347, 335, 119, 116, 123, 124, 5, 125, 395, 396, 397, 398, 399, 400, 401, 402, 403, 404, 405, 406, 407, 408, 409] (by decide +kernel) (by decide +kernel)
set_option maxRecDepth 20000 in
theorem gL_law_X4_kerfAt : GoodIn wsL_law (wsV RL 129 RX4 yX4_kerfAt wsX4_kerfAt) := goodIn_app (goodIn_of _ (by decide +kernel)) ggL_law_X4_kerfAt
set_option maxRecDepth 20000 in
theorem ggL_law_L_rest : GoodIn wsL_law wsL_rest := goodIn_ca (goodIn_r _ [350, 75, 351, 352, 353, 2, 354, 82, 83, 21, 22, 391, 392, 393, 394] (by decide +kernel) (by decide +kernel)) (goodIn_sub (fun _ h => List.mem_append_left _ (List.mem_append_right _ h)) (by decide +kernel))
set_option maxRecDepth 20000 in
theorem gL_law_L_rest : GoodIn wsL_law (va_wsS RL 130 yL_rest wsL_rest) := goodIn_app (goodIn_of _ (by decide +kernel)) ggL_law_L_rest
set_option maxRecDepth 20000 in
theorem ggL_law_X4_rest : GoodIn wsL_law wsX4_rest := goodIn_r _ [358, 335, 116, 336, 395, 396, 397, 398, 399, 400, 401, 402, 403, 404, 405, 406, 407, 408, 409] (by decide +kernel) (by decide +kernel)
set_option maxRecDepth 20000 in
theorem gL_law_X4_rest : GoodIn wsL_law (wsV RL 133 RX4 yX4_rest wsX4_rest) := goodIn_app (goodIn_of _ (by decide +kernel)) ggL_law_X4_rest
set_option maxRecDepth 20000 in
theorem ggL_law_L_broken : GoodIn wsL_law wsL_broken := goodIn_ca (goodIn_ca (goodIn_r _ [361, 73, 74, 362, 363, 364, 2, 365, 91, 92, 80, 81, 366, 367, 368, 369] (by decide +kernel) (by decide +kernel)) (goodIn_sub (fun _ h => List.mem_append_right _ h) (by decide +kernel))) (goodIn_sub (fun _ h => List.mem_append_left _ (List.mem_append_left _ (List.mem_append_right _ h))) (by decide +kernel))
set_option maxRecDepth 20000 in
theorem gL_law_L_broken : GoodIn wsL_law (va_wsS RL 134 yL_broken wsL_broken) := goodIn_app (goodIn_of _ (by decide +kernel)) ggL_law_L_broken
set_option maxRecDepth 20000 in
theorem ggL_law_X4_broken : GoodIn wsL_law wsX4_broken := goodIn_r _ [373, 374, 116, 375, 376, 5, 377, 395, 396, 397, 398, 399, 400, 401, 402, 403, 404, 405, 406, 407, 408, 409] (by decide +kernel) (by decide +kernel)
set_option maxRecDepth 20000 in
theorem gL_law_X4_broken : GoodIn wsL_law (wsV RL 137 RX4 yX4_broken wsX4_broken) := goodIn_app (goodIn_of _ (by decide +kernel)) ggL_law_X4_broken
set_option maxRecDepth 20000 in
theorem ggL_law_L_relaxed : GoodIn wsL_law wsL_relaxed := goodIn_ca (goodIn_ca (goodIn_r _ [380, 73, 74, 381, 382, 383, 2, 384, 80, 81, 385, 87, 88, 89, 90, 91, 92, 16, 411, 412, 413, 414, 391, 392, 393, 394] (by decide +kernel) (by decide +kernel)) (goodIn_sub (fun _ h => List.mem_append_left _ (List.mem_append_left _ (List.mem_append_right _ h))) (by decide +kernel))) (goodIn_sub (fun _ h => List.mem_append_right _ h) (by decide +kernel))
set_option maxRecDepth 20000 in
theorem gL_law_L_relaxed : GoodIn wsL_law (va_wsS RL 138 yL_relaxed wsL_relaxed) := goodIn_app (goodIn_of _ (by decide +kernel)) ggL_law_L_relaxed
set_option maxRecDepth 20000 in
theorem ggL_law_X4_relaxed : GoodIn wsL_law wsX4_relaxed := goodIn_r _ [389, 116, 64, 390, 120, 121, 5, 122, 395, 396, 397, 398, 399, 400, 401, 402, 403, 404, 405, 406, 407, 408, 409] (by decide +kernel) (by decide +kernel)
set_option maxRecDepth 20000 in
theorem gL_law_X4_relaxed : GoodIn wsL_law (wsV RL 140 RX4 yX4_relaxed wsX4_relaxed) := goodIn_app (goodIn_of _ (by decide +kernel)) ggL_law_X4_relaxed
/-! ===== END printed: names ===== -/
end
section
theorem dX0_init_0 : decode cX0_init 0 = .ok (.aload_n 0, 1) := by decide +kernel
theorem dX0_init_1 : decode cX0_init 1 = .ok (.invokespecial 3, 3) := by decide +kernel
theorem dX0_init_4 : decode cX0_init 4 = .ok (.aload_n 0, 1) := by decide +kernel
theorem dX0_init_5 : decode cX0_init 5 = .ok (.new 9, 3) := by decide +kernel
theorem dX0_init_8 : decode cX0_init 8 = .ok (.dup, 1) := by decide +kernel
theorem dX0_init_9 : decode cX0_init 9 = .ok (.bipush 12, 2) := by decide +kernel
theorem dX0_init_11 : decode cX0_init 11 = .ok (.invokespecial 11, 3) := by decide +kernel
theorem dX0_init_14 : decode cX0_init 14 = .ok (.putfield 14, 3) := by decide +kernel
theorem dX0_init_17 : decode cX0_init 17 = .ok (.aload_n 0, 1) := by decide +kernel
theorem dX0_init_18 : decode cX0_init 18 = .ok (.new 9, 3) := by decide +kernel
theorem dX0_init_21 : decode cX0_init 21 = .ok (.dup, 1) := by decide +kernel
theorem dX0_init_22 : decode cX0_init 22 = .ok (.bipush 20, 2) := by decide +kernel
theorem dX0_init_24 : decode cX0_init 24 = .ok (.invokespecial 11, 3) := by decide +kernel
theorem dX0_init_27 : decode cX0_init 27 = .ok (.putfield 20, 3) := by decide +kernel
theorem dX0_init_30 : decode cX0_init 30 = .ok (.aload_n 0, 1) := by decide +kernel
theorem dX0_init_31 : decode cX0_init 31 = .ok (.ldc2_w 23, 3) := by decide +kernel
theorem dX0_init_34 : decode cX0_init 34 = .ok (.putfield 25, 3) := by decide +kernel
theorem dX0_init_37 : decode cX0_init 37 = .ok (.aload_n 0, 1) := by decide +kernel
theorem dX0_init_38 : decode cX0_init 38 = .ok (.ldc2_w 23, 3) := by decide +kernel
theorem dX0_init_41 : decode cX0_init 41 = .ok (.putfield 29, 3) := by decide +kernel
theorem dX0_init_44 : decode cX0_init 44 = .ok (.return_, 1) := by decide +kernel
theorem dX0_isAboveRows_0 : decode cX0_isAboveRows 0 = .ok (.aload_n 0, 1) := by decide +kernel
theorem dX0_isAboveRows_1 : decode cX0_isAboveRows 1 = .ok (.getfield 14, 3) := by decide +kernel
theorem dX0_isAboveRows_4 : decode cX0_isAboveRows 4 = .ok (.getfield 32, 3) := by decide +kernel
theorem dX0_isAboveRows_7 : decode cX0_isAboveRows 7 = .ok (.ifCond .eq 24, 3) := by decide +kernel
theorem dX0_isAboveRows_10 : decode cX0_isAboveRows 10 = .ok (.dload_n 1, 1) := by decide +kernel
theorem dX0_isAboveRows_11 : decode cX0_isAboveRows 11 = .ok (.aload_n 0, 1) := by decide +kernel
theorem dX0_isAboveRows_12 : decode cX0_isAboveRows 12 = .ok (.getfield 14, 3) := by decide +kernel
theorem dX0_isAboveRows_15 : decode cX0_isAboveRows 15 = .ok (.aload_n 0, 1) := by decide +kernel
theorem dX0_isAboveRows_16 : decode cX0_isAboveRows 16 = .ok (.getfield 14, 3) := by decide +kernel
theorem dX0_isAboveRows_19 : decode cX0_isAboveRows 19 = .ok (.getfield 32, 3) := by decide +kernel
theorem dX0_isAboveRows_22 : decode cX0_isAboveRows 22 = .ok (.iconst 1, 1) := by decide +kernel
theorem dX0_isAboveRows_23 : decode cX0_isAboveRows 23 = .ok (.isub, 1) := by decide +kernel
theorem dX0_isAboveRows_24 : decode cX0_isAboveRows 24 = .ok (.invokevirtual 36, 3) := by decide +kernel
theorem dX0_isAboveRows_27 : decode cX0_isAboveRows 27 = .ok (.dcmp .l, 1) := by decide +kernel
theorem dX0_isAboveRows_28 : decode cX0_isAboveRows 28 = .ok (.ifCond .le 7, 3) := by decide +kernel
theorem dX0_isAboveRows_31 : decode cX0_isAboveRows 31 = .ok (.iconst 1, 1) := by decide +kernel
theorem dX0_isAboveRows_32 : decode cX0_isAboveRows 32 = .ok (.goto 4, 3) := by decide +kernel
theorem dX0_isAboveRows_35 : decode cX0_isAboveRows 35 = .ok (.iconst 0, 1) := by decide +kernel
theorem dX0_isAboveRows_36 : decode cX0_isAboveRows 36 = .ok (.ireturn, 1) := by decide +kernel
theorem dX0_leastRadius_0 : decode cX0_leastRadius 0 = .ok (.iconst 0, 1) := by decide +kernel
theorem dX0_leastRadius_1 : decode cX0_leastRadius 1 = .ok (.istore_n 3, 1) := by decide +kernel
theorem dX0_leastRadius_2 : decode cX0_leastRadius 2 = .ok (.iload_n 3, 1) := by decide +kernel
theorem dX0_leastRadius_3 : decode cX0_leastRadius 3 = .ok (.aload_n 0, 1) := by decide +kernel
theorem dX0_leastRadius_4 : decode cX0_leastRadius 4 = .ok (.getfield 14, 3) := by decide +kernel
theorem dX0_leastRadius_7 : decode cX0_leastRadius 7 = .ok (.getfield 32, 3) := by decide +kernel
theorem dX0_leastRadius_10 : decode cX0_leastRadius 10 = .ok (.if_icmp .ge 64, 3) := by decide +kernel
theorem dX0_leastRadius_13 : decode cX0_leastRadius 13 = .ok (.aload_n 0, 1) := by decide +kernel
theorem dX0_leastRadius_14 : decode cX0_leastRadius 14 = .ok (.getfield 14, 3) := by decide +kernel
theorem dX0_leastRadius_17 : decode cX0_leastRadius 17 = .ok (.iload_n 3, 1) := by decide +kernel
theorem dX0_leastRadius_18 : decode cX0_leastRadius 18 = .ok (.invokevirtual 36, 3) := by decide +kernel
theorem dX0_leastRadius_21 : decode cX0_leastRadius 21 = .ok (.dload_n 1, 1) := by decide +kernel
theorem dX0_leastRadius_22 : decode cX0_leastRadius 22 = .ok (.dcmp .l, 1) := by decide +kernel
theorem dX0_leastRadius_23 : decode cX0_leastRadius 23 = .ok (.ifCond .ne 12, 3) := by decide +kernel
theorem dX0_leastRadius_26 : decode cX0_leastRadius 26 = .ok (.aload_n 0, 1) := by decide +kernel
theorem dX0_leastRadius_27 : decode cX0_leastRadius 27 = .ok (.getfield 14, 3) := by decide +kernel
theorem dX0_leastRadius_30 : decode cX0_leastRadius 30 = .ok (.iload_n 3, 1) := by decide +kernel
theorem dX0_leastRadius_31 : decode cX0_leastRadius 31 = .ok (.invokevirtual 40, 3) := by decide +kernel
theorem dX0_leastRadius_34 : decode cX0_leastRadius 34 = .ok (.dreturn, 1) := by decide +kernel
theorem dX0_leastRadius_35 : decode cX0_leastRadius 35 = .ok (.aload_n 0, 1) := by decide +kernel
theorem dX0_leastRadius_36 : decode cX0_leastRadius 36 = .ok (.getfield 14, 3) := by decide +kernel
theorem dX0_leastRadius_39 : decode cX0_leastRadius 39 = .ok (.iload_n 3, 1) := by decide +kernel
theorem dX0_leastRadius_40 : decode cX0_leastRadius 40 = .ok (.invokevirtual 36, 3) := by decide +kernel
theorem dX0_leastRadius_43 : decode cX0_leastRadius 43 = .ok (.dload_n 1, 1) := by decide +kernel
theorem dX0_leastRadius_44 : decode cX0_leastRadius 44 = .ok (.dcmp .l, 1) := by decide +kernel
theorem dX0_leastRadius_45 : decode cX0_leastRadius 45 = .ok (.ifCond .le 23, 3) := by decide +kernel
theorem dX0_leastRadius_48 : decode cX0_leastRadius 48 = .ok (.iload_n 3, 1) := by decide +kernel
theorem dX0_leastRadius_49 : decode cX0_leastRadius 49 = .ok (.ifCond .ne 9, 3) := by decide +kernel
theorem dX0_leastRadius_52 : decode cX0_leastRadius 52 = .ok (.ldc2_w 43, 3) := by decide +kernel
theorem dX0_leastRadius_55 : decode cX0_leastRadius 55 = .ok (.goto 12, 3) := by decide +kernel
theorem dX0_leastRadius_58 : decode cX0_leastRadius 58 = .ok (.aload_n 0, 1) := by decide +kernel
theorem dX0_leastRadius_59 : decode cX0_leastRadius 59 = .ok (.iload_n 3, 1) := by decide +kernel
theorem dX0_leastRadius_60 : decode cX0_leastRadius 60 = .ok (.iconst 1, 1) := by decide +kernel
theorem dX0_leastRadius_61 : decode cX0_leastRadius 61 = .ok (.isub, 1) := by decide +kernel
theorem dX0_leastRadius_62 : decode cX0_leastRadius 62 = .ok (.iload_n 3, 1) := by decide +kernel
theorem dX0_leastRadius_63 : decode cX0_leastRadius 63 = .ok (.dload_n 1, 1) := by decide +kernel
theorem dX0_leastRadius_64 : decode cX0_leastRadius 64 = .ok (.invokevirtual 45, 3) := by decide +kernel
theorem dX0_leastRadius_67 : decode cX0_leastRadius 67 = .ok (.dreturn, 1) := by decide +kernel
theorem dX0_leastRadius_68 : decode cX0_leastRadius 68 = .ok (.iinc 3 1, 3) := by decide +kernel
theorem dX0_leastRadius_71 : decode cX0_leastRadius 71 = .ok (.goto (-69), 3) := by decide +kernel
theorem dX0_leastRadius_74 : decode cX0_leastRadius 74 = .ok (.ldc2_w 43, 3) := by decide +kernel
theorem dX0_leastRadius_77 : decode cX0_leastRadius 77 = .ok (.dreturn, 1) := by decide +kernel
theorem dX0_radiusBetween_0 : decode cX0_radiusBetween 0 = .ok (.aload_n 0, 1) := by decide +kernel
theorem dX0_radiusBetween_1 : decode cX0_radiusBetween 1 = .ok (.getfield 14, 3) := by decide +kernel
theorem dX0_radiusBetween_4 : decode cX0_radiusBetween 4 = .ok (.iload_n 1, 1) := by decide +kernel
theorem dX0_radiusBetween_5 : decode cX0_radiusBetween 5 = .ok (.invokevirtual 36, 3) := by decide +kernel
theorem dX0_radiusBetween_8 : decode cX0_radiusBetween 8 = .ok (.dstore 5, 2) := by decide +kernel
theorem dX0_radiusBetween_10 : decode cX0_radiusBetween 10 = .ok (.aload_n 0, 1) := by decide +kernel
theorem dX0_radiusBetween_11 : decode cX0_radiusBetween 11 = .ok (.getfield 14, 3) := by decide +kernel
theorem dX0_radiusBetween_14 : decode cX0_radiusBetween 14 = .ok (.iload_n 2, 1) := by decide +kernel
theorem dX0_radiusBetween_15 : decode cX0_radiusBetween 15 = .ok (.invokevirtual 36, 3) := by decide +kernel
theorem dX0_radiusBetween_18 : decode cX0_radiusBetween 18 = .ok (.dstore 7, 2) := by decide +kernel
theorem dX0_radiusBetween_20 : decode cX0_radiusBetween 20 = .ok (.aload_n 0, 1) := by decide +kernel
theorem dX0_radiusBetween_21 : decode cX0_radiusBetween 21 = .ok (.getfield 14, 3) := by decide +kernel
theorem dX0_radiusBetween_24 : decode cX0_radiusBetween 24 = .ok (.iload_n 1, 1) := by decide +kernel
theorem dX0_radiusBetween_25 : decode cX0_radiusBetween 25 = .ok (.invokevirtual 40, 3) := by decide +kernel
theorem dX0_radiusBetween_28 : decode cX0_radiusBetween 28 = .ok (.dstore 9, 2) := by decide +kernel
theorem dX0_radiusBetween_30 : decode cX0_radiusBetween 30 = .ok (.aload_n 0, 1) := by decide +kernel
theorem dX0_radiusBetween_31 : decode cX0_radiusBetween 31 = .ok (.getfield 14, 3) := by decide +kernel
theorem dX0_radiusBetween_34 : decode cX0_radiusBetween 34 = .ok (.iload_n 2, 1) := by decide +kernel
theorem dX0_radiusBetween_35 : decode cX0_radiusBetween 35 = .ok (.invokevirtual 40, 3) := by decide +kernel
theorem dX0_radiusBetween_38 : decode cX0_radiusBetween 38 = .ok (.dstore 11, 2) := by decide +kernel
theorem dX0_radiusBetween_40 : decode cX0_radiusBetween 40 = .ok (.dload 7, 2) := by decide +kernel
theorem dX0_radiusBetween_42 : decode cX0_radiusBetween 42 = .ok (.dload 5, 2) := by decide +kernel
theorem dX0_radiusBetween_44 : decode cX0_radiusBetween 44 = .ok (.dcmp .l, 1) := by decide +kernel
theorem dX0_radiusBetween_45 : decode cX0_radiusBetween 45 = .ok (.ifCond .le 25, 3) := by decide +kernel
theorem dX0_radiusBetween_48 : decode cX0_radiusBetween 48 = .ok (.dload 9, 2) := by decide +kernel
theorem dX0_radiusBetween_50 : decode cX0_radiusBetween 50 = .ok (.dload_n 3, 1) := by decide +kernel
theorem dX0_radiusBetween_51 : decode cX0_radiusBetween 51 = .ok (.dload 5, 2) := by decide +kernel
theorem dX0_radiusBetween_53 : decode cX0_radiusBetween 53 = .ok (.dsub, 1) := by decide +kernel
theorem dX0_radiusBetween_54 : decode cX0_radiusBetween 54 = .ok (.dload 11, 2) := by decide +kernel
theorem dX0_radiusBetween_56 : decode cX0_radiusBetween 56 = .ok (.dload 9, 2) := by decide +kernel
theorem dX0_radiusBetween_58 : decode cX0_radiusBetween 58 = .ok (.dsub, 1) := by decide +kernel
theorem dX0_radiusBetween_59 : decode cX0_radiusBetween 59 = .ok (.dmul, 1) := by decide +kernel
theorem dX0_radiusBetween_60 : decode cX0_radiusBetween 60 = .ok (.dload 7, 2) := by decide +kernel
theorem dX0_radiusBetween_62 : decode cX0_radiusBetween 62 = .ok (.dload 5, 2) := by decide +kernel
theorem dX0_radiusBetween_64 : decode cX0_radiusBetween 64 = .ok (.dsub, 1) := by decide +kernel
theorem dX0_radiusBetween_65 : decode cX0_radiusBetween 65 = .ok (.ddiv, 1) := by decide +kernel
theorem dX0_radiusBetween_66 : decode cX0_radiusBetween 66 = .ok (.dadd, 1) := by decide +kernel
theorem dX0_radiusBetween_67 : decode cX0_radiusBetween 67 = .ok (.goto 5, 3) := by decide +kernel
theorem dX0_radiusBetween_70 : decode cX0_radiusBetween 70 = .ok (.dload 9, 2) := by decide +kernel
theorem dX0_radiusBetween_72 : decode cX0_radiusBetween 72 = .ok (.dreturn, 1) := by decide +kernel
theorem dX0_leastStrips_0 : decode cX0_leastStrips 0 = .ok (.iconst 1, 1) := by decide +kernel
theorem dX0_leastStrips_1 : decode cX0_leastStrips 1 = .ok (.istore 5, 2) := by decide +kernel
theorem dX0_leastStrips_3 : decode cX0_leastStrips 3 = .ok (.iload 5, 2) := by decide +kernel
theorem dX0_leastStrips_5 : decode cX0_leastStrips 5 = .ok (.bipush 100, 2) := by decide +kernel
theorem dX0_leastStrips_7 : decode cX0_leastStrips 7 = .ok (.if_icmp .gt 38, 3) := by decide +kernel
theorem dX0_leastStrips_10 : decode cX0_leastStrips 10 = .ok (.aload_n 0, 1) := by decide +kernel
theorem dX0_leastStrips_11 : decode cX0_leastStrips 11 = .ok (.dload_n 1, 1) := by decide +kernel
theorem dX0_leastStrips_12 : decode cX0_leastStrips 12 = .ok (.iload 5, 2) := by decide +kernel
theorem dX0_leastStrips_14 : decode cX0_leastStrips 14 = .ok (.i2d, 1) := by decide +kernel
theorem dX0_leastStrips_15 : decode cX0_leastStrips 15 = .ok (.ddiv, 1) := by decide +kernel
theorem dX0_leastStrips_16 : decode cX0_leastStrips 16 = .ok (.invokevirtual 49, 3) := by decide +kernel
theorem dX0_leastStrips_19 : decode cX0_leastStrips 19 = .ok (.dstore 6, 2) := by decide +kernel
theorem dX0_leastStrips_21 : decode cX0_leastStrips 21 = .ok (.dload 6, 2) := by decide +kernel
theorem dX0_leastStrips_23 : decode cX0_leastStrips 23 = .ok (.invokestatic 53, 3) := by decide +kernel
theorem dX0_leastStrips_26 : decode cX0_leastStrips 26 = .ok (.ifCond .ne 13, 3) := by decide +kernel
theorem dX0_leastStrips_29 : decode cX0_leastStrips 29 = .ok (.dload 6, 2) := by decide +kernel
theorem dX0_leastStrips_31 : decode cX0_leastStrips 31 = .ok (.dload_n 3, 1) := by decide +kernel
theorem dX0_leastStrips_32 : decode cX0_leastStrips 32 = .ok (.dcmp .g, 1) := by decide +kernel
theorem dX0_leastStrips_33 : decode cX0_leastStrips 33 = .ok (.ifCond .gt 6, 3) := by decide +kernel
theorem dX0_leastStrips_36 : decode cX0_leastStrips 36 = .ok (.iload 5, 2) := by decide +kernel
theorem dX0_leastStrips_38 : decode cX0_leastStrips 38 = .ok (.ireturn, 1) := by decide +kernel
theorem dX0_leastStrips_39 : decode cX0_leastStrips 39 = .ok (.iinc 5 1, 3) := by decide +kernel
theorem dX0_leastStrips_42 : decode cX0_leastStrips 42 = .ok (.goto (-39), 3) := by decide +kernel
theorem dX0_leastStrips_45 : decode cX0_leastStrips 45 = .ok (.iconst (-1), 1) := by decide +kernel
theorem dX0_leastStrips_46 : decode cX0_leastStrips 46 = .ok (.ireturn, 1) := by decide +kernel
theorem dX0_residue_0 : decode cX0_residue 0 = .ok (.dconst 0, 1) := by decide +kernel
theorem dX0_residue_1 : decode cX0_residue 1 = .ok (.dstore_n 3, 1) := by decide +kernel
theorem dX0_residue_2 : decode cX0_residue 2 = .ok (.iconst 0, 1) := by decide +kernel
theorem dX0_residue_3 : decode cX0_residue 3 = .ok (.istore 5, 2) := by decide +kernel
theorem dX0_residue_5 : decode cX0_residue 5 = .ok (.iload 5, 2) := by decide +kernel
theorem dX0_residue_7 : decode cX0_residue 7 = .ok (.aload_n 0, 1) := by decide +kernel
theorem dX0_residue_8 : decode cX0_residue 8 = .ok (.getfield 20, 3) := by decide +kernel
theorem dX0_residue_11 : decode cX0_residue 11 = .ok (.getfield 32, 3) := by decide +kernel
theorem dX0_residue_14 : decode cX0_residue 14 = .ok (.if_icmp .ge 42, 3) := by decide +kernel
theorem dX0_residue_17 : decode cX0_residue 17 = .ok (.aload_n 0, 1) := by decide +kernel
theorem dX0_residue_18 : decode cX0_residue 18 = .ok (.getfield 20, 3) := by decide +kernel
theorem dX0_residue_21 : decode cX0_residue 21 = .ok (.iload 5, 2) := by decide +kernel
theorem dX0_residue_23 : decode cX0_residue 23 = .ok (.invokevirtual 40, 3) := by decide +kernel
theorem dX0_residue_26 : decode cX0_residue 26 = .ok (.aload_n 0, 1) := by decide +kernel
theorem dX0_residue_27 : decode cX0_residue 27 = .ok (.getfield 20, 3) := by decide +kernel
theorem dX0_residue_30 : decode cX0_residue 30 = .ok (.iload 5, 2) := by decide +kernel
theorem dX0_residue_32 : decode cX0_residue 32 = .ok (.invokevirtual 36, 3) := by decide +kernel
theorem dX0_residue_35 : decode cX0_residue 35 = .ok (.dconst 1, 1) := by decide +kernel
theorem dX0_residue_36 : decode cX0_residue 36 = .ok (.dload_n 1, 1) := by decide +kernel
theorem dX0_residue_37 : decode cX0_residue 37 = .ok (.dadd, 1) := by decide +kernel
theorem dX0_residue_38 : decode cX0_residue 38 = .ok (.dmul, 1) := by decide +kernel
theorem dX0_residue_39 : decode cX0_residue 39 = .ok (.dsub, 1) := by decide +kernel
theorem dX0_residue_40 : decode cX0_residue 40 = .ok (.dstore 6, 2) := by decide +kernel
theorem dX0_residue_42 : decode cX0_residue 42 = .ok (.dload_n 3, 1) := by decide +kernel
theorem dX0_residue_43 : decode cX0_residue 43 = .ok (.dload 6, 2) := by decide +kernel
theorem dX0_residue_45 : decode cX0_residue 45 = .ok (.dload 6, 2) := by decide +kernel
theorem dX0_residue_47 : decode cX0_residue 47 = .ok (.dmul, 1) := by decide +kernel
theorem dX0_residue_48 : decode cX0_residue 48 = .ok (.dadd, 1) := by decide +kernel
theorem dX0_residue_49 : decode cX0_residue 49 = .ok (.dstore_n 3, 1) := by decide +kernel
theorem dX0_residue_50 : decode cX0_residue 50 = .ok (.iinc 5 1, 3) := by decide +kernel
theorem dX0_residue_53 : decode cX0_residue 53 = .ok (.goto (-48), 3) := by decide +kernel
theorem dX0_residue_56 : decode cX0_residue 56 = .ok (.dload_n 3, 1) := by decide +kernel
theorem dX0_residue_57 : decode cX0_residue 57 = .ok (.dreturn, 1) := by decide +kernel
theorem dX0_fitsBetter_0 : decode cX0_fitsBetter 0 = .ok (.aload_n 0, 1) := by decide +kernel
theorem dX0_fitsBetter_1 : decode cX0_fitsBetter 1 = .ok (.aload_n 0, 1) := by decide +kernel
theorem dX0_fitsBetter_2 : decode cX0_fitsBetter 2 = .ok (.getfield 25, 3) := by decide +kernel
theorem dX0_fitsBetter_5 : decode cX0_fitsBetter 5 = .ok (.invokevirtual 57, 3) := by decide +kernel
theorem dX0_fitsBetter_8 : decode cX0_fitsBetter 8 = .ok (.dstore_n 1, 1) := by decide +kernel
theorem dX0_fitsBetter_9 : decode cX0_fitsBetter 9 = .ok (.aload_n 0, 1) := by decide +kernel
theorem dX0_fitsBetter_10 : decode cX0_fitsBetter 10 = .ok (.getfield 25, 3) := by decide +kernel
theorem dX0_fitsBetter_13 : decode cX0_fitsBetter 13 = .ok (.aload_n 0, 1) := by decide +kernel
theorem dX0_fitsBetter_14 : decode cX0_fitsBetter 14 = .ok (.getfield 29, 3) := by decide +kernel
theorem dX0_fitsBetter_17 : decode cX0_fitsBetter 17 = .ok (.dadd, 1) := by decide +kernel
theorem dX0_fitsBetter_18 : decode cX0_fitsBetter 18 = .ok (.dstore_n 3, 1) := by decide +kernel
theorem dX0_fitsBetter_19 : decode cX0_fitsBetter 19 = .ok (.aload_n 0, 1) := by decide +kernel
theorem dX0_fitsBetter_20 : decode cX0_fitsBetter 20 = .ok (.dload_n 3, 1) := by decide +kernel
theorem dX0_fitsBetter_21 : decode cX0_fitsBetter 21 = .ok (.invokevirtual 57, 3) := by decide +kernel
theorem dX0_fitsBetter_24 : decode cX0_fitsBetter 24 = .ok (.dload_n 1, 1) := by decide +kernel
theorem dX0_fitsBetter_25 : decode cX0_fitsBetter 25 = .ok (.dcmp .g, 1) := by decide +kernel
theorem dX0_fitsBetter_26 : decode cX0_fitsBetter 26 = .ok (.ifCond .ge 10, 3) := by decide +kernel
theorem dX0_fitsBetter_29 : decode cX0_fitsBetter 29 = .ok (.aload_n 0, 1) := by decide +kernel
theorem dX0_fitsBetter_30 : decode cX0_fitsBetter 30 = .ok (.dload_n 3, 1) := by decide +kernel
theorem dX0_fitsBetter_31 : decode cX0_fitsBetter 31 = .ok (.putfield 25, 3) := by decide +kernel
theorem dX0_fitsBetter_34 : decode cX0_fitsBetter 34 = .ok (.iconst 1, 1) := by decide +kernel
theorem dX0_fitsBetter_35 : decode cX0_fitsBetter 35 = .ok (.ireturn, 1) := by decide +kernel
theorem dX0_fitsBetter_36 : decode cX0_fitsBetter 36 = .ok (.aload_n 0, 1) := by decide +kernel
theorem dX0_fitsBetter_37 : decode cX0_fitsBetter 37 = .ok (.getfield 25, 3) := by decide +kernel
theorem dX0_fitsBetter_40 : decode cX0_fitsBetter 40 = .ok (.aload_n 0, 1) := by decide +kernel
theorem dX0_fitsBetter_41 : decode cX0_fitsBetter 41 = .ok (.getfield 29, 3) := by decide +kernel
theorem dX0_fitsBetter_44 : decode cX0_fitsBetter 44 = .ok (.dsub, 1) := by decide +kernel
theorem dX0_fitsBetter_45 : decode cX0_fitsBetter 45 = .ok (.dstore 5, 2) := by decide +kernel
theorem dX0_fitsBetter_47 : decode cX0_fitsBetter 47 = .ok (.dload 5, 2) := by decide +kernel
theorem dX0_fitsBetter_49 : decode cX0_fitsBetter 49 = .ok (.dconst 0, 1) := by decide +kernel
theorem dX0_fitsBetter_50 : decode cX0_fitsBetter 50 = .ok (.dcmp .l, 1) := by decide +kernel
theorem dX0_fitsBetter_51 : decode cX0_fitsBetter 51 = .ok (.ifCond .lt 22, 3) := by decide +kernel
theorem dX0_fitsBetter_54 : decode cX0_fitsBetter 54 = .ok (.aload_n 0, 1) := by decide +kernel
theorem dX0_fitsBetter_55 : decode cX0_fitsBetter 55 = .ok (.dload 5, 2) := by decide +kernel
theorem dX0_fitsBetter_57 : decode cX0_fitsBetter 57 = .ok (.invokevirtual 57, 3) := by decide +kernel
theorem dX0_fitsBetter_60 : decode cX0_fitsBetter 60 = .ok (.dload_n 1, 1) := by decide +kernel
theorem dX0_fitsBetter_61 : decode cX0_fitsBetter 61 = .ok (.dcmp .g, 1) := by decide +kernel
theorem dX0_fitsBetter_62 : decode cX0_fitsBetter 62 = .ok (.ifCond .ge 11, 3) := by decide +kernel
theorem dX0_fitsBetter_65 : decode cX0_fitsBetter 65 = .ok (.aload_n 0, 1) := by decide +kernel
theorem dX0_fitsBetter_66 : decode cX0_fitsBetter 66 = .ok (.dload 5, 2) := by decide +kernel
theorem dX0_fitsBetter_68 : decode cX0_fitsBetter 68 = .ok (.putfield 25, 3) := by decide +kernel
theorem dX0_fitsBetter_71 : decode cX0_fitsBetter 71 = .ok (.iconst 1, 1) := by decide +kernel
theorem dX0_fitsBetter_72 : decode cX0_fitsBetter 72 = .ok (.ireturn, 1) := by decide +kernel
theorem dX0_fitsBetter_73 : decode cX0_fitsBetter 73 = .ok (.aload_n 0, 1) := by decide +kernel
theorem dX0_fitsBetter_74 : decode cX0_fitsBetter 74 = .ok (.aload_n 0, 1) := by decide +kernel
theorem dX0_fitsBetter_75 : decode cX0_fitsBetter 75 = .ok (.getfield 29, 3) := by decide +kernel
theorem dX0_fitsBetter_78 : decode cX0_fitsBetter 78 = .ok (.ldc2_w 60, 3) := by decide +kernel
theorem dX0_fitsBetter_81 : decode cX0_fitsBetter 81 = .ok (.ddiv, 1) := by decide +kernel
theorem dX0_fitsBetter_82 : decode cX0_fitsBetter 82 = .ok (.putfield 29, 3) := by decide +kernel
theorem dX0_fitsBetter_85 : decode cX0_fitsBetter 85 = .ok (.iconst 0, 1) := by decide +kernel
theorem dX0_fitsBetter_86 : decode cX0_fitsBetter 86 = .ok (.ireturn, 1) := by decide +kernel
theorem dX0_formFor_0 : decode cX0_formFor 0 = .ok (.dconst 0, 1) := by decide +kernel
theorem dX0_formFor_1 : decode cX0_formFor 1 = .ok (.dstore_n 3, 1) := by decide +kernel
theorem dX0_formFor_2 : decode cX0_formFor 2 = .ok (.dload_n 1, 1) := by decide +kernel
theorem dX0_formFor_3 : decode cX0_formFor 3 = .ok (.dstore 5, 2) := by decide +kernel
theorem dX0_formFor_5 : decode cX0_formFor 5 = .ok (.iconst 0, 1) := by decide +kernel
theorem dX0_formFor_6 : decode cX0_formFor 6 = .ok (.istore 7, 2) := by decide +kernel
theorem dX0_formFor_8 : decode cX0_formFor 8 = .ok (.iload 7, 2) := by decide +kernel
theorem dX0_formFor_10 : decode cX0_formFor 10 = .ok (.bipush 40, 2) := by decide +kernel
theorem dX0_formFor_12 : decode cX0_formFor 12 = .ok (.if_icmp .ge 43, 3) := by decide +kernel
theorem dX0_formFor_15 : decode cX0_formFor 15 = .ok (.dload_n 3, 1) := by decide +kernel
theorem dX0_formFor_16 : decode cX0_formFor 16 = .ok (.dload 5, 2) := by decide +kernel
theorem dX0_formFor_18 : decode cX0_formFor 18 = .ok (.dadd, 1) := by decide +kernel
theorem dX0_formFor_19 : decode cX0_formFor 19 = .ok (.ldc2_w 60, 3) := by decide +kernel
theorem dX0_formFor_22 : decode cX0_formFor 22 = .ok (.ddiv, 1) := by decide +kernel
theorem dX0_formFor_23 : decode cX0_formFor 23 = .ok (.dstore 8, 2) := by decide +kernel
theorem dX0_formFor_25 : decode cX0_formFor 25 = .ok (.dload 8, 2) := by decide +kernel
theorem dX0_formFor_27 : decode cX0_formFor 27 = .ok (.dconst 1, 1) := by decide +kernel
theorem dX0_formFor_28 : decode cX0_formFor 28 = .ok (.aload_n 0, 1) := by decide +kernel
theorem dX0_formFor_29 : decode cX0_formFor 29 = .ok (.getfield 25, 3) := by decide +kernel
theorem dX0_formFor_32 : decode cX0_formFor 32 = .ok (.dadd, 1) := by decide +kernel
theorem dX0_formFor_33 : decode cX0_formFor 33 = .ok (.dmul, 1) := by decide +kernel
theorem dX0_formFor_34 : decode cX0_formFor 34 = .ok (.dload_n 1, 1) := by decide +kernel
theorem dX0_formFor_35 : decode cX0_formFor 35 = .ok (.dcmp .g, 1) := by decide +kernel
theorem dX0_formFor_36 : decode cX0_formFor 36 = .ok (.ifCond .ge 9, 3) := by decide +kernel
theorem dX0_formFor_39 : decode cX0_formFor 39 = .ok (.dload 8, 2) := by decide +kernel
theorem dX0_formFor_41 : decode cX0_formFor 41 = .ok (.dstore_n 3, 1) := by decide +kernel
theorem dX0_formFor_42 : decode cX0_formFor 42 = .ok (.goto 7, 3) := by decide +kernel
theorem dX0_formFor_45 : decode cX0_formFor 45 = .ok (.dload 8, 2) := by decide +kernel
theorem dX0_formFor_47 : decode cX0_formFor 47 = .ok (.dstore 5, 2) := by decide +kernel
theorem dX0_formFor_49 : decode cX0_formFor 49 = .ok (.iinc 7 1, 3) := by decide +kernel
theorem dX0_formFor_52 : decode cX0_formFor 52 = .ok (.goto (-44), 3) := by decide +kernel
theorem dX0_formFor_55 : decode cX0_formFor 55 = .ok (.dload 5, 2) := by decide +kernel
theorem dX0_formFor_57 : decode cX0_formFor 57 = .ok (.dreturn, 1) := by decide +kernel
theorem dX1_init_0 : decode cX1_init 0 = .ok (.aload_n 0, 1) := by decide +kernel
theorem dX1_init_1 : decode cX1_init 1 = .ok (.invokespecial 3, 3) := by decide +kernel
theorem dX1_init_4 : decode cX1_init 4 = .ok (.aload_n 0, 1) := by decide +kernel
theorem dX1_init_5 : decode cX1_init 5 = .ok (.iconst 0, 1) := by decide +kernel
theorem dX1_init_6 : decode cX1_init 6 = .ok (.putfield 9, 3) := by decide +kernel
theorem dX1_init_9 : decode cX1_init 9 = .ok (.iload_n 1, 1) := by decide +kernel
theorem dX1_init_10 : decode cX1_init 10 = .ok (.iconst 0, 1) := by decide +kernel
theorem dX1_init_11 : decode cX1_init 11 = .ok (.invokestatic 15, 3) := by decide +kernel
theorem dX1_init_14 : decode cX1_init 14 = .ok (.istore_n 2, 1) := by decide +kernel
theorem dX1_init_15 : decode cX1_init 15 = .ok (.aload_n 0, 1) := by decide +kernel
theorem dX1_init_16 : decode cX1_init 16 = .ok (.iload_n 2, 1) := by decide +kernel
theorem dX1_init_17 : decode cX1_init 17 = .ok (.newarray .double, 2) := by decide +kernel
theorem dX1_init_19 : decode cX1_init 19 = .ok (.putfield 21, 3) := by decide +kernel
theorem dX1_init_22 : decode cX1_init 22 = .ok (.aload_n 0, 1) := by decide +kernel
theorem dX1_init_23 : decode cX1_init 23 = .ok (.iload_n 2, 1) := by decide +kernel
theorem dX1_init_24 : decode cX1_init 24 = .ok (.newarray .double, 2) := by decide +kernel
theorem dX1_init_26 : decode cX1_init 26 = .ok (.putfield 25, 3) := by decide +kernel
theorem dX1_init_29 : decode cX1_init 29 = .ok (.return_, 1) := by decide +kernel
theorem dX1_add_0 : decode cX1_add 0 = .ok (.aload_n 0, 1) := by decide +kernel
theorem dX1_add_1 : decode cX1_add 1 = .ok (.aload_n 0, 1) := by decide +kernel
theorem dX1_add_2 : decode cX1_add 2 = .ok (.getfield 9, 3) := by decide +kernel
theorem dX1_add_5 : decode cX1_add 5 = .ok (.invokevirtual 28, 3) := by decide +kernel
theorem dX1_add_8 : decode cX1_add 8 = .ok (.ifCond .ne 5, 3) := by decide +kernel
theorem dX1_add_11 : decode cX1_add 11 = .ok (.iconst (-1), 1) := by decide +kernel
theorem dX1_add_12 : decode cX1_add 12 = .ok (.ireturn, 1) := by decide +kernel
theorem dX1_add_13 : decode cX1_add 13 = .ok (.aload_n 0, 1) := by decide +kernel
theorem dX1_add_14 : decode cX1_add 14 = .ok (.getfield 21, 3) := by decide +kernel
theorem dX1_add_17 : decode cX1_add 17 = .ok (.aload_n 0, 1) := by decide +kernel
theorem dX1_add_18 : decode cX1_add 18 = .ok (.getfield 9, 3) := by decide +kernel
theorem dX1_add_21 : decode cX1_add 21 = .ok (.dload_n 1, 1) := by decide +kernel
theorem dX1_add_22 : decode cX1_add 22 = .ok (.dastore, 1) := by decide +kernel
theorem dX1_add_23 : decode cX1_add 23 = .ok (.aload_n 0, 1) := by decide +kernel
theorem dX1_add_24 : decode cX1_add 24 = .ok (.getfield 25, 3) := by decide +kernel
theorem dX1_add_27 : decode cX1_add 27 = .ok (.aload_n 0, 1) := by decide +kernel
theorem dX1_add_28 : decode cX1_add 28 = .ok (.getfield 9, 3) := by decide +kernel
theorem dX1_add_31 : decode cX1_add 31 = .ok (.dload_n 3, 1) := by decide +kernel
theorem dX1_add_32 : decode cX1_add 32 = .ok (.dastore, 1) := by decide +kernel
theorem dX1_add_33 : decode cX1_add 33 = .ok (.aload_n 0, 1) := by decide +kernel
theorem dX1_add_34 : decode cX1_add 34 = .ok (.dup, 1) := by decide +kernel
theorem dX1_add_35 : decode cX1_add 35 = .ok (.getfield 9, 3) := by decide +kernel
theorem dX1_add_38 : decode cX1_add 38 = .ok (.iconst 1, 1) := by decide +kernel
theorem dX1_add_39 : decode cX1_add 39 = .ok (.iadd, 1) := by decide +kernel
theorem dX1_add_40 : decode cX1_add 40 = .ok (.putfield 9, 3) := by decide +kernel
theorem dX1_add_43 : decode cX1_add 43 = .ok (.aload_n 0, 1) := by decide +kernel
theorem dX1_add_44 : decode cX1_add 44 = .ok (.getfield 9, 3) := by decide +kernel
theorem dX1_add_47 : decode cX1_add 47 = .ok (.ireturn, 1) := by decide +kernel
theorem dX1_removeAll_0 : decode cX1_removeAll 0 = .ok (.aload_n 0, 1) := by decide +kernel
theorem dX1_removeAll_1 : decode cX1_removeAll 1 = .ok (.iconst 0, 1) := by decide +kernel
theorem dX1_removeAll_2 : decode cX1_removeAll 2 = .ok (.putfield 9, 3) := by decide +kernel
theorem dX1_removeAll_5 : decode cX1_removeAll 5 = .ok (.return_, 1) := by decide +kernel
theorem dX1_first_0 : decode cX1_first 0 = .ok (.aload_n 0, 1) := by decide +kernel
theorem dX1_first_1 : decode cX1_first 1 = .ok (.iload_n 1, 1) := by decide +kernel
theorem dX1_first_2 : decode cX1_first 2 = .ok (.invokevirtual 28, 3) := by decide +kernel
theorem dX1_first_5 : decode cX1_first 5 = .ok (.ifCond .eq 12, 3) := by decide +kernel
theorem dX1_first_8 : decode cX1_first 8 = .ok (.aload_n 0, 1) := by decide +kernel
theorem dX1_first_9 : decode cX1_first 9 = .ok (.getfield 21, 3) := by decide +kernel
theorem dX1_first_12 : decode cX1_first 12 = .ok (.iload_n 1, 1) := by decide +kernel
theorem dX1_first_13 : decode cX1_first 13 = .ok (.daload, 1) := by decide +kernel
theorem dX1_first_14 : decode cX1_first 14 = .ok (.goto 4, 3) := by decide +kernel
theorem dX1_first_17 : decode cX1_first 17 = .ok (.dconst 0, 1) := by decide +kernel
theorem dX1_first_18 : decode cX1_first 18 = .ok (.dreturn, 1) := by decide +kernel
theorem dX1_second_0 : decode cX1_second 0 = .ok (.aload_n 0, 1) := by decide +kernel
theorem dX1_second_1 : decode cX1_second 1 = .ok (.iload_n 1, 1) := by decide +kernel
theorem dX1_second_2 : decode cX1_second 2 = .ok (.invokevirtual 28, 3) := by decide +kernel
theorem dX1_second_5 : decode cX1_second 5 = .ok (.ifCond .eq 12, 3) := by decide +kernel
theorem dX1_second_8 : decode cX1_second 8 = .ok (.aload_n 0, 1) := by decide +kernel
theorem dX1_second_9 : decode cX1_second 9 = .ok (.getfield 25, 3) := by decide +kernel
theorem dX1_second_12 : decode cX1_second 12 = .ok (.iload_n 1, 1) := by decide +kernel
theorem dX1_second_13 : decode cX1_second 13 = .ok (.daload, 1) := by decide +kernel
theorem dX1_second_14 : decode cX1_second 14 = .ok (.goto 4, 3) := by decide +kernel
theorem dX1_second_17 : decode cX1_second 17 = .ok (.dconst 0, 1) := by decide +kernel
theorem dX1_second_18 : decode cX1_second 18 = .ok (.dreturn, 1) := by decide +kernel
theorem dX1_isPlace_0 : decode cX1_isPlace 0 = .ok (.iload_n 1, 1) := by decide +kernel
theorem dX1_isPlace_1 : decode cX1_isPlace 1 = .ok (.ifCond .lt 25, 3) := by decide +kernel
theorem dX1_isPlace_4 : decode cX1_isPlace 4 = .ok (.iload_n 1, 1) := by decide +kernel
theorem dX1_isPlace_5 : decode cX1_isPlace 5 = .ok (.aload_n 0, 1) := by decide +kernel
theorem dX1_isPlace_6 : decode cX1_isPlace 6 = .ok (.getfield 21, 3) := by decide +kernel
theorem dX1_isPlace_9 : decode cX1_isPlace 9 = .ok (.arraylength, 1) := by decide +kernel
theorem dX1_isPlace_10 : decode cX1_isPlace 10 = .ok (.if_icmp .ge 16, 3) := by decide +kernel
theorem dX1_isPlace_13 : decode cX1_isPlace 13 = .ok (.iload_n 1, 1) := by decide +kernel
theorem dX1_isPlace_14 : decode cX1_isPlace 14 = .ok (.aload_n 0, 1) := by decide +kernel
theorem dX1_isPlace_15 : decode cX1_isPlace 15 = .ok (.getfield 25, 3) := by decide +kernel
theorem dX1_isPlace_18 : decode cX1_isPlace 18 = .ok (.arraylength, 1) := by decide +kernel
theorem dX1_isPlace_19 : decode cX1_isPlace 19 = .ok (.if_icmp .ge 7, 3) := by decide +kernel
theorem dX1_isPlace_22 : decode cX1_isPlace 22 = .ok (.iconst 1, 1) := by decide +kernel
theorem dX1_isPlace_23 : decode cX1_isPlace 23 = .ok (.goto 4, 3) := by decide +kernel
theorem dX1_isPlace_26 : decode cX1_isPlace 26 = .ok (.iconst 0, 1) := by decide +kernel
theorem dX1_isPlace_27 : decode cX1_isPlace 27 = .ok (.ireturn, 1) := by decide +kernel
theorem dX2_init_0 : decode cX2_init 0 = .ok (.aload_n 0, 1) := by decide +kernel
theorem dX2_init_1 : decode cX2_init 1 = .ok (.invokespecial 3, 3) := by decide +kernel
theorem dX2_init_4 : decode cX2_init 4 = .ok (.aload_n 0, 1) := by decide +kernel
theorem dX2_init_5 : decode cX2_init 5 = .ok (.new 9, 3) := by decide +kernel
theorem dX2_init_8 : decode cX2_init 8 = .ok (.dup, 1) := by decide +kernel
theorem dX2_init_9 : decode cX2_init 9 = .ok (.bipush 12, 2) := by decide +kernel
theorem dX2_init_11 : decode cX2_init 11 = .ok (.invokespecial 11, 3) := by decide +kernel
theorem dX2_init_14 : decode cX2_init 14 = .ok (.putfield 14, 3) := by decide +kernel
theorem dX2_init_17 : decode cX2_init 17 = .ok (.return_, 1) := by decide +kernel
theorem dX2_isBendable_0 : decode cX2_isBendable 0 = .ok (.iconst 0, 1) := by decide +kernel
theorem dX2_isBendable_1 : decode cX2_isBendable 1 = .ok (.istore_n 3, 1) := by decide +kernel
theorem dX2_isBendable_2 : decode cX2_isBendable 2 = .ok (.iload_n 3, 1) := by decide +kernel
theorem dX2_isBendable_3 : decode cX2_isBendable 3 = .ok (.aload_n 0, 1) := by decide +kernel
theorem dX2_isBendable_4 : decode cX2_isBendable 4 = .ok (.getfield 14, 3) := by decide +kernel
theorem dX2_isBendable_7 : decode cX2_isBendable 7 = .ok (.getfield 20, 3) := by decide +kernel
theorem dX2_isBendable_10 : decode cX2_isBendable 10 = .ok (.if_icmp .ge 39, 3) := by decide +kernel
theorem dX2_isBendable_13 : decode cX2_isBendable 13 = .ok (.aload_n 0, 1) := by decide +kernel
theorem dX2_isBendable_14 : decode cX2_isBendable 14 = .ok (.getfield 14, 3) := by decide +kernel
theorem dX2_isBendable_17 : decode cX2_isBendable 17 = .ok (.iload_n 3, 1) := by decide +kernel
theorem dX2_isBendable_18 : decode cX2_isBendable 18 = .ok (.invokevirtual 24, 3) := by decide +kernel
theorem dX2_isBendable_21 : decode cX2_isBendable 21 = .ok (.dstore 4, 2) := by decide +kernel
theorem dX2_isBendable_23 : decode cX2_isBendable 23 = .ok (.dload 4, 2) := by decide +kernel
theorem dX2_isBendable_25 : decode cX2_isBendable 25 = .ok (.dconst 0, 1) := by decide +kernel
theorem dX2_isBendable_26 : decode cX2_isBendable 26 = .ok (.dcmp .l, 1) := by decide +kernel
theorem dX2_isBendable_27 : decode cX2_isBendable 27 = .ok (.ifCond .le 16, 3) := by decide +kernel
theorem dX2_isBendable_30 : decode cX2_isBendable 30 = .ok (.dload_n 1, 1) := by decide +kernel
theorem dX2_isBendable_31 : decode cX2_isBendable 31 = .ok (.ldc2_w 28, 3) := by decide +kernel
theorem dX2_isBendable_34 : decode cX2_isBendable 34 = .ok (.dload 4, 2) := by decide +kernel
theorem dX2_isBendable_36 : decode cX2_isBendable 36 = .ok (.dmul, 1) := by decide +kernel
theorem dX2_isBendable_37 : decode cX2_isBendable 37 = .ok (.dcmp .l, 1) := by decide +kernel
theorem dX2_isBendable_38 : decode cX2_isBendable 38 = .ok (.ifCond .le 5, 3) := by decide +kernel
theorem dX2_isBendable_41 : decode cX2_isBendable 41 = .ok (.iconst 0, 1) := by decide +kernel
theorem dX2_isBendable_42 : decode cX2_isBendable 42 = .ok (.ireturn, 1) := by decide +kernel
theorem dX2_isBendable_43 : decode cX2_isBendable 43 = .ok (.iinc 3 1, 3) := by decide +kernel
theorem dX2_isBendable_46 : decode cX2_isBendable 46 = .ok (.goto (-44), 3) := by decide +kernel
theorem dX2_isBendable_49 : decode cX2_isBendable 49 = .ok (.iconst 1, 1) := by decide +kernel
theorem dX2_isBendable_50 : decode cX2_isBendable 50 = .ok (.ireturn, 1) := by decide +kernel
theorem dX2_sumOfLengths_0 : decode cX2_sumOfLengths 0 = .ok (.dconst 0, 1) := by decide +kernel
theorem dX2_sumOfLengths_1 : decode cX2_sumOfLengths 1 = .ok (.dstore 4, 2) := by decide +kernel
theorem dX2_sumOfLengths_3 : decode cX2_sumOfLengths 3 = .ok (.iconst 0, 1) := by decide +kernel
theorem dX2_sumOfLengths_4 : decode cX2_sumOfLengths 4 = .ok (.istore 6, 2) := by decide +kernel
theorem dX2_sumOfLengths_6 : decode cX2_sumOfLengths 6 = .ok (.iload 6, 2) := by decide +kernel
theorem dX2_sumOfLengths_8 : decode cX2_sumOfLengths 8 = .ok (.aload_n 0, 1) := by decide +kernel
theorem dX2_sumOfLengths_9 : decode cX2_sumOfLengths 9 = .ok (.getfield 14, 3) := by decide +kernel
theorem dX2_sumOfLengths_12 : decode cX2_sumOfLengths 12 = .ok (.getfield 20, 3) := by decide +kernel
theorem dX2_sumOfLengths_15 : decode cX2_sumOfLengths 15 = .ok (.if_icmp .ge 22, 3) := by decide +kernel
theorem dX2_sumOfLengths_18 : decode cX2_sumOfLengths 18 = .ok (.dload 4, 2) := by decide +kernel
theorem dX2_sumOfLengths_20 : decode cX2_sumOfLengths 20 = .ok (.aload_n 0, 1) := by decide +kernel
theorem dX2_sumOfLengths_21 : decode cX2_sumOfLengths 21 = .ok (.iload 6, 2) := by decide +kernel
theorem dX2_sumOfLengths_23 : decode cX2_sumOfLengths 23 = .ok (.iload_n 1, 1) := by decide +kernel
theorem dX2_sumOfLengths_24 : decode cX2_sumOfLengths 24 = .ok (.dload_n 2, 1) := by decide +kernel
theorem dX2_sumOfLengths_25 : decode cX2_sumOfLengths 25 = .ok (.invokevirtual 30, 3) := by decide +kernel
theorem dX2_sumOfLengths_28 : decode cX2_sumOfLengths 28 = .ok (.dadd, 1) := by decide +kernel
theorem dX2_sumOfLengths_29 : decode cX2_sumOfLengths 29 = .ok (.dstore 4, 2) := by decide +kernel
theorem dX2_sumOfLengths_31 : decode cX2_sumOfLengths 31 = .ok (.iinc 6 1, 3) := by decide +kernel
theorem dX2_sumOfLengths_34 : decode cX2_sumOfLengths 34 = .ok (.goto (-28), 3) := by decide +kernel
theorem dX2_sumOfLengths_37 : decode cX2_sumOfLengths 37 = .ok (.dload 4, 2) := by decide +kernel
theorem dX2_sumOfLengths_39 : decode cX2_sumOfLengths 39 = .ok (.dreturn, 1) := by decide +kernel
theorem dX2_lengthOf_0 : decode cX2_lengthOf 0 = .ok (.aload_n 0, 1) := by decide +kernel
theorem dX2_lengthOf_1 : decode cX2_lengthOf 1 = .ok (.getfield 14, 3) := by decide +kernel
theorem dX2_lengthOf_4 : decode cX2_lengthOf 4 = .ok (.iload_n 1, 1) := by decide +kernel
theorem dX2_lengthOf_5 : decode cX2_lengthOf 5 = .ok (.invokevirtual 34, 3) := by decide +kernel
theorem dX2_lengthOf_8 : decode cX2_lengthOf 8 = .ok (.dstore 5, 2) := by decide +kernel
theorem dX2_lengthOf_10 : decode cX2_lengthOf 10 = .ok (.aload_n 0, 1) := by decide +kernel
theorem dX2_lengthOf_11 : decode cX2_lengthOf 11 = .ok (.getfield 14, 3) := by decide +kernel
theorem dX2_lengthOf_14 : decode cX2_lengthOf 14 = .ok (.iload_n 1, 1) := by decide +kernel
theorem dX2_lengthOf_15 : decode cX2_lengthOf 15 = .ok (.invokevirtual 24, 3) := by decide +kernel
theorem dX2_lengthOf_18 : decode cX2_lengthOf 18 = .ok (.dstore 7, 2) := by decide +kernel
theorem dX2_lengthOf_20 : decode cX2_lengthOf 20 = .ok (.dload 7, 2) := by decide +kernel
theorem dX2_lengthOf_22 : decode cX2_lengthOf 22 = .ok (.dconst 0, 1) := by decide +kernel
theorem dX2_lengthOf_23 : decode cX2_lengthOf 23 = .ok (.dcmp .l, 1) := by decide +kernel
theorem dX2_lengthOf_24 : decode cX2_lengthOf 24 = .ok (.ifCond .gt 6, 3) := by decide +kernel
theorem dX2_lengthOf_27 : decode cX2_lengthOf 27 = .ok (.dload 5, 2) := by decide +kernel
theorem dX2_lengthOf_29 : decode cX2_lengthOf 29 = .ok (.dreturn, 1) := by decide +kernel
theorem dX2_lengthOf_30 : decode cX2_lengthOf 30 = .ok (.iload_n 2, 1) := by decide +kernel
theorem dX2_lengthOf_31 : decode cX2_lengthOf 31 = .ok (.ifCond .eq 14, 3) := by decide +kernel
theorem dX2_lengthOf_34 : decode cX2_lengthOf 34 = .ok (.dload 7, 2) := by decide +kernel
theorem dX2_lengthOf_36 : decode cX2_lengthOf 36 = .ok (.dload_n 3, 1) := by decide +kernel
theorem dX2_lengthOf_37 : decode cX2_lengthOf 37 = .ok (.ldc2_w 28, 3) := by decide +kernel
theorem dX2_lengthOf_40 : decode cX2_lengthOf 40 = .ok (.ddiv, 1) := by decide +kernel
theorem dX2_lengthOf_41 : decode cX2_lengthOf 41 = .ok (.dadd, 1) := by decide +kernel
theorem dX2_lengthOf_42 : decode cX2_lengthOf 42 = .ok (.goto 11, 3) := by decide +kernel
theorem dX2_lengthOf_45 : decode cX2_lengthOf 45 = .ok (.dload 7, 2) := by decide +kernel
theorem dX2_lengthOf_47 : decode cX2_lengthOf 47 = .ok (.dload_n 3, 1) := by decide +kernel
theorem dX2_lengthOf_48 : decode cX2_lengthOf 48 = .ok (.ldc2_w 28, 3) := by decide +kernel
theorem dX2_lengthOf_51 : decode cX2_lengthOf 51 = .ok (.ddiv, 1) := by decide +kernel
theorem dX2_lengthOf_52 : decode cX2_lengthOf 52 = .ok (.dsub, 1) := by decide +kernel
theorem dX2_lengthOf_53 : decode cX2_lengthOf 53 = .ok (.dstore 9, 2) := by decide +kernel
theorem dX2_lengthOf_55 : decode cX2_lengthOf 55 = .ok (.dload 5, 2) := by decide +kernel
theorem dX2_lengthOf_57 : decode cX2_lengthOf 57 = .ok (.dload 9, 2) := by decide +kernel
theorem dX2_lengthOf_59 : decode cX2_lengthOf 59 = .ok (.dmul, 1) := by decide +kernel
theorem dX2_lengthOf_60 : decode cX2_lengthOf 60 = .ok (.dload 7, 2) := by decide +kernel
theorem dX2_lengthOf_62 : decode cX2_lengthOf 62 = .ok (.ddiv, 1) := by decide +kernel
theorem dX2_lengthOf_63 : decode cX2_lengthOf 63 = .ok (.dreturn, 1) := by decide +kernel
theorem dX3_init_0 : decode cX3_init 0 = .ok (.aload_n 0, 1) := by decide +kernel
theorem dX3_init_1 : decode cX3_init 1 = .ok (.invokespecial 1, 3) := by decide +kernel
theorem dX3_init_4 : decode cX3_init 4 = .ok (.aload_n 0, 1) := by decide +kernel
theorem dX3_init_5 : decode cX3_init 5 = .ok (.iconst 4, 1) := by decide +kernel
theorem dX3_init_6 : decode cX3_init 6 = .ok (.anewarray 9, 3) := by decide +kernel
theorem dX3_init_9 : decode cX3_init 9 = .ok (.putfield 11, 3) := by decide +kernel
theorem dX3_init_12 : decode cX3_init 12 = .ok (.aload_n 0, 1) := by decide +kernel
theorem dX3_init_13 : decode cX3_init 13 = .ok (.new 15, 3) := by decide +kernel
theorem dX3_init_16 : decode cX3_init 16 = .ok (.dup, 1) := by decide +kernel
theorem dX3_init_17 : decode cX3_init 17 = .ok (.invokespecial 17, 3) := by decide +kernel
theorem dX3_init_20 : decode cX3_init 20 = .ok (.putfield 18, 3) := by decide +kernel
theorem dX3_init_23 : decode cX3_init 23 = .ok (.aload_n 0, 1) := by decide +kernel
theorem dX3_init_24 : decode cX3_init 24 = .ok (.iconst 0, 1) := by decide +kernel
theorem dX3_init_25 : decode cX3_init 25 = .ok (.putfield 22, 3) := by decide +kernel
theorem dX3_init_28 : decode cX3_init 28 = .ok (.aload_n 0, 1) := by decide +kernel
theorem dX3_init_29 : decode cX3_init 29 = .ok (.dconst 0, 1) := by decide +kernel
theorem dX3_init_30 : decode cX3_init 30 = .ok (.putfield 26, 3) := by decide +kernel
theorem dX3_init_33 : decode cX3_init 33 = .ok (.iconst 0, 1) := by decide +kernel
theorem dX3_init_34 : decode cX3_init 34 = .ok (.istore_n 1, 1) := by decide +kernel
theorem dX3_init_35 : decode cX3_init 35 = .ok (.iload_n 1, 1) := by decide +kernel
theorem dX3_init_36 : decode cX3_init 36 = .ok (.aload_n 0, 1) := by decide +kernel
theorem dX3_init_37 : decode cX3_init 37 = .ok (.getfield 11, 3) := by decide +kernel
theorem dX3_init_40 : decode cX3_init 40 = .ok (.arraylength, 1) := by decide +kernel
theorem dX3_init_41 : decode cX3_init 41 = .ok (.if_icmp .ge 22, 3) := by decide +kernel
theorem dX3_init_44 : decode cX3_init 44 = .ok (.aload_n 0, 1) := by decide +kernel
theorem dX3_init_45 : decode cX3_init 45 = .ok (.getfield 11, 3) := by decide +kernel
theorem dX3_init_48 : decode cX3_init 48 = .ok (.iload_n 1, 1) := by decide +kernel
theorem dX3_init_49 : decode cX3_init 49 = .ok (.new 9, 3) := by decide +kernel
theorem dX3_init_52 : decode cX3_init 52 = .ok (.dup, 1) := by decide +kernel
theorem dX3_init_53 : decode cX3_init 53 = .ok (.invokespecial 30, 3) := by decide +kernel
theorem dX3_init_56 : decode cX3_init 56 = .ok (.aastore, 1) := by decide +kernel
theorem dX3_init_57 : decode cX3_init 57 = .ok (.iinc 1 1, 3) := by decide +kernel
theorem dX3_init_60 : decode cX3_init 60 = .ok (.goto (-25), 3) := by decide +kernel
theorem dX3_init_63 : decode cX3_init 63 = .ok (.return_, 1) := by decide +kernel
theorem dX3_table_0 : decode cX3_table 0 = .ok (.aload_n 0, 1) := by decide +kernel
theorem dX3_table_1 : decode cX3_table 1 = .ok (.iload_n 1, 1) := by decide +kernel
theorem dX3_table_2 : decode cX3_table 2 = .ok (.invokevirtual 31, 3) := by decide +kernel
theorem dX3_table_5 : decode cX3_table 5 = .ok (.astore 6, 2) := by decide +kernel
theorem dX3_table_7 : decode cX3_table 7 = .ok (.dload_n 2, 1) := by decide +kernel
theorem dX3_table_8 : decode cX3_table 8 = .ok (.ldc2_w 35, 3) := by decide +kernel
theorem dX3_table_11 : decode cX3_table 11 = .ok (.ldc2_w 37, 3) := by decide +kernel
theorem dX3_table_14 : decode cX3_table 14 = .ok (.invokestatic 39, 3) := by decide +kernel
theorem dX3_table_17 : decode cX3_table 17 = .ok (.ifCond .eq 26, 3) := by decide +kernel
theorem dX3_table_20 : decode cX3_table 20 = .ok (.dload 4, 2) := by decide +kernel
theorem dX3_table_22 : decode cX3_table 22 = .ok (.ldc2_w 35, 3) := by decide +kernel
theorem dX3_table_25 : decode cX3_table 25 = .ok (.ldc2_w 43, 3) := by decide +kernel
theorem dX3_table_28 : decode cX3_table 28 = .ok (.invokestatic 39, 3) := by decide +kernel
theorem dX3_table_31 : decode cX3_table 31 = .ok (.ifCond .eq 12, 3) := by decide +kernel
theorem dX3_table_34 : decode cX3_table 34 = .ok (.aload 6, 2) := by decide +kernel
theorem dX3_table_36 : decode cX3_table 36 = .ok (.dload_n 2, 1) := by decide +kernel
theorem dX3_table_37 : decode cX3_table 37 = .ok (.invokevirtual 45, 3) := by decide +kernel
theorem dX3_table_40 : decode cX3_table 40 = .ok (.ifCond .ne 13, 3) := by decide +kernel
theorem dX3_table_43 : decode cX3_table 43 = .ok (.new 49, 3) := by decide +kernel
theorem dX3_table_46 : decode cX3_table 46 = .ok (.dup, 1) := by decide +kernel
theorem dX3_table_47 : decode cX3_table 47 = .ok (.ldc 51, 2) := by decide +kernel
theorem dX3_table_49 : decode cX3_table 49 = .ok (.invokespecial 53, 3) := by decide +kernel
theorem dX3_table_52 : decode cX3_table 52 = .ok (.athrow, 1) := by decide +kernel
theorem dX3_table_53 : decode cX3_table 53 = .ok (.aload 6, 2) := by decide +kernel
theorem dX3_table_55 : decode cX3_table 55 = .ok (.getfield 56, 3) := by decide +kernel
theorem dX3_table_58 : decode cX3_table 58 = .ok (.dload_n 2, 1) := by decide +kernel
theorem dX3_table_59 : decode cX3_table 59 = .ok (.dload 4, 2) := by decide +kernel
theorem dX3_table_61 : decode cX3_table 61 = .ok (.invokevirtual 60, 3) := by decide +kernel
theorem dX3_table_64 : decode cX3_table 64 = .ok (.istore 7, 2) := by decide +kernel
theorem dX3_table_66 : decode cX3_table 66 = .ok (.iload 7, 2) := by decide +kernel
theorem dX3_table_68 : decode cX3_table 68 = .ok (.iconst (-1), 1) := by decide +kernel
theorem dX3_table_69 : decode cX3_table 69 = .ok (.if_icmp .ne 13, 3) := by decide +kernel
theorem dX3_table_72 : decode cX3_table 72 = .ok (.new 66, 3) := by decide +kernel
theorem dX3_table_75 : decode cX3_table 75 = .ok (.dup, 1) := by decide +kernel
theorem dX3_table_76 : decode cX3_table 76 = .ok (.ldc 68, 2) := by decide +kernel
theorem dX3_table_78 : decode cX3_table 78 = .ok (.invokespecial 70, 3) := by decide +kernel
theorem dX3_table_81 : decode cX3_table 81 = .ok (.athrow, 1) := by decide +kernel
theorem dX3_table_82 : decode cX3_table 82 = .ok (.iload 7, 2) := by decide +kernel
theorem dX3_table_84 : decode cX3_table 84 = .ok (.ireturn, 1) := by decide +kernel
theorem dX3_radius_0 : decode cX3_radius 0 = .ok (.aload_n 0, 1) := by decide +kernel
theorem dX3_radius_1 : decode cX3_radius 1 = .ok (.iload_n 1, 1) := by decide +kernel
theorem dX3_radius_2 : decode cX3_radius 2 = .ok (.invokevirtual 31, 3) := by decide +kernel
theorem dX3_radius_5 : decode cX3_radius 5 = .ok (.astore 4, 2) := by decide +kernel
theorem dX3_radius_7 : decode cX3_radius 7 = .ok (.dload_n 2, 1) := by decide +kernel
theorem dX3_radius_8 : decode cX3_radius 8 = .ok (.dconst 0, 1) := by decide +kernel
theorem dX3_radius_9 : decode cX3_radius 9 = .ok (.ldc2_w 37, 3) := by decide +kernel
theorem dX3_radius_12 : decode cX3_radius 12 = .ok (.invokestatic 39, 3) := by decide +kernel
theorem dX3_radius_15 : decode cX3_radius 15 = .ok (.ifCond .ne 13, 3) := by decide +kernel
theorem dX3_radius_18 : decode cX3_radius 18 = .ok (.new 49, 3) := by decide +kernel
theorem dX3_radius_21 : decode cX3_radius 21 = .ok (.dup, 1) := by decide +kernel
theorem dX3_radius_22 : decode cX3_radius 22 = .ok (.ldc 71, 2) := by decide +kernel
theorem dX3_radius_24 : decode cX3_radius 24 = .ok (.invokespecial 53, 3) := by decide +kernel
theorem dX3_radius_27 : decode cX3_radius 27 = .ok (.athrow, 1) := by decide +kernel
theorem dX3_radius_28 : decode cX3_radius 28 = .ok (.aload 4, 2) := by decide +kernel
theorem dX3_radius_30 : decode cX3_radius 30 = .ok (.dload_n 2, 1) := by decide +kernel
theorem dX3_radius_31 : decode cX3_radius 31 = .ok (.invokevirtual 73, 3) := by decide +kernel
theorem dX3_radius_34 : decode cX3_radius 34 = .ok (.dstore 5, 2) := by decide +kernel
theorem dX3_radius_36 : decode cX3_radius 36 = .ok (.dload 5, 2) := by decide +kernel
theorem dX3_radius_38 : decode cX3_radius 38 = .ok (.invokestatic 77, 3) := by decide +kernel
theorem dX3_radius_41 : decode cX3_radius 41 = .ok (.ifCond .eq 13, 3) := by decide +kernel
theorem dX3_radius_44 : decode cX3_radius 44 = .ok (.new 66, 3) := by decide +kernel
theorem dX3_radius_47 : decode cX3_radius 47 = .ok (.dup, 1) := by decide +kernel
theorem dX3_radius_48 : decode cX3_radius 48 = .ok (.ldc 80, 2) := by decide +kernel
theorem dX3_radius_50 : decode cX3_radius 50 = .ok (.invokespecial 70, 3) := by decide +kernel
theorem dX3_radius_53 : decode cX3_radius 53 = .ok (.athrow, 1) := by decide +kernel
theorem dX3_radius_54 : decode cX3_radius 54 = .ok (.dload 5, 2) := by decide +kernel
theorem dX3_radius_56 : decode cX3_radius 56 = .ok (.dreturn, 1) := by decide +kernel
theorem dX3_strips_0 : decode cX3_strips 0 = .ok (.aload_n 0, 1) := by decide +kernel
theorem dX3_strips_1 : decode cX3_strips 1 = .ok (.iload_n 1, 1) := by decide +kernel
theorem dX3_strips_2 : decode cX3_strips 2 = .ok (.invokevirtual 31, 3) := by decide +kernel
theorem dX3_strips_5 : decode cX3_strips 5 = .ok (.astore 6, 2) := by decide +kernel
theorem dX3_strips_7 : decode cX3_strips 7 = .ok (.dload_n 2, 1) := by decide +kernel
theorem dX3_strips_8 : decode cX3_strips 8 = .ok (.ldc2_w 35, 3) := by decide +kernel
theorem dX3_strips_11 : decode cX3_strips 11 = .ok (.ldc2_w 43, 3) := by decide +kernel
theorem dX3_strips_14 : decode cX3_strips 14 = .ok (.invokestatic 39, 3) := by decide +kernel
theorem dX3_strips_17 : decode cX3_strips 17 = .ok (.ifCond .eq 17, 3) := by decide +kernel
theorem dX3_strips_20 : decode cX3_strips 20 = .ok (.dload 4, 2) := by decide +kernel
theorem dX3_strips_22 : decode cX3_strips 22 = .ok (.ldc2_w 35, 3) := by decide +kernel
theorem dX3_strips_25 : decode cX3_strips 25 = .ok (.ldc2_w 43, 3) := by decide +kernel
theorem dX3_strips_28 : decode cX3_strips 28 = .ok (.invokestatic 39, 3) := by decide +kernel
theorem dX3_strips_31 : decode cX3_strips 31 = .ok (.ifCond .ne 13, 3) := by decide +kernel
theorem dX3_strips_34 : decode cX3_strips 34 = .ok (.new 49, 3) := by decide +kernel
theorem dX3_strips_37 : decode cX3_strips 37 = .ok (.dup, 1) := by decide +kernel
theorem dX3_strips_38 : decode cX3_strips 38 = .ok (.ldc 82, 2) := by decide +kernel
theorem dX3_strips_40 : decode cX3_strips 40 = .ok (.invokespecial 53, 3) := by decide +kernel
theorem dX3_strips_43 : decode cX3_strips 43 = .ok (.athrow, 1) := by decide +kernel
theorem dX3_strips_44 : decode cX3_strips 44 = .ok (.aload 6, 2) := by decide +kernel
theorem dX3_strips_46 : decode cX3_strips 46 = .ok (.dload_n 2, 1) := by decide +kernel
theorem dX3_strips_47 : decode cX3_strips 47 = .ok (.dload 4, 2) := by decide +kernel
theorem dX3_strips_49 : decode cX3_strips 49 = .ok (.invokevirtual 84, 3) := by decide +kernel
theorem dX3_strips_52 : decode cX3_strips 52 = .ok (.ireturn, 1) := by decide +kernel
theorem dX3_read_0 : decode cX3_read 0 = .ok (.aload_n 0, 1) := by decide +kernel
theorem dX3_read_1 : decode cX3_read 1 = .ok (.iload_n 1, 1) := by decide +kernel
theorem dX3_read_2 : decode cX3_read 2 = .ok (.invokevirtual 31, 3) := by decide +kernel
theorem dX3_read_5 : decode cX3_read 5 = .ok (.astore 6, 2) := by decide +kernel
theorem dX3_read_7 : decode cX3_read 7 = .ok (.dload_n 2, 1) := by decide +kernel
theorem dX3_read_8 : decode cX3_read 8 = .ok (.ldc2_w 35, 3) := by decide +kernel
theorem dX3_read_11 : decode cX3_read 11 = .ok (.ldc2_w 43, 3) := by decide +kernel
theorem dX3_read_14 : decode cX3_read 14 = .ok (.invokestatic 39, 3) := by decide +kernel
theorem dX3_read_17 : decode cX3_read 17 = .ok (.ifCond .eq 15, 3) := by decide +kernel
theorem dX3_read_20 : decode cX3_read 20 = .ok (.dload 4, 2) := by decide +kernel
theorem dX3_read_22 : decode cX3_read 22 = .ok (.dload_n 2, 1) := by decide +kernel
theorem dX3_read_23 : decode cX3_read 23 = .ok (.ldc2_w 87, 3) := by decide +kernel
theorem dX3_read_26 : decode cX3_read 26 = .ok (.invokestatic 39, 3) := by decide +kernel
theorem dX3_read_29 : decode cX3_read 29 = .ok (.ifCond .ne 13, 3) := by decide +kernel
theorem dX3_read_32 : decode cX3_read 32 = .ok (.new 49, 3) := by decide +kernel
theorem dX3_read_35 : decode cX3_read 35 = .ok (.dup, 1) := by decide +kernel
theorem dX3_read_36 : decode cX3_read 36 = .ok (.ldc 89, 2) := by decide +kernel
theorem dX3_read_38 : decode cX3_read 38 = .ok (.invokespecial 53, 3) := by decide +kernel
theorem dX3_read_41 : decode cX3_read 41 = .ok (.athrow, 1) := by decide +kernel
theorem dX3_read_42 : decode cX3_read 42 = .ok (.aload 6, 2) := by decide +kernel
theorem dX3_read_44 : decode cX3_read 44 = .ok (.getfield 91, 3) := by decide +kernel
theorem dX3_read_47 : decode cX3_read 47 = .ok (.dload_n 2, 1) := by decide +kernel
theorem dX3_read_48 : decode cX3_read 48 = .ok (.dload 4, 2) := by decide +kernel
theorem dX3_read_50 : decode cX3_read 50 = .ok (.invokevirtual 60, 3) := by decide +kernel
theorem dX3_read_53 : decode cX3_read 53 = .ok (.istore 7, 2) := by decide +kernel
theorem dX3_read_55 : decode cX3_read 55 = .ok (.iload 7, 2) := by decide +kernel
theorem dX3_read_57 : decode cX3_read 57 = .ok (.iconst (-1), 1) := by decide +kernel
theorem dX3_read_58 : decode cX3_read 58 = .ok (.if_icmp .ne 13, 3) := by decide +kernel
theorem dX3_read_61 : decode cX3_read 61 = .ok (.new 66, 3) := by decide +kernel
theorem dX3_read_64 : decode cX3_read 64 = .ok (.dup, 1) := by decide +kernel
theorem dX3_read_65 : decode cX3_read 65 = .ok (.ldc 94, 2) := by decide +kernel
theorem dX3_read_67 : decode cX3_read 67 = .ok (.invokespecial 70, 3) := by decide +kernel
theorem dX3_read_70 : decode cX3_read 70 = .ok (.athrow, 1) := by decide +kernel
theorem dX3_read_71 : decode cX3_read 71 = .ok (.iload 7, 2) := by decide +kernel
theorem dX3_read_73 : decode cX3_read 73 = .ok (.ireturn, 1) := by decide +kernel
theorem dX3_fit_0 : decode cX3_fit 0 = .ok (.aload_n 0, 1) := by decide +kernel
theorem dX3_fit_1 : decode cX3_fit 1 = .ok (.iload_n 1, 1) := by decide +kernel
theorem dX3_fit_2 : decode cX3_fit 2 = .ok (.invokevirtual 31, 3) := by decide +kernel
theorem dX3_fit_5 : decode cX3_fit 5 = .ok (.astore_n 3, 1) := by decide +kernel
theorem dX3_fit_6 : decode cX3_fit 6 = .ok (.iload_n 2, 1) := by decide +kernel
theorem dX3_fit_7 : decode cX3_fit 7 = .ok (.ifCond .lt 9, 3) := by decide +kernel
theorem dX3_fit_10 : decode cX3_fit 10 = .ok (.iload_n 2, 1) := by decide +kernel
theorem dX3_fit_11 : decode cX3_fit 11 = .ok (.bipush 100, 2) := by decide +kernel
theorem dX3_fit_13 : decode cX3_fit 13 = .ok (.if_icmp .le 13, 3) := by decide +kernel
theorem dX3_fit_16 : decode cX3_fit 16 = .ok (.new 49, 3) := by decide +kernel
theorem dX3_fit_19 : decode cX3_fit 19 = .ok (.dup, 1) := by decide +kernel
theorem dX3_fit_20 : decode cX3_fit 20 = .ok (.ldc 96, 2) := by decide +kernel
theorem dX3_fit_22 : decode cX3_fit 22 = .ok (.invokespecial 53, 3) := by decide +kernel
theorem dX3_fit_25 : decode cX3_fit 25 = .ok (.athrow, 1) := by decide +kernel
theorem dX3_fit_26 : decode cX3_fit 26 = .ok (.iconst 0, 1) := by decide +kernel
theorem dX3_fit_27 : decode cX3_fit 27 = .ok (.istore 4, 2) := by decide +kernel
theorem dX3_fit_29 : decode cX3_fit 29 = .ok (.iconst 0, 1) := by decide +kernel
theorem dX3_fit_30 : decode cX3_fit 30 = .ok (.istore 5, 2) := by decide +kernel
theorem dX3_fit_32 : decode cX3_fit 32 = .ok (.iload 5, 2) := by decide +kernel
theorem dX3_fit_34 : decode cX3_fit 34 = .ok (.iload_n 2, 1) := by decide +kernel
theorem dX3_fit_35 : decode cX3_fit 35 = .ok (.if_icmp .ge 19, 3) := by decide +kernel
theorem dX3_fit_38 : decode cX3_fit 38 = .ok (.aload_n 3, 1) := by decide +kernel
theorem dX3_fit_39 : decode cX3_fit 39 = .ok (.invokevirtual 98, 3) := by decide +kernel
theorem dX3_fit_42 : decode cX3_fit 42 = .ok (.ifCond .eq 6, 3) := by decide +kernel
theorem dX3_fit_45 : decode cX3_fit 45 = .ok (.iinc 4 1, 3) := by decide +kernel
theorem dX3_fit_48 : decode cX3_fit 48 = .ok (.iinc 5 1, 3) := by decide +kernel
theorem dX3_fit_51 : decode cX3_fit 51 = .ok (.goto (-19), 3) := by decide +kernel
theorem dX3_fit_54 : decode cX3_fit 54 = .ok (.iload 4, 2) := by decide +kernel
theorem dX3_fit_56 : decode cX3_fit 56 = .ok (.ireturn, 1) := by decide +kernel
theorem dX3_back_0 : decode cX3_back 0 = .ok (.aload_n 0, 1) := by decide +kernel
theorem dX3_back_1 : decode cX3_back 1 = .ok (.iload_n 1, 1) := by decide +kernel
theorem dX3_back_2 : decode cX3_back 2 = .ok (.invokevirtual 31, 3) := by decide +kernel
theorem dX3_back_5 : decode cX3_back 5 = .ok (.astore_n 3, 1) := by decide +kernel
theorem dX3_back_6 : decode cX3_back 6 = .ok (.iload_n 2, 1) := by decide +kernel
theorem dX3_back_7 : decode cX3_back 7 = .ok (.tableswitch 44 0 2 #[25, 30, 35], 25) := by decide +kernel
theorem dX3_back_32 : decode cX3_back 32 = .ok (.aload_n 3, 1) := by decide +kernel
theorem dX3_back_33 : decode cX3_back 33 = .ok (.getfield 102, 3) := by decide +kernel
theorem dX3_back_36 : decode cX3_back 36 = .ok (.dreturn, 1) := by decide +kernel
theorem dX3_back_37 : decode cX3_back 37 = .ok (.aload_n 3, 1) := by decide +kernel
theorem dX3_back_38 : decode cX3_back 38 = .ok (.getfield 105, 3) := by decide +kernel
theorem dX3_back_41 : decode cX3_back 41 = .ok (.dreturn, 1) := by decide +kernel
theorem dX3_back_42 : decode cX3_back 42 = .ok (.aload_n 3, 1) := by decide +kernel
theorem dX3_back_43 : decode cX3_back 43 = .ok (.aload_n 3, 1) := by decide +kernel
theorem dX3_back_44 : decode cX3_back 44 = .ok (.getfield 102, 3) := by decide +kernel
theorem dX3_back_47 : decode cX3_back 47 = .ok (.invokevirtual 108, 3) := by decide +kernel
theorem dX3_back_50 : decode cX3_back 50 = .ok (.dreturn, 1) := by decide +kernel
theorem dX3_back_51 : decode cX3_back 51 = .ok (.new 111, 3) := by decide +kernel
theorem dX3_back_54 : decode cX3_back 54 = .ok (.dup, 1) := by decide +kernel
theorem dX3_back_55 : decode cX3_back 55 = .ok (.ldc 113, 2) := by decide +kernel
theorem dX3_back_57 : decode cX3_back 57 = .ok (.invokespecial 115, 3) := by decide +kernel
theorem dX3_back_60 : decode cX3_back 60 = .ok (.athrow, 1) := by decide +kernel
theorem dX3_form_0 : decode cX3_form 0 = .ok (.aload_n 0, 1) := by decide +kernel
theorem dX3_form_1 : decode cX3_form 1 = .ok (.iload_n 1, 1) := by decide +kernel
theorem dX3_form_2 : decode cX3_form 2 = .ok (.invokevirtual 31, 3) := by decide +kernel
theorem dX3_form_5 : decode cX3_form 5 = .ok (.astore 4, 2) := by decide +kernel
theorem dX3_form_7 : decode cX3_form 7 = .ok (.dload_n 2, 1) := by decide +kernel
theorem dX3_form_8 : decode cX3_form 8 = .ok (.ldc2_w 35, 3) := by decide +kernel
theorem dX3_form_11 : decode cX3_form 11 = .ok (.ldc2_w 87, 3) := by decide +kernel
theorem dX3_form_14 : decode cX3_form 14 = .ok (.invokestatic 39, 3) := by decide +kernel
theorem dX3_form_17 : decode cX3_form 17 = .ok (.ifCond .ne 13, 3) := by decide +kernel
theorem dX3_form_20 : decode cX3_form 20 = .ok (.new 49, 3) := by decide +kernel
theorem dX3_form_23 : decode cX3_form 23 = .ok (.dup, 1) := by decide +kernel
theorem dX3_form_24 : decode cX3_form 24 = .ok (.ldc 116, 2) := by decide +kernel
theorem dX3_form_26 : decode cX3_form 26 = .ok (.invokespecial 53, 3) := by decide +kernel
theorem dX3_form_29 : decode cX3_form 29 = .ok (.athrow, 1) := by decide +kernel
theorem dX3_form_30 : decode cX3_form 30 = .ok (.aload 4, 2) := by decide +kernel
theorem dX3_form_32 : decode cX3_form 32 = .ok (.dload_n 2, 1) := by decide +kernel
theorem dX3_form_33 : decode cX3_form 33 = .ok (.invokevirtual 118, 3) := by decide +kernel
theorem dX3_form_36 : decode cX3_form 36 = .ok (.dreturn, 1) := by decide +kernel
theorem dX3_minutes_0 : decode cX3_minutes 0 = .ok (.dload_n 1, 1) := by decide +kernel
theorem dX3_minutes_1 : decode cX3_minutes 1 = .ok (.dconst 0, 1) := by decide +kernel
theorem dX3_minutes_2 : decode cX3_minutes 2 = .ok (.ldc2_w 37, 3) := by decide +kernel
theorem dX3_minutes_5 : decode cX3_minutes 5 = .ok (.invokestatic 39, 3) := by decide +kernel
theorem dX3_minutes_8 : decode cX3_minutes 8 = .ok (.ifCond .ne 13, 3) := by decide +kernel
theorem dX3_minutes_11 : decode cX3_minutes 11 = .ok (.new 49, 3) := by decide +kernel
theorem dX3_minutes_14 : decode cX3_minutes 14 = .ok (.dup, 1) := by decide +kernel
theorem dX3_minutes_15 : decode cX3_minutes 15 = .ok (.ldc 71, 2) := by decide +kernel
theorem dX3_minutes_17 : decode cX3_minutes 17 = .ok (.invokespecial 53, 3) := by decide +kernel
theorem dX3_minutes_20 : decode cX3_minutes 20 = .ok (.athrow, 1) := by decide +kernel
theorem dX3_minutes_21 : decode cX3_minutes 21 = .ok (.dload_n 1, 1) := by decide +kernel
theorem dX3_minutes_22 : decode cX3_minutes 22 = .ok (.ldc2_w 121, 3) := by decide +kernel
theorem dX3_minutes_25 : decode cX3_minutes 25 = .ok (.dmul, 1) := by decide +kernel
theorem dX3_minutes_26 : decode cX3_minutes 26 = .ok (.dstore_n 3, 1) := by decide +kernel
theorem dX3_minutes_27 : decode cX3_minutes 27 = .ok (.dload_n 1, 1) := by decide +kernel
theorem dX3_minutes_28 : decode cX3_minutes 28 = .ok (.ldc2_w 123, 3) := by decide +kernel
theorem dX3_minutes_31 : decode cX3_minutes 31 = .ok (.dcmp .l, 1) := by decide +kernel
theorem dX3_minutes_32 : decode cX3_minutes 32 = .ok (.ifCond .le 11, 3) := by decide +kernel
theorem dX3_minutes_35 : decode cX3_minutes 35 = .ok (.dload_n 3, 1) := by decide +kernel
theorem dX3_minutes_36 : decode cX3_minutes 36 = .ok (.ldc2_w 125, 3) := by decide +kernel
theorem dX3_minutes_39 : decode cX3_minutes 39 = .ok (.dadd, 1) := by decide +kernel
theorem dX3_minutes_40 : decode cX3_minutes 40 = .ok (.goto 4, 3) := by decide +kernel
theorem dX3_minutes_43 : decode cX3_minutes 43 = .ok (.dload_n 3, 1) := by decide +kernel
theorem dX3_minutes_44 : decode cX3_minutes 44 = .ok (.dreturn, 1) := by decide +kernel
theorem dX3_piece_0 : decode cX3_piece 0 = .ok (.dload_n 1, 1) := by decide +kernel
theorem dX3_piece_1 : decode cX3_piece 1 = .ok (.dconst 0, 1) := by decide +kernel
theorem dX3_piece_2 : decode cX3_piece 2 = .ok (.ldc2_w 43, 3) := by decide +kernel
theorem dX3_piece_5 : decode cX3_piece 5 = .ok (.invokestatic 39, 3) := by decide +kernel
theorem dX3_piece_8 : decode cX3_piece 8 = .ok (.ifCond .eq 20, 3) := by decide +kernel
theorem dX3_piece_11 : decode cX3_piece 11 = .ok (.dload_n 3, 1) := by decide +kernel
theorem dX3_piece_12 : decode cX3_piece 12 = .ok (.dconst 0, 1) := by decide +kernel
theorem dX3_piece_13 : decode cX3_piece 13 = .ok (.dcmp .l, 1) := by decide +kernel
theorem dX3_piece_14 : decode cX3_piece 14 = .ok (.ifCond .eq 24, 3) := by decide +kernel
theorem dX3_piece_17 : decode cX3_piece 17 = .ok (.dload_n 3, 1) := by decide +kernel
theorem dX3_piece_18 : decode cX3_piece 18 = .ok (.dconst 1, 1) := by decide +kernel
theorem dX3_piece_19 : decode cX3_piece 19 = .ok (.ldc2_w 43, 3) := by decide +kernel
theorem dX3_piece_22 : decode cX3_piece 22 = .ok (.invokestatic 39, 3) := by decide +kernel
theorem dX3_piece_25 : decode cX3_piece 25 = .ok (.ifCond .ne 13, 3) := by decide +kernel
theorem dX3_piece_28 : decode cX3_piece 28 = .ok (.new 49, 3) := by decide +kernel
theorem dX3_piece_31 : decode cX3_piece 31 = .ok (.dup, 1) := by decide +kernel
theorem dX3_piece_32 : decode cX3_piece 32 = .ok (.ldc 127, 2) := by decide +kernel
theorem dX3_piece_34 : decode cX3_piece 34 = .ok (.invokespecial 53, 3) := by decide +kernel
theorem dX3_piece_37 : decode cX3_piece 37 = .ok (.athrow, 1) := by decide +kernel
theorem dX3_piece_38 : decode cX3_piece 38 = .ok (.aload_n 0, 1) := by decide +kernel
theorem dX3_piece_39 : decode cX3_piece 39 = .ok (.getfield 18, 3) := by decide +kernel
theorem dX3_piece_42 : decode cX3_piece 42 = .ok (.getfield 129, 3) := by decide +kernel
theorem dX3_piece_45 : decode cX3_piece 45 = .ok (.dload_n 1, 1) := by decide +kernel
theorem dX3_piece_46 : decode cX3_piece 46 = .ok (.dload_n 3, 1) := by decide +kernel
theorem dX3_piece_47 : decode cX3_piece 47 = .ok (.invokevirtual 60, 3) := by decide +kernel
theorem dX3_piece_50 : decode cX3_piece 50 = .ok (.istore 5, 2) := by decide +kernel
theorem dX3_piece_52 : decode cX3_piece 52 = .ok (.iload 5, 2) := by decide +kernel
theorem dX3_piece_54 : decode cX3_piece 54 = .ok (.iconst (-1), 1) := by decide +kernel
theorem dX3_piece_55 : decode cX3_piece 55 = .ok (.if_icmp .ne 13, 3) := by decide +kernel
theorem dX3_piece_58 : decode cX3_piece 58 = .ok (.new 66, 3) := by decide +kernel
theorem dX3_piece_61 : decode cX3_piece 61 = .ok (.dup, 1) := by decide +kernel
theorem dX3_piece_62 : decode cX3_piece 62 = .ok (.ldc 132, 2) := by decide +kernel
theorem dX3_piece_64 : decode cX3_piece 64 = .ok (.invokespecial 70, 3) := by decide +kernel
theorem dX3_piece_67 : decode cX3_piece 67 = .ok (.athrow, 1) := by decide +kernel
theorem dX3_piece_68 : decode cX3_piece 68 = .ok (.iload 5, 2) := by decide +kernel
theorem dX3_piece_70 : decode cX3_piece 70 = .ok (.ireturn, 1) := by decide +kernel
theorem dX3_clear_0 : decode cX3_clear 0 = .ok (.aload_n 0, 1) := by decide +kernel
theorem dX3_clear_1 : decode cX3_clear 1 = .ok (.getfield 18, 3) := by decide +kernel
theorem dX3_clear_4 : decode cX3_clear 4 = .ok (.getfield 129, 3) := by decide +kernel
theorem dX3_clear_7 : decode cX3_clear 7 = .ok (.invokevirtual 134, 3) := by decide +kernel
theorem dX3_clear_10 : decode cX3_clear 10 = .ok (.return_, 1) := by decide +kernel
theorem dX3_length_0 : decode cX3_length 0 = .ok (.dload_n 2, 1) := by decide +kernel
theorem dX3_length_1 : decode cX3_length 1 = .ok (.dconst 0, 1) := by decide +kernel
theorem dX3_length_2 : decode cX3_length 2 = .ok (.ldc2_w 37, 3) := by decide +kernel
theorem dX3_length_5 : decode cX3_length 5 = .ok (.invokestatic 39, 3) := by decide +kernel
theorem dX3_length_8 : decode cX3_length 8 = .ok (.ifCond .eq 14, 3) := by decide +kernel
theorem dX3_length_11 : decode cX3_length 11 = .ok (.aload_n 0, 1) := by decide +kernel
theorem dX3_length_12 : decode cX3_length 12 = .ok (.getfield 18, 3) := by decide +kernel
theorem dX3_length_15 : decode cX3_length 15 = .ok (.dload_n 2, 1) := by decide +kernel
theorem dX3_length_16 : decode cX3_length 16 = .ok (.invokevirtual 137, 3) := by decide +kernel
theorem dX3_length_19 : decode cX3_length 19 = .ok (.ifCond .ne 13, 3) := by decide +kernel
theorem dX3_length_22 : decode cX3_length 22 = .ok (.new 49, 3) := by decide +kernel
theorem dX3_length_25 : decode cX3_length 25 = .ok (.dup, 1) := by decide +kernel
theorem dX3_length_26 : decode cX3_length 26 = .ok (.ldc 140, 2) := by decide +kernel
theorem dX3_length_28 : decode cX3_length 28 = .ok (.invokespecial 53, 3) := by decide +kernel
theorem dX3_length_31 : decode cX3_length 31 = .ok (.athrow, 1) := by decide +kernel
theorem dX3_length_32 : decode cX3_length 32 = .ok (.aload_n 0, 1) := by decide +kernel
theorem dX3_length_33 : decode cX3_length 33 = .ok (.getfield 18, 3) := by decide +kernel
theorem dX3_length_36 : decode cX3_length 36 = .ok (.iload_n 1, 1) := by decide +kernel
theorem dX3_length_37 : decode cX3_length 37 = .ok (.dload_n 2, 1) := by decide +kernel
theorem dX3_length_38 : decode cX3_length 38 = .ok (.invokevirtual 142, 3) := by decide +kernel
theorem dX3_length_41 : decode cX3_length 41 = .ok (.dreturn, 1) := by decide +kernel
theorem dX3_kerfs_0 : decode cX3_kerfs 0 = .ok (.dload_n 1, 1) := by decide +kernel
theorem dX3_kerfs_1 : decode cX3_kerfs 1 = .ok (.dconst 1, 1) := by decide +kernel
theorem dX3_kerfs_2 : decode cX3_kerfs 2 = .ok (.ldc2_w 146, 3) := by decide +kernel
theorem dX3_kerfs_5 : decode cX3_kerfs 5 = .ok (.invokestatic 39, 3) := by decide +kernel
theorem dX3_kerfs_8 : decode cX3_kerfs 8 = .ok (.ifCond .eq 47, 3) := by decide +kernel
theorem dX3_kerfs_11 : decode cX3_kerfs 11 = .ok (.dload_n 3, 1) := by decide +kernel
theorem dX3_kerfs_12 : decode cX3_kerfs 12 = .ok (.dconst 1, 1) := by decide +kernel
theorem dX3_kerfs_13 : decode cX3_kerfs 13 = .ok (.ldc2_w 37, 3) := by decide +kernel
theorem dX3_kerfs_16 : decode cX3_kerfs 16 = .ok (.invokestatic 39, 3) := by decide +kernel
theorem dX3_kerfs_19 : decode cX3_kerfs 19 = .ok (.ifCond .eq 36, 3) := by decide +kernel
theorem dX3_kerfs_22 : decode cX3_kerfs 22 = .ok (.dload 5, 2) := by decide +kernel
theorem dX3_kerfs_24 : decode cX3_kerfs 24 = .ok (.ldc2_w 35, 3) := by decide +kernel
theorem dX3_kerfs_27 : decode cX3_kerfs 27 = .ok (.dload_n 3, 1) := by decide +kernel
theorem dX3_kerfs_28 : decode cX3_kerfs 28 = .ok (.invokestatic 39, 3) := by decide +kernel
theorem dX3_kerfs_31 : decode cX3_kerfs 31 = .ok (.ifCond .eq 24, 3) := by decide +kernel
theorem dX3_kerfs_34 : decode cX3_kerfs 34 = .ok (.dload 5, 2) := by decide +kernel
theorem dX3_kerfs_36 : decode cX3_kerfs 36 = .ok (.dload_n 3, 1) := by decide +kernel
theorem dX3_kerfs_37 : decode cX3_kerfs 37 = .ok (.dcmp .l, 1) := by decide +kernel
theorem dX3_kerfs_38 : decode cX3_kerfs 38 = .ok (.ifCond .eq 17, 3) := by decide +kernel
theorem dX3_kerfs_41 : decode cX3_kerfs 41 = .ok (.dload 7, 2) := by decide +kernel
theorem dX3_kerfs_43 : decode cX3_kerfs 43 = .ok (.ldc2_w 35, 3) := by decide +kernel
theorem dX3_kerfs_46 : decode cX3_kerfs 46 = .ok (.ldc2_w 148, 3) := by decide +kernel
theorem dX3_kerfs_49 : decode cX3_kerfs 49 = .ok (.invokestatic 39, 3) := by decide +kernel
theorem dX3_kerfs_52 : decode cX3_kerfs 52 = .ok (.ifCond .ne 13, 3) := by decide +kernel
theorem dX3_kerfs_55 : decode cX3_kerfs 55 = .ok (.new 49, 3) := by decide +kernel
theorem dX3_kerfs_58 : decode cX3_kerfs 58 = .ok (.dup, 1) := by decide +kernel
theorem dX3_kerfs_59 : decode cX3_kerfs 59 = .ok (.ldc 150, 2) := by decide +kernel
theorem dX3_kerfs_61 : decode cX3_kerfs 61 = .ok (.invokespecial 53, 3) := by decide +kernel
theorem dX3_kerfs_64 : decode cX3_kerfs 64 = .ok (.athrow, 1) := by decide +kernel
theorem dX3_kerfs_65 : decode cX3_kerfs 65 = .ok (.dload 7, 2) := by decide +kernel
theorem dX3_kerfs_67 : decode cX3_kerfs 67 = .ok (.dload_n 3, 1) := by decide +kernel
theorem dX3_kerfs_68 : decode cX3_kerfs 68 = .ok (.dload 5, 2) := by decide +kernel
theorem dX3_kerfs_70 : decode cX3_kerfs 70 = .ok (.dsub, 1) := by decide +kernel
theorem dX3_kerfs_71 : decode cX3_kerfs 71 = .ok (.ddiv, 1) := by decide +kernel
theorem dX3_kerfs_72 : decode cX3_kerfs 72 = .ok (.ldc2_w 152, 3) := by decide +kernel
theorem dX3_kerfs_75 : decode cX3_kerfs 75 = .ok (.dmul, 1) := by decide +kernel
theorem dX3_kerfs_76 : decode cX3_kerfs 76 = .ok (.dstore 9, 2) := by decide +kernel
theorem dX3_kerfs_78 : decode cX3_kerfs 78 = .ok (.aload_n 0, 1) := by decide +kernel
theorem dX3_kerfs_79 : decode cX3_kerfs 79 = .ok (.dload_n 1, 1) := by decide +kernel
theorem dX3_kerfs_80 : decode cX3_kerfs 80 = .ok (.dload 9, 2) := by decide +kernel
theorem dX3_kerfs_82 : decode cX3_kerfs 82 = .ok (.invokestatic 154, 3) := by decide +kernel
theorem dX3_kerfs_85 : decode cX3_kerfs 85 = .ok (.putfield 22, 3) := by decide +kernel
theorem dX3_kerfs_88 : decode cX3_kerfs 88 = .ok (.aload_n 0, 1) := by decide +kernel
theorem dX3_kerfs_89 : decode cX3_kerfs 89 = .ok (.aload_n 0, 1) := by decide +kernel
theorem dX3_kerfs_90 : decode cX3_kerfs 90 = .ok (.getfield 22, 3) := by decide +kernel
theorem dX3_kerfs_93 : decode cX3_kerfs 93 = .ok (.i2d, 1) := by decide +kernel
theorem dX3_kerfs_94 : decode cX3_kerfs 94 = .ok (.dload 9, 2) := by decide +kernel
theorem dX3_kerfs_96 : decode cX3_kerfs 96 = .ok (.dmul, 1) := by decide +kernel
theorem dX3_kerfs_97 : decode cX3_kerfs 97 = .ok (.dload_n 1, 1) := by decide +kernel
theorem dX3_kerfs_98 : decode cX3_kerfs 98 = .ok (.dsub, 1) := by decide +kernel
theorem dX3_kerfs_99 : decode cX3_kerfs 99 = .ok (.putfield 26, 3) := by decide +kernel
theorem dX3_kerfs_102 : decode cX3_kerfs 102 = .ok (.aload_n 0, 1) := by decide +kernel
theorem dX3_kerfs_103 : decode cX3_kerfs 103 = .ok (.getfield 22, 3) := by decide +kernel
theorem dX3_kerfs_106 : decode cX3_kerfs 106 = .ok (.ireturn, 1) := by decide +kernel
theorem dX3_kerfAt_0 : decode cX3_kerfAt 0 = .ok (.aload_n 0, 1) := by decide +kernel
theorem dX3_kerfAt_1 : decode cX3_kerfAt 1 = .ok (.getfield 22, 3) := by decide +kernel
theorem dX3_kerfAt_4 : decode cX3_kerfAt 4 = .ok (.ifCond .gt 13, 3) := by decide +kernel
theorem dX3_kerfAt_7 : decode cX3_kerfAt 7 = .ok (.new 66, 3) := by decide +kernel
theorem dX3_kerfAt_10 : decode cX3_kerfAt 10 = .ok (.dup, 1) := by decide +kernel
theorem dX3_kerfAt_11 : decode cX3_kerfAt 11 = .ok (.ldc 157, 2) := by decide +kernel
theorem dX3_kerfAt_13 : decode cX3_kerfAt 13 = .ok (.invokespecial 70, 3) := by decide +kernel
theorem dX3_kerfAt_16 : decode cX3_kerfAt 16 = .ok (.athrow, 1) := by decide +kernel
theorem dX3_kerfAt_17 : decode cX3_kerfAt 17 = .ok (.iload_n 1, 1) := by decide +kernel
theorem dX3_kerfAt_18 : decode cX3_kerfAt 18 = .ok (.ifCond .lt 11, 3) := by decide +kernel
theorem dX3_kerfAt_21 : decode cX3_kerfAt 21 = .ok (.iload_n 1, 1) := by decide +kernel
theorem dX3_kerfAt_22 : decode cX3_kerfAt 22 = .ok (.aload_n 0, 1) := by decide +kernel
theorem dX3_kerfAt_23 : decode cX3_kerfAt 23 = .ok (.getfield 22, 3) := by decide +kernel
theorem dX3_kerfAt_26 : decode cX3_kerfAt 26 = .ok (.if_icmp .lt 13, 3) := by decide +kernel
theorem dX3_kerfAt_29 : decode cX3_kerfAt 29 = .ok (.new 111, 3) := by decide +kernel
theorem dX3_kerfAt_32 : decode cX3_kerfAt 32 = .ok (.dup, 1) := by decide +kernel
theorem dX3_kerfAt_33 : decode cX3_kerfAt 33 = .ok (.ldc 159, 2) := by decide +kernel
theorem dX3_kerfAt_35 : decode cX3_kerfAt 35 = .ok (.invokespecial 115, 3) := by decide +kernel
theorem dX3_kerfAt_38 : decode cX3_kerfAt 38 = .ok (.athrow, 1) := by decide +kernel
theorem dX3_kerfAt_39 : decode cX3_kerfAt 39 = .ok (.dload_n 2, 1) := by decide +kernel
theorem dX3_kerfAt_40 : decode cX3_kerfAt 40 = .ok (.dconst 0, 1) := by decide +kernel
theorem dX3_kerfAt_41 : decode cX3_kerfAt 41 = .ok (.ldc2_w 43, 3) := by decide +kernel
theorem dX3_kerfAt_44 : decode cX3_kerfAt 44 = .ok (.invokestatic 39, 3) := by decide +kernel
theorem dX3_kerfAt_47 : decode cX3_kerfAt 47 = .ok (.ifCond .ne 13, 3) := by decide +kernel
theorem dX3_kerfAt_50 : decode cX3_kerfAt 50 = .ok (.new 49, 3) := by decide +kernel
theorem dX3_kerfAt_53 : decode cX3_kerfAt 53 = .ok (.dup, 1) := by decide +kernel
theorem dX3_kerfAt_54 : decode cX3_kerfAt 54 = .ok (.ldc 161, 2) := by decide +kernel
theorem dX3_kerfAt_56 : decode cX3_kerfAt 56 = .ok (.invokespecial 53, 3) := by decide +kernel
theorem dX3_kerfAt_59 : decode cX3_kerfAt 59 = .ok (.athrow, 1) := by decide +kernel
theorem dX3_kerfAt_60 : decode cX3_kerfAt 60 = .ok (.dload_n 2, 1) := by decide +kernel
theorem dX3_kerfAt_61 : decode cX3_kerfAt 61 = .ok (.iconst 2, 1) := by decide +kernel
theorem dX3_kerfAt_62 : decode cX3_kerfAt 62 = .ok (.iload_n 1, 1) := by decide +kernel
theorem dX3_kerfAt_63 : decode cX3_kerfAt 63 = .ok (.imul, 1) := by decide +kernel
theorem dX3_kerfAt_64 : decode cX3_kerfAt 64 = .ok (.iconst 1, 1) := by decide +kernel
theorem dX3_kerfAt_65 : decode cX3_kerfAt 65 = .ok (.iadd, 1) := by decide +kernel
theorem dX3_kerfAt_66 : decode cX3_kerfAt 66 = .ok (.i2d, 1) := by decide +kernel
theorem dX3_kerfAt_67 : decode cX3_kerfAt 67 = .ok (.dmul, 1) := by decide +kernel
theorem dX3_kerfAt_68 : decode cX3_kerfAt 68 = .ok (.iconst 2, 1) := by decide +kernel
theorem dX3_kerfAt_69 : decode cX3_kerfAt 69 = .ok (.aload_n 0, 1) := by decide +kernel
theorem dX3_kerfAt_70 : decode cX3_kerfAt 70 = .ok (.getfield 22, 3) := by decide +kernel
theorem dX3_kerfAt_73 : decode cX3_kerfAt 73 = .ok (.imul, 1) := by decide +kernel
theorem dX3_kerfAt_74 : decode cX3_kerfAt 74 = .ok (.i2d, 1) := by decide +kernel
theorem dX3_kerfAt_75 : decode cX3_kerfAt 75 = .ok (.ddiv, 1) := by decide +kernel
theorem dX3_kerfAt_76 : decode cX3_kerfAt 76 = .ok (.dreturn, 1) := by decide +kernel
theorem dX3_rest_0 : decode cX3_rest 0 = .ok (.aload_n 0, 1) := by decide +kernel
theorem dX3_rest_1 : decode cX3_rest 1 = .ok (.getfield 22, 3) := by decide +kernel
theorem dX3_rest_4 : decode cX3_rest 4 = .ok (.ifCond .gt 13, 3) := by decide +kernel
theorem dX3_rest_7 : decode cX3_rest 7 = .ok (.new 66, 3) := by decide +kernel
theorem dX3_rest_10 : decode cX3_rest 10 = .ok (.dup, 1) := by decide +kernel
theorem dX3_rest_11 : decode cX3_rest 11 = .ok (.ldc 157, 2) := by decide +kernel
theorem dX3_rest_13 : decode cX3_rest 13 = .ok (.invokespecial 70, 3) := by decide +kernel
theorem dX3_rest_16 : decode cX3_rest 16 = .ok (.athrow, 1) := by decide +kernel
theorem dX3_rest_17 : decode cX3_rest 17 = .ok (.aload_n 0, 1) := by decide +kernel
theorem dX3_rest_18 : decode cX3_rest 18 = .ok (.getfield 26, 3) := by decide +kernel
theorem dX3_rest_21 : decode cX3_rest 21 = .ok (.dreturn, 1) := by decide +kernel
theorem dX3_broken_0 : decode cX3_broken 0 = .ok (.iload_n 3, 1) := by decide +kernel
theorem dX3_broken_1 : decode cX3_broken 1 = .ok (.ifCond .lt 8, 3) := by decide +kernel
theorem dX3_broken_4 : decode cX3_broken 4 = .ok (.iload_n 3, 1) := by decide +kernel
theorem dX3_broken_5 : decode cX3_broken 5 = .ok (.iconst 3, 1) := by decide +kernel
theorem dX3_broken_6 : decode cX3_broken 6 = .ok (.if_icmp .le 13, 3) := by decide +kernel
theorem dX3_broken_9 : decode cX3_broken 9 = .ok (.new 111, 3) := by decide +kernel
theorem dX3_broken_12 : decode cX3_broken 12 = .ok (.dup, 1) := by decide +kernel
theorem dX3_broken_13 : decode cX3_broken 13 = .ok (.ldc 163, 2) := by decide +kernel
theorem dX3_broken_15 : decode cX3_broken 15 = .ok (.invokespecial 115, 3) := by decide +kernel
theorem dX3_broken_18 : decode cX3_broken 18 = .ok (.athrow, 1) := by decide +kernel
theorem dX3_broken_19 : decode cX3_broken 19 = .ok (.iload_n 1, 1) := by decide +kernel
theorem dX3_broken_20 : decode cX3_broken 20 = .ok (.iconst 1, 1) := by decide +kernel
theorem dX3_broken_21 : decode cX3_broken 21 = .ok (.if_icmp .lt 18, 3) := by decide +kernel
theorem dX3_broken_24 : decode cX3_broken 24 = .ok (.iload_n 1, 1) := by decide +kernel
theorem dX3_broken_25 : decode cX3_broken 25 = .ok (.ldc 165, 2) := by decide +kernel
theorem dX3_broken_27 : decode cX3_broken 27 = .ok (.if_icmp .gt 12, 3) := by decide +kernel
theorem dX3_broken_30 : decode cX3_broken 30 = .ok (.iload_n 2, 1) := by decide +kernel
theorem dX3_broken_31 : decode cX3_broken 31 = .ok (.ifCond .lt 8, 3) := by decide +kernel
theorem dX3_broken_34 : decode cX3_broken 34 = .ok (.iload_n 2, 1) := by decide +kernel
theorem dX3_broken_35 : decode cX3_broken 35 = .ok (.iload_n 1, 1) := by decide +kernel
theorem dX3_broken_36 : decode cX3_broken 36 = .ok (.if_icmp .le 13, 3) := by decide +kernel
theorem dX3_broken_39 : decode cX3_broken 39 = .ok (.new 49, 3) := by decide +kernel
theorem dX3_broken_42 : decode cX3_broken 42 = .ok (.dup, 1) := by decide +kernel
theorem dX3_broken_43 : decode cX3_broken 43 = .ok (.ldc 166, 2) := by decide +kernel
theorem dX3_broken_45 : decode cX3_broken 45 = .ok (.invokespecial 53, 3) := by decide +kernel
theorem dX3_broken_48 : decode cX3_broken 48 = .ok (.athrow, 1) := by decide +kernel
theorem dX3_broken_49 : decode cX3_broken 49 = .ok (.iload_n 3, 1) := by decide +kernel
theorem dX3_broken_50 : decode cX3_broken 50 = .ok (.iconst 2, 1) := by decide +kernel
theorem dX3_broken_51 : decode cX3_broken 51 = .ok (.if_icmp .ge 7, 3) := by decide +kernel
theorem dX3_broken_54 : decode cX3_broken 54 = .ok (.iload_n 2, 1) := by decide +kernel
theorem dX3_broken_55 : decode cX3_broken 55 = .ok (.goto 6, 3) := by decide +kernel
theorem dX3_broken_58 : decode cX3_broken 58 = .ok (.iload_n 2, 1) := by decide +kernel
theorem dX3_broken_59 : decode cX3_broken 59 = .ok (.iconst 1, 1) := by decide +kernel
theorem dX3_broken_60 : decode cX3_broken 60 = .ok (.iadd, 1) := by decide +kernel
theorem dX3_broken_61 : decode cX3_broken 61 = .ok (.istore 4, 2) := by decide +kernel
theorem dX3_broken_63 : decode cX3_broken 63 = .ok (.iload_n 1, 1) := by decide +kernel
theorem dX3_broken_64 : decode cX3_broken 64 = .ok (.iconst 1, 1) := by decide +kernel
theorem dX3_broken_65 : decode cX3_broken 65 = .ok (.iadd, 1) := by decide +kernel
theorem dX3_broken_66 : decode cX3_broken 66 = .ok (.istore 5, 2) := by decide +kernel
theorem dX3_broken_68 : decode cX3_broken 68 = .ok (.iload_n 3, 1) := by decide +kernel
theorem dX3_broken_69 : decode cX3_broken 69 = .ok (.ifCond .eq 8, 3) := by decide +kernel
theorem dX3_broken_72 : decode cX3_broken 72 = .ok (.iload_n 3, 1) := by decide +kernel
theorem dX3_broken_73 : decode cX3_broken 73 = .ok (.iconst 2, 1) := by decide +kernel
theorem dX3_broken_74 : decode cX3_broken 74 = .ok (.if_icmp .ne 8, 3) := by decide +kernel
theorem dX3_broken_77 : decode cX3_broken 77 = .ok (.iload 4, 2) := by decide +kernel
theorem dX3_broken_79 : decode cX3_broken 79 = .ok (.goto 5, 3) := by decide +kernel
theorem dX3_broken_82 : decode cX3_broken 82 = .ok (.iload 5, 2) := by decide +kernel
theorem dX3_broken_84 : decode cX3_broken 84 = .ok (.istore 6, 2) := by decide +kernel
theorem dX3_broken_86 : decode cX3_broken 86 = .ok (.iload 5, 2) := by decide +kernel
theorem dX3_broken_88 : decode cX3_broken 88 = .ok (.iload 4, 2) := by decide +kernel
theorem dX3_broken_90 : decode cX3_broken 90 = .ok (.invokestatic 168, 3) := by decide +kernel
theorem dX3_broken_93 : decode cX3_broken 93 = .ok (.istore 7, 2) := by decide +kernel
theorem dX3_broken_95 : decode cX3_broken 95 = .ok (.iload 7, 2) := by decide +kernel
theorem dX3_broken_97 : decode cX3_broken 97 = .ok (.ifCond .le 12, 3) := by decide +kernel
theorem dX3_broken_100 : decode cX3_broken 100 = .ok (.iload 6, 2) := by decide +kernel
theorem dX3_broken_102 : decode cX3_broken 102 = .ok (.iload 7, 2) := by decide +kernel
theorem dX3_broken_104 : decode cX3_broken 104 = .ok (.idiv, 1) := by decide +kernel
theorem dX3_broken_105 : decode cX3_broken 105 = .ok (.i2l, 1) := by decide +kernel
theorem dX3_broken_106 : decode cX3_broken 106 = .ok (.goto 6, 3) := by decide +kernel
theorem dX3_broken_109 : decode cX3_broken 109 = .ok (.iload 6, 2) := by decide +kernel
theorem dX3_broken_111 : decode cX3_broken 111 = .ok (.i2l, 1) := by decide +kernel
theorem dX3_broken_112 : decode cX3_broken 112 = .ok (.lreturn, 1) := by decide +kernel
theorem dX3_relaxed_0 : decode cX3_relaxed 0 = .ok (.aload_n 0, 1) := by decide +kernel
theorem dX3_relaxed_1 : decode cX3_relaxed 1 = .ok (.iload_n 1, 1) := by decide +kernel
theorem dX3_relaxed_2 : decode cX3_relaxed 2 = .ok (.invokevirtual 31, 3) := by decide +kernel
theorem dX3_relaxed_5 : decode cX3_relaxed 5 = .ok (.astore_n 3, 1) := by decide +kernel
theorem dX3_relaxed_6 : decode cX3_relaxed 6 = .ok (.iload_n 2, 1) := by decide +kernel
theorem dX3_relaxed_7 : decode cX3_relaxed 7 = .ok (.ifCond .lt 10, 3) := by decide +kernel
theorem dX3_relaxed_10 : decode cX3_relaxed 10 = .ok (.iload_n 2, 1) := by decide +kernel
theorem dX3_relaxed_11 : decode cX3_relaxed 11 = .ok (.sipush 10000, 3) := by decide +kernel
theorem dX3_relaxed_14 : decode cX3_relaxed 14 = .ok (.if_icmp .le 13, 3) := by decide +kernel
theorem dX3_relaxed_17 : decode cX3_relaxed 17 = .ok (.new 49, 3) := by decide +kernel
theorem dX3_relaxed_20 : decode cX3_relaxed 20 = .ok (.dup, 1) := by decide +kernel
theorem dX3_relaxed_21 : decode cX3_relaxed 21 = .ok (.ldc 172, 2) := by decide +kernel
theorem dX3_relaxed_23 : decode cX3_relaxed 23 = .ok (.invokespecial 53, 3) := by decide +kernel
theorem dX3_relaxed_26 : decode cX3_relaxed 26 = .ok (.athrow, 1) := by decide +kernel
theorem dX3_relaxed_27 : decode cX3_relaxed 27 = .ok (.dconst 1, 1) := by decide +kernel
theorem dX3_relaxed_28 : decode cX3_relaxed 28 = .ok (.aload_n 3, 1) := by decide +kernel
theorem dX3_relaxed_29 : decode cX3_relaxed 29 = .ok (.getfield 102, 3) := by decide +kernel
theorem dX3_relaxed_32 : decode cX3_relaxed 32 = .ok (.dconst 1, 1) := by decide +kernel
theorem dX3_relaxed_33 : decode cX3_relaxed 33 = .ok (.dconst 1, 1) := by decide +kernel
theorem dX3_relaxed_34 : decode cX3_relaxed 34 = .ok (.dconst 1, 1) := by decide +kernel
theorem dX3_relaxed_35 : decode cX3_relaxed 35 = .ok (.iload_n 2, 1) := by decide +kernel
theorem dX3_relaxed_36 : decode cX3_relaxed 36 = .ok (.i2d, 1) := by decide +kernel
theorem dX3_relaxed_37 : decode cX3_relaxed 37 = .ok (.ldc2_w 174, 3) := by decide +kernel
theorem dX3_relaxed_40 : decode cX3_relaxed 40 = .ok (.ddiv, 1) := by decide +kernel
theorem dX3_relaxed_41 : decode cX3_relaxed 41 = .ok (.dadd, 1) := by decide +kernel
theorem dX3_relaxed_42 : decode cX3_relaxed 42 = .ok (.ddiv, 1) := by decide +kernel
theorem dX3_relaxed_43 : decode cX3_relaxed 43 = .ok (.dsub, 1) := by decide +kernel
theorem dX3_relaxed_44 : decode cX3_relaxed 44 = .ok (.dmul, 1) := by decide +kernel
theorem dX3_relaxed_45 : decode cX3_relaxed 45 = .ok (.dadd, 1) := by decide +kernel
theorem dX3_relaxed_46 : decode cX3_relaxed 46 = .ok (.dreturn, 1) := by decide +kernel
theorem dX3_kindOf_0 : decode cX3_kindOf 0 = .ok (.iload_n 1, 1) := by decide +kernel
theorem dX3_kindOf_1 : decode cX3_kindOf 1 = .ok (.ifCond .lt 21, 3) := by decide +kernel
theorem dX3_kindOf_4 : decode cX3_kindOf 4 = .ok (.iload_n 1, 1) := by decide +kernel
theorem dX3_kindOf_5 : decode cX3_kindOf 5 = .ok (.aload_n 0, 1) := by decide +kernel
theorem dX3_kindOf_6 : decode cX3_kindOf 6 = .ok (.getfield 11, 3) := by decide +kernel
theorem dX3_kindOf_9 : decode cX3_kindOf 9 = .ok (.arraylength, 1) := by decide +kernel
theorem dX3_kindOf_10 : decode cX3_kindOf 10 = .ok (.if_icmp .ge 12, 3) := by decide +kernel
theorem dX3_kindOf_13 : decode cX3_kindOf 13 = .ok (.aload_n 0, 1) := by decide +kernel
theorem dX3_kindOf_14 : decode cX3_kindOf 14 = .ok (.getfield 11, 3) := by decide +kernel
theorem dX3_kindOf_17 : decode cX3_kindOf 17 = .ok (.iload_n 1, 1) := by decide +kernel
theorem dX3_kindOf_18 : decode cX3_kindOf 18 = .ok (.aaload, 1) := by decide +kernel
theorem dX3_kindOf_19 : decode cX3_kindOf 19 = .ok (.goto 4, 3) := by decide +kernel
theorem dX3_kindOf_22 : decode cX3_kindOf 22 = .ok (.aconst_null, 1) := by decide +kernel
theorem dX3_kindOf_23 : decode cX3_kindOf 23 = .ok (.astore_n 2, 1) := by decide +kernel
theorem dX3_kindOf_24 : decode cX3_kindOf 24 = .ok (.aload_n 2, 1) := by decide +kernel
theorem dX3_kindOf_25 : decode cX3_kindOf 25 = .ok (.ifnonnull 13, 3) := by decide +kernel
theorem dX3_kindOf_28 : decode cX3_kindOf 28 = .ok (.new 111, 3) := by decide +kernel
theorem dX3_kindOf_31 : decode cX3_kindOf 31 = .ok (.dup, 1) := by decide +kernel
theorem dX3_kindOf_32 : decode cX3_kindOf 32 = .ok (.ldc 176, 2) := by decide +kernel
theorem dX3_kindOf_34 : decode cX3_kindOf 34 = .ok (.invokespecial 115, 3) := by decide +kernel
theorem dX3_kindOf_37 : decode cX3_kindOf 37 = .ok (.athrow, 1) := by decide +kernel
theorem dX3_kindOf_38 : decode cX3_kindOf 38 = .ok (.aload_n 2, 1) := by decide +kernel
theorem dX3_kindOf_39 : decode cX3_kindOf 39 = .ok (.areturn, 1) := by decide +kernel
theorem dX3_isWithin_0 : decode cX3_isWithin 0 = .ok (.dload_n 0, 1) := by decide +kernel
theorem dX3_isWithin_1 : decode cX3_isWithin 1 = .ok (.dload_n 2, 1) := by decide +kernel
theorem dX3_isWithin_2 : decode cX3_isWithin 2 = .ok (.dcmp .l, 1) := by decide +kernel
theorem dX3_isWithin_3 : decode cX3_isWithin 3 = .ok (.ifCond .lt 14, 3) := by decide +kernel
theorem dX3_isWithin_6 : decode cX3_isWithin 6 = .ok (.dload_n 0, 1) := by decide +kernel
theorem dX3_isWithin_7 : decode cX3_isWithin 7 = .ok (.dload 4, 2) := by decide +kernel
theorem dX3_isWithin_9 : decode cX3_isWithin 9 = .ok (.dcmp .g, 1) := by decide +kernel
theorem dX3_isWithin_10 : decode cX3_isWithin 10 = .ok (.ifCond .gt 7, 3) := by decide +kernel
theorem dX3_isWithin_13 : decode cX3_isWithin 13 = .ok (.iconst 1, 1) := by decide +kernel
theorem dX3_isWithin_14 : decode cX3_isWithin 14 = .ok (.goto 4, 3) := by decide +kernel
theorem dX3_isWithin_17 : decode cX3_isWithin 17 = .ok (.iconst 0, 1) := by decide +kernel
theorem dX3_isWithin_18 : decode cX3_isWithin 18 = .ok (.ireturn, 1) := by decide +kernel
theorem dX3_isNone_0 : decode cX3_isNone 0 = .ok (.dload_n 0, 1) := by decide +kernel
theorem dX3_isNone_1 : decode cX3_isNone 1 = .ok (.dconst 0, 1) := by decide +kernel
theorem dX3_isNone_2 : decode cX3_isNone 2 = .ok (.dcmp .g, 1) := by decide +kernel
theorem dX3_isNone_3 : decode cX3_isNone 3 = .ok (.ifCond .ge 7, 3) := by decide +kernel
theorem dX3_isNone_6 : decode cX3_isNone 6 = .ok (.iconst 1, 1) := by decide +kernel
theorem dX3_isNone_7 : decode cX3_isNone 7 = .ok (.goto 4, 3) := by decide +kernel
theorem dX3_isNone_10 : decode cX3_isNone 10 = .ok (.iconst 0, 1) := by decide +kernel
theorem dX3_isNone_11 : decode cX3_isNone 11 = .ok (.ireturn, 1) := by decide +kernel
theorem dX3_leastKerfs_0 : decode cX3_leastKerfs 0 = .ok (.iconst 0, 1) := by decide +kernel
theorem dX3_leastKerfs_1 : decode cX3_leastKerfs 1 = .ok (.istore 4, 2) := by decide +kernel
theorem dX3_leastKerfs_3 : decode cX3_leastKerfs 3 = .ok (.ldc 178, 2) := by decide +kernel
theorem dX3_leastKerfs_5 : decode cX3_leastKerfs 5 = .ok (.istore 5, 2) := by decide +kernel
theorem dX3_leastKerfs_7 : decode cX3_leastKerfs 7 = .ok (.iload 5, 2) := by decide +kernel
theorem dX3_leastKerfs_9 : decode cX3_leastKerfs 9 = .ok (.ifCond .le 32, 3) := by decide +kernel
theorem dX3_leastKerfs_12 : decode cX3_leastKerfs 12 = .ok (.iload 4, 2) := by decide +kernel
theorem dX3_leastKerfs_14 : decode cX3_leastKerfs 14 = .ok (.iload 5, 2) := by decide +kernel
theorem dX3_leastKerfs_16 : decode cX3_leastKerfs 16 = .ok (.iadd, 1) := by decide +kernel
theorem dX3_leastKerfs_17 : decode cX3_leastKerfs 17 = .ok (.i2d, 1) := by decide +kernel
theorem dX3_leastKerfs_18 : decode cX3_leastKerfs 18 = .ok (.dload_n 2, 1) := by decide +kernel
theorem dX3_leastKerfs_19 : decode cX3_leastKerfs 19 = .ok (.dmul, 1) := by decide +kernel
theorem dX3_leastKerfs_20 : decode cX3_leastKerfs 20 = .ok (.dload_n 0, 1) := by decide +kernel
theorem dX3_leastKerfs_21 : decode cX3_leastKerfs 21 = .ok (.dcmp .g, 1) := by decide +kernel
theorem dX3_leastKerfs_22 : decode cX3_leastKerfs 22 = .ok (.ifCond .ge 10, 3) := by decide +kernel
theorem dX3_leastKerfs_25 : decode cX3_leastKerfs 25 = .ok (.iload 4, 2) := by decide +kernel
theorem dX3_leastKerfs_27 : decode cX3_leastKerfs 27 = .ok (.iload 5, 2) := by decide +kernel
theorem dX3_leastKerfs_29 : decode cX3_leastKerfs 29 = .ok (.iadd, 1) := by decide +kernel
theorem dX3_leastKerfs_30 : decode cX3_leastKerfs 30 = .ok (.istore 4, 2) := by decide +kernel
theorem dX3_leastKerfs_32 : decode cX3_leastKerfs 32 = .ok (.iload 5, 2) := by decide +kernel
theorem dX3_leastKerfs_34 : decode cX3_leastKerfs 34 = .ok (.iconst 2, 1) := by decide +kernel
theorem dX3_leastKerfs_35 : decode cX3_leastKerfs 35 = .ok (.idiv, 1) := by decide +kernel
theorem dX3_leastKerfs_36 : decode cX3_leastKerfs 36 = .ok (.istore 5, 2) := by decide +kernel
theorem dX3_leastKerfs_38 : decode cX3_leastKerfs 38 = .ok (.goto (-31), 3) := by decide +kernel
theorem dX3_leastKerfs_41 : decode cX3_leastKerfs 41 = .ok (.iload 4, 2) := by decide +kernel
theorem dX3_leastKerfs_43 : decode cX3_leastKerfs 43 = .ok (.iconst 1, 1) := by decide +kernel
theorem dX3_leastKerfs_44 : decode cX3_leastKerfs 44 = .ok (.iadd, 1) := by decide +kernel
theorem dX3_leastKerfs_45 : decode cX3_leastKerfs 45 = .ok (.ireturn, 1) := by decide +kernel
theorem dX3_commonDivisor_0 : decode cX3_commonDivisor 0 = .ok (.iload_n 0, 1) := by decide +kernel
theorem dX3_commonDivisor_1 : decode cX3_commonDivisor 1 = .ok (.istore_n 2, 1) := by decide +kernel
theorem dX3_commonDivisor_2 : decode cX3_commonDivisor 2 = .ok (.iload_n 1, 1) := by decide +kernel
theorem dX3_commonDivisor_3 : decode cX3_commonDivisor 3 = .ok (.istore_n 3, 1) := by decide +kernel
theorem dX3_commonDivisor_4 : decode cX3_commonDivisor 4 = .ok (.iconst 0, 1) := by decide +kernel
theorem dX3_commonDivisor_5 : decode cX3_commonDivisor 5 = .ok (.istore 4, 2) := by decide +kernel
theorem dX3_commonDivisor_7 : decode cX3_commonDivisor 7 = .ok (.iload 4, 2) := by decide +kernel
theorem dX3_commonDivisor_9 : decode cX3_commonDivisor 9 = .ok (.bipush 64, 2) := by decide +kernel
theorem dX3_commonDivisor_11 : decode cX3_commonDivisor 11 = .ok (.if_icmp .ge 23, 3) := by decide +kernel
theorem dX3_commonDivisor_14 : decode cX3_commonDivisor 14 = .ok (.iload_n 3, 1) := by decide +kernel
theorem dX3_commonDivisor_15 : decode cX3_commonDivisor 15 = .ok (.ifCond .le 19, 3) := by decide +kernel
theorem dX3_commonDivisor_18 : decode cX3_commonDivisor 18 = .ok (.iload_n 2, 1) := by decide +kernel
theorem dX3_commonDivisor_19 : decode cX3_commonDivisor 19 = .ok (.iload_n 3, 1) := by decide +kernel
theorem dX3_commonDivisor_20 : decode cX3_commonDivisor 20 = .ok (.irem, 1) := by decide +kernel
theorem dX3_commonDivisor_21 : decode cX3_commonDivisor 21 = .ok (.istore 5, 2) := by decide +kernel
theorem dX3_commonDivisor_23 : decode cX3_commonDivisor 23 = .ok (.iload_n 3, 1) := by decide +kernel
theorem dX3_commonDivisor_24 : decode cX3_commonDivisor 24 = .ok (.istore_n 2, 1) := by decide +kernel
theorem dX3_commonDivisor_25 : decode cX3_commonDivisor 25 = .ok (.iload 5, 2) := by decide +kernel
theorem dX3_commonDivisor_27 : decode cX3_commonDivisor 27 = .ok (.istore_n 3, 1) := by decide +kernel
theorem dX3_commonDivisor_28 : decode cX3_commonDivisor 28 = .ok (.iinc 4 1, 3) := by decide +kernel
theorem dX3_commonDivisor_31 : decode cX3_commonDivisor 31 = .ok (.goto (-24), 3) := by decide +kernel
theorem dX3_commonDivisor_34 : decode cX3_commonDivisor 34 = .ok (.iload_n 2, 1) := by decide +kernel
theorem dX3_commonDivisor_35 : decode cX3_commonDivisor 35 = .ok (.ireturn, 1) := by decide +kernel
theorem dX4_init_0 : decode cX4_init 0 = .ok (.aload_n 0, 1) := by decide +kernel
theorem dX4_init_1 : decode cX4_init 1 = .ok (.invokespecial 1, 3) := by decide +kernel
theorem dX4_init_4 : decode cX4_init 4 = .ok (.aload_n 0, 1) := by decide +kernel
theorem dX4_init_5 : decode cX4_init 5 = .ok (.iconst 4, 1) := by decide +kernel
theorem dX4_init_6 : decode cX4_init 6 = .ok (.newarray .int, 2) := by decide +kernel
theorem dX4_init_8 : decode cX4_init 8 = .ok (.putfield 7, 3) := by decide +kernel
theorem dX4_init_11 : decode cX4_init 11 = .ok (.aload_n 0, 1) := by decide +kernel
theorem dX4_init_12 : decode cX4_init 12 = .ok (.bipush 48, 2) := by decide +kernel
theorem dX4_init_14 : decode cX4_init 14 = .ok (.newarray .double, 2) := by decide +kernel
theorem dX4_init_16 : decode cX4_init 16 = .ok (.putfield 13, 3) := by decide +kernel
theorem dX4_init_19 : decode cX4_init 19 = .ok (.aload_n 0, 1) := by decide +kernel
theorem dX4_init_20 : decode cX4_init 20 = .ok (.bipush 48, 2) := by decide +kernel
theorem dX4_init_22 : decode cX4_init 22 = .ok (.newarray .double, 2) := by decide +kernel
theorem dX4_init_24 : decode cX4_init 24 = .ok (.putfield 17, 3) := by decide +kernel
theorem dX4_init_27 : decode cX4_init 27 = .ok (.aload_n 0, 1) := by decide +kernel
theorem dX4_init_28 : decode cX4_init 28 = .ok (.iconst 4, 1) := by decide +kernel
theorem dX4_init_29 : decode cX4_init 29 = .ok (.newarray .int, 2) := by decide +kernel
theorem dX4_init_31 : decode cX4_init 31 = .ok (.putfield 20, 3) := by decide +kernel
theorem dX4_init_34 : decode cX4_init 34 = .ok (.aload_n 0, 1) := by decide +kernel
theorem dX4_init_35 : decode cX4_init 35 = .ok (.bipush 80, 2) := by decide +kernel
theorem dX4_init_37 : decode cX4_init 37 = .ok (.newarray .double, 2) := by decide +kernel
theorem dX4_init_39 : decode cX4_init 39 = .ok (.putfield 23, 3) := by decide +kernel
theorem dX4_init_42 : decode cX4_init 42 = .ok (.aload_n 0, 1) := by decide +kernel
theorem dX4_init_43 : decode cX4_init 43 = .ok (.bipush 80, 2) := by decide +kernel
theorem dX4_init_45 : decode cX4_init 45 = .ok (.newarray .double, 2) := by decide +kernel
theorem dX4_init_47 : decode cX4_init 47 = .ok (.putfield 26, 3) := by decide +kernel
theorem dX4_init_50 : decode cX4_init 50 = .ok (.aload_n 0, 1) := by decide +kernel
theorem dX4_init_51 : decode cX4_init 51 = .ok (.iconst 4, 1) := by decide +kernel
theorem dX4_init_52 : decode cX4_init 52 = .ok (.newarray .double, 2) := by decide +kernel
theorem dX4_init_54 : decode cX4_init 54 = .ok (.putfield 29, 3) := by decide +kernel
theorem dX4_init_57 : decode cX4_init 57 = .ok (.aload_n 0, 1) := by decide +kernel
theorem dX4_init_58 : decode cX4_init 58 = .ok (.iconst 4, 1) := by decide +kernel
theorem dX4_init_59 : decode cX4_init 59 = .ok (.newarray .double, 2) := by decide +kernel
theorem dX4_init_61 : decode cX4_init 61 = .ok (.putfield 32, 3) := by decide +kernel
theorem dX4_init_64 : decode cX4_init 64 = .ok (.aload_n 0, 1) := by decide +kernel
theorem dX4_init_65 : decode cX4_init 65 = .ok (.bipush 12, 2) := by decide +kernel
theorem dX4_init_67 : decode cX4_init 67 = .ok (.newarray .double, 2) := by decide +kernel
theorem dX4_init_69 : decode cX4_init 69 = .ok (.putfield 35, 3) := by decide +kernel
theorem dX4_init_72 : decode cX4_init 72 = .ok (.aload_n 0, 1) := by decide +kernel
theorem dX4_init_73 : decode cX4_init 73 = .ok (.bipush 12, 2) := by decide +kernel
theorem dX4_init_75 : decode cX4_init 75 = .ok (.newarray .double, 2) := by decide +kernel
theorem dX4_init_77 : decode cX4_init 77 = .ok (.putfield 38, 3) := by decide +kernel
theorem dX4_init_80 : decode cX4_init 80 = .ok (.iconst 0, 1) := by decide +kernel
theorem dX4_init_81 : decode cX4_init 81 = .ok (.istore_n 1, 1) := by decide +kernel
theorem dX4_init_82 : decode cX4_init 82 = .ok (.iload_n 1, 1) := by decide +kernel
theorem dX4_init_83 : decode cX4_init 83 = .ok (.iconst 4, 1) := by decide +kernel
theorem dX4_init_84 : decode cX4_init 84 = .ok (.if_icmp .ge 27, 3) := by decide +kernel
theorem dX4_init_87 : decode cX4_init 87 = .ok (.aload_n 0, 1) := by decide +kernel
theorem dX4_init_88 : decode cX4_init 88 = .ok (.getfield 29, 3) := by decide +kernel
theorem dX4_init_91 : decode cX4_init 91 = .ok (.iload_n 1, 1) := by decide +kernel
theorem dX4_init_92 : decode cX4_init 92 = .ok (.ldc2_w 41, 3) := by decide +kernel
theorem dX4_init_95 : decode cX4_init 95 = .ok (.dastore, 1) := by decide +kernel
theorem dX4_init_96 : decode cX4_init 96 = .ok (.aload_n 0, 1) := by decide +kernel
theorem dX4_init_97 : decode cX4_init 97 = .ok (.getfield 32, 3) := by decide +kernel
theorem dX4_init_100 : decode cX4_init 100 = .ok (.iload_n 1, 1) := by decide +kernel
theorem dX4_init_101 : decode cX4_init 101 = .ok (.ldc2_w 41, 3) := by decide +kernel
theorem dX4_init_104 : decode cX4_init 104 = .ok (.dastore, 1) := by decide +kernel
theorem dX4_init_105 : decode cX4_init 105 = .ok (.iinc 1 1, 3) := by decide +kernel
theorem dX4_init_108 : decode cX4_init 108 = .ok (.goto (-26), 3) := by decide +kernel
theorem dX4_init_111 : decode cX4_init 111 = .ok (.return_, 1) := by decide +kernel
theorem dX4_thrown_0 : decode cX4_thrown 0 = .ok (.aload_n 0, 1) := by decide +kernel
theorem dX4_thrown_1 : decode cX4_thrown 1 = .ok (.getfield 43, 3) := by decide +kernel
theorem dX4_thrown_4 : decode cX4_thrown 4 = .ok (.ireturn, 1) := by decide +kernel
theorem dX4_isIn_0 : decode cX4_isIn 0 = .ok (.dload_n 0, 1) := by decide +kernel
theorem dX4_isIn_1 : decode cX4_isIn 1 = .ok (.dload_n 2, 1) := by decide +kernel
theorem dX4_isIn_2 : decode cX4_isIn 2 = .ok (.dcmp .l, 1) := by decide +kernel
theorem dX4_isIn_3 : decode cX4_isIn 3 = .ok (.ifCond .lt 14, 3) := by decide +kernel
theorem dX4_isIn_6 : decode cX4_isIn 6 = .ok (.dload_n 0, 1) := by decide +kernel
theorem dX4_isIn_7 : decode cX4_isIn 7 = .ok (.dload 4, 2) := by decide +kernel
theorem dX4_isIn_9 : decode cX4_isIn 9 = .ok (.dcmp .g, 1) := by decide +kernel
theorem dX4_isIn_10 : decode cX4_isIn 10 = .ok (.ifCond .gt 7, 3) := by decide +kernel
theorem dX4_isIn_13 : decode cX4_isIn 13 = .ok (.iconst 1, 1) := by decide +kernel
theorem dX4_isIn_14 : decode cX4_isIn 14 = .ok (.goto 4, 3) := by decide +kernel
theorem dX4_isIn_17 : decode cX4_isIn 17 = .ok (.iconst 0, 1) := by decide +kernel
theorem dX4_isIn_18 : decode cX4_isIn 18 = .ok (.ireturn, 1) := by decide +kernel
theorem dX4_isKind_0 : decode cX4_isKind 0 = .ok (.iload_n 0, 1) := by decide +kernel
theorem dX4_isKind_1 : decode cX4_isKind 1 = .ok (.ifCond .lt 12, 3) := by decide +kernel
theorem dX4_isKind_4 : decode cX4_isKind 4 = .ok (.iload_n 0, 1) := by decide +kernel
theorem dX4_isKind_5 : decode cX4_isKind 5 = .ok (.iconst 4, 1) := by decide +kernel
theorem dX4_isKind_6 : decode cX4_isKind 6 = .ok (.if_icmp .ge 7, 3) := by decide +kernel
theorem dX4_isKind_9 : decode cX4_isKind 9 = .ok (.iconst 1, 1) := by decide +kernel
theorem dX4_isKind_10 : decode cX4_isKind 10 = .ok (.goto 4, 3) := by decide +kernel
theorem dX4_isKind_13 : decode cX4_isKind 13 = .ok (.iconst 0, 1) := by decide +kernel
theorem dX4_isKind_14 : decode cX4_isKind 14 = .ok (.ireturn, 1) := by decide +kernel
theorem dX4_table_0 : decode cX4_table 0 = .ok (.aload_n 0, 1) := by decide +kernel
theorem dX4_table_1 : decode cX4_table 1 = .ok (.iload_n 1, 1) := by decide +kernel
theorem dX4_table_2 : decode cX4_table 2 = .ok (.invokestatic 47, 3) := by decide +kernel
theorem dX4_table_5 : decode cX4_table 5 = .ok (.ifCond .eq 7, 3) := by decide +kernel
theorem dX4_table_8 : decode cX4_table 8 = .ok (.iconst 0, 1) := by decide +kernel
theorem dX4_table_9 : decode cX4_table 9 = .ok (.goto 4, 3) := by decide +kernel
theorem dX4_table_12 : decode cX4_table 12 = .ok (.iconst 1, 1) := by decide +kernel
theorem dX4_table_13 : decode cX4_table 13 = .ok (.putfield 43, 3) := by decide +kernel
theorem dX4_table_16 : decode cX4_table 16 = .ok (.aload_n 0, 1) := by decide +kernel
theorem dX4_table_17 : decode cX4_table 17 = .ok (.getfield 43, 3) := by decide +kernel
theorem dX4_table_20 : decode cX4_table 20 = .ok (.ifCond .le 5, 3) := by decide +kernel
theorem dX4_table_23 : decode cX4_table 23 = .ok (.iconst 0, 1) := by decide +kernel
theorem dX4_table_24 : decode cX4_table 24 = .ok (.ireturn, 1) := by decide +kernel
theorem dX4_table_25 : decode cX4_table 25 = .ok (.bipush 12, 2) := by decide +kernel
theorem dX4_table_27 : decode cX4_table 27 = .ok (.iload_n 1, 1) := by decide +kernel
theorem dX4_table_28 : decode cX4_table 28 = .ok (.imul, 1) := by decide +kernel
theorem dX4_table_29 : decode cX4_table 29 = .ok (.aload_n 0, 1) := by decide +kernel
theorem dX4_table_30 : decode cX4_table 30 = .ok (.getfield 7, 3) := by decide +kernel
theorem dX4_table_33 : decode cX4_table 33 = .ok (.iload_n 1, 1) := by decide +kernel
theorem dX4_table_34 : decode cX4_table 34 = .ok (.iaload, 1) := by decide +kernel
theorem dX4_table_35 : decode cX4_table 35 = .ok (.iadd, 1) := by decide +kernel
theorem dX4_table_36 : decode cX4_table 36 = .ok (.iconst 1, 1) := by decide +kernel
theorem dX4_table_37 : decode cX4_table 37 = .ok (.isub, 1) := by decide +kernel
theorem dX4_table_38 : decode cX4_table 38 = .ok (.istore 6, 2) := by decide +kernel
theorem dX4_table_40 : decode cX4_table 40 = .ok (.dload_n 2, 1) := by decide +kernel
theorem dX4_table_41 : decode cX4_table 41 = .ok (.ldc2_w 51, 3) := by decide +kernel
theorem dX4_table_44 : decode cX4_table 44 = .ok (.ldc2_w 53, 3) := by decide +kernel
theorem dX4_table_47 : decode cX4_table 47 = .ok (.invokestatic 55, 3) := by decide +kernel
theorem dX4_table_50 : decode cX4_table 50 = .ok (.ifCond .eq 42, 3) := by decide +kernel
theorem dX4_table_53 : decode cX4_table 53 = .ok (.dload 4, 2) := by decide +kernel
theorem dX4_table_55 : decode cX4_table 55 = .ok (.ldc2_w 51, 3) := by decide +kernel
theorem dX4_table_58 : decode cX4_table 58 = .ok (.ldc2_w 59, 3) := by decide +kernel
theorem dX4_table_61 : decode cX4_table 61 = .ok (.invokestatic 55, 3) := by decide +kernel
theorem dX4_table_64 : decode cX4_table 64 = .ok (.ifCond .eq 28, 3) := by decide +kernel
theorem dX4_table_67 : decode cX4_table 67 = .ok (.aload_n 0, 1) := by decide +kernel
theorem dX4_table_68 : decode cX4_table 68 = .ok (.getfield 7, 3) := by decide +kernel
theorem dX4_table_71 : decode cX4_table 71 = .ok (.iload_n 1, 1) := by decide +kernel
theorem dX4_table_72 : decode cX4_table 72 = .ok (.iaload, 1) := by decide +kernel
theorem dX4_table_73 : decode cX4_table 73 = .ok (.ifCond .eq 15, 3) := by decide +kernel
theorem dX4_table_76 : decode cX4_table 76 = .ok (.dload_n 2, 1) := by decide +kernel
theorem dX4_table_77 : decode cX4_table 77 = .ok (.aload_n 0, 1) := by decide +kernel
theorem dX4_table_78 : decode cX4_table 78 = .ok (.getfield 13, 3) := by decide +kernel
theorem dX4_table_81 : decode cX4_table 81 = .ok (.iload 6, 2) := by decide +kernel
theorem dX4_table_83 : decode cX4_table 83 = .ok (.daload, 1) := by decide +kernel
theorem dX4_table_84 : decode cX4_table 84 = .ok (.dcmp .l, 1) := by decide +kernel
theorem dX4_table_85 : decode cX4_table 85 = .ok (.ifCond .le 7, 3) := by decide +kernel
theorem dX4_table_88 : decode cX4_table 88 = .ok (.iconst 1, 1) := by decide +kernel
theorem dX4_table_89 : decode cX4_table 89 = .ok (.goto 4, 3) := by decide +kernel
theorem dX4_table_92 : decode cX4_table 92 = .ok (.iconst 0, 1) := by decide +kernel
theorem dX4_table_93 : decode cX4_table 93 = .ok (.istore 7, 2) := by decide +kernel
theorem dX4_table_95 : decode cX4_table 95 = .ok (.aload_n 0, 1) := by decide +kernel
theorem dX4_table_96 : decode cX4_table 96 = .ok (.iload 7, 2) := by decide +kernel
theorem dX4_table_98 : decode cX4_table 98 = .ok (.ifCond .ne 7, 3) := by decide +kernel
theorem dX4_table_101 : decode cX4_table 101 = .ok (.iconst 2, 1) := by decide +kernel
theorem dX4_table_102 : decode cX4_table 102 = .ok (.goto 19, 3) := by decide +kernel
theorem dX4_table_105 : decode cX4_table 105 = .ok (.aload_n 0, 1) := by decide +kernel
theorem dX4_table_106 : decode cX4_table 106 = .ok (.getfield 7, 3) := by decide +kernel
theorem dX4_table_109 : decode cX4_table 109 = .ok (.iload_n 1, 1) := by decide +kernel
theorem dX4_table_110 : decode cX4_table 110 = .ok (.iaload, 1) := by decide +kernel
theorem dX4_table_111 : decode cX4_table 111 = .ok (.bipush 12, 2) := by decide +kernel
theorem dX4_table_113 : decode cX4_table 113 = .ok (.if_icmp .ne 7, 3) := by decide +kernel
theorem dX4_table_116 : decode cX4_table 116 = .ok (.iconst 3, 1) := by decide +kernel
theorem dX4_table_117 : decode cX4_table 117 = .ok (.goto 4, 3) := by decide +kernel
theorem dX4_table_120 : decode cX4_table 120 = .ok (.iconst 0, 1) := by decide +kernel
theorem dX4_table_121 : decode cX4_table 121 = .ok (.putfield 43, 3) := by decide +kernel
theorem dX4_table_124 : decode cX4_table 124 = .ok (.aload_n 0, 1) := by decide +kernel
theorem dX4_table_125 : decode cX4_table 125 = .ok (.getfield 43, 3) := by decide +kernel
theorem dX4_table_128 : decode cX4_table 128 = .ok (.ifCond .le 5, 3) := by decide +kernel
theorem dX4_table_131 : decode cX4_table 131 = .ok (.iconst 0, 1) := by decide +kernel
theorem dX4_table_132 : decode cX4_table 132 = .ok (.ireturn, 1) := by decide +kernel
theorem dX4_table_133 : decode cX4_table 133 = .ok (.aload_n 0, 1) := by decide +kernel
theorem dX4_table_134 : decode cX4_table 134 = .ok (.getfield 13, 3) := by decide +kernel
theorem dX4_table_137 : decode cX4_table 137 = .ok (.iload 6, 2) := by decide +kernel
theorem dX4_table_139 : decode cX4_table 139 = .ok (.iconst 1, 1) := by decide +kernel
theorem dX4_table_140 : decode cX4_table 140 = .ok (.iadd, 1) := by decide +kernel
theorem dX4_table_141 : decode cX4_table 141 = .ok (.dload_n 2, 1) := by decide +kernel
theorem dX4_table_142 : decode cX4_table 142 = .ok (.dastore, 1) := by decide +kernel
theorem dX4_table_143 : decode cX4_table 143 = .ok (.aload_n 0, 1) := by decide +kernel
theorem dX4_table_144 : decode cX4_table 144 = .ok (.getfield 17, 3) := by decide +kernel
theorem dX4_table_147 : decode cX4_table 147 = .ok (.iload 6, 2) := by decide +kernel
theorem dX4_table_149 : decode cX4_table 149 = .ok (.iconst 1, 1) := by decide +kernel
theorem dX4_table_150 : decode cX4_table 150 = .ok (.iadd, 1) := by decide +kernel
theorem dX4_table_151 : decode cX4_table 151 = .ok (.dload 4, 2) := by decide +kernel
theorem dX4_table_153 : decode cX4_table 153 = .ok (.dastore, 1) := by decide +kernel
theorem dX4_table_154 : decode cX4_table 154 = .ok (.aload_n 0, 1) := by decide +kernel
theorem dX4_table_155 : decode cX4_table 155 = .ok (.getfield 7, 3) := by decide +kernel
theorem dX4_table_158 : decode cX4_table 158 = .ok (.iload_n 1, 1) := by decide +kernel
theorem dX4_table_159 : decode cX4_table 159 = .ok (.dup2, 1) := by decide +kernel
theorem dX4_table_160 : decode cX4_table 160 = .ok (.iaload, 1) := by decide +kernel
theorem dX4_table_161 : decode cX4_table 161 = .ok (.iconst 1, 1) := by decide +kernel
theorem dX4_table_162 : decode cX4_table 162 = .ok (.iadd, 1) := by decide +kernel
theorem dX4_table_163 : decode cX4_table 163 = .ok (.iastore, 1) := by decide +kernel
theorem dX4_table_164 : decode cX4_table 164 = .ok (.aload_n 0, 1) := by decide +kernel
theorem dX4_table_165 : decode cX4_table 165 = .ok (.getfield 7, 3) := by decide +kernel
theorem dX4_table_168 : decode cX4_table 168 = .ok (.iload_n 1, 1) := by decide +kernel
theorem dX4_table_169 : decode cX4_table 169 = .ok (.iaload, 1) := by decide +kernel
theorem dX4_table_170 : decode cX4_table 170 = .ok (.ireturn, 1) := by decide +kernel
theorem dX4_radiusAt_0 : decode cX4_radiusAt 0 = .ok (.aload_n 0, 1) := by decide +kernel
theorem dX4_radiusAt_1 : decode cX4_radiusAt 1 = .ok (.iconst 0, 1) := by decide +kernel
theorem dX4_radiusAt_2 : decode cX4_radiusAt 2 = .ok (.putfield 61, 3) := by decide +kernel
theorem dX4_radiusAt_5 : decode cX4_radiusAt 5 = .ok (.dconst 0, 1) := by decide +kernel
theorem dX4_radiusAt_6 : decode cX4_radiusAt 6 = .ok (.dstore 4, 2) := by decide +kernel
theorem dX4_radiusAt_8 : decode cX4_radiusAt 8 = .ok (.bipush 12, 2) := by decide +kernel
theorem dX4_radiusAt_10 : decode cX4_radiusAt 10 = .ok (.iload_n 1, 1) := by decide +kernel
theorem dX4_radiusAt_11 : decode cX4_radiusAt 11 = .ok (.imul, 1) := by decide +kernel
theorem dX4_radiusAt_12 : decode cX4_radiusAt 12 = .ok (.istore 6, 2) := by decide +kernel
theorem dX4_radiusAt_14 : decode cX4_radiusAt 14 = .ok (.iload 6, 2) := by decide +kernel
theorem dX4_radiusAt_16 : decode cX4_radiusAt 16 = .ok (.bipush 12, 2) := by decide +kernel
theorem dX4_radiusAt_18 : decode cX4_radiusAt 18 = .ok (.iload_n 1, 1) := by decide +kernel
theorem dX4_radiusAt_19 : decode cX4_radiusAt 19 = .ok (.imul, 1) := by decide +kernel
theorem dX4_radiusAt_20 : decode cX4_radiusAt 20 = .ok (.aload_n 0, 1) := by decide +kernel
theorem dX4_radiusAt_21 : decode cX4_radiusAt 21 = .ok (.getfield 7, 3) := by decide +kernel
theorem dX4_radiusAt_24 : decode cX4_radiusAt 24 = .ok (.iload_n 1, 1) := by decide +kernel
theorem dX4_radiusAt_25 : decode cX4_radiusAt 25 = .ok (.iaload, 1) := by decide +kernel
theorem dX4_radiusAt_26 : decode cX4_radiusAt 26 = .ok (.iadd, 1) := by decide +kernel
theorem dX4_radiusAt_27 : decode cX4_radiusAt 27 = .ok (.if_icmp .ge 137, 3) := by decide +kernel
theorem dX4_radiusAt_30 : decode cX4_radiusAt 30 = .ok (.dload_n 2, 1) := by decide +kernel
theorem dX4_radiusAt_31 : decode cX4_radiusAt 31 = .ok (.aload_n 0, 1) := by decide +kernel
theorem dX4_radiusAt_32 : decode cX4_radiusAt 32 = .ok (.getfield 13, 3) := by decide +kernel
theorem dX4_radiusAt_35 : decode cX4_radiusAt 35 = .ok (.iload 6, 2) := by decide +kernel
theorem dX4_radiusAt_37 : decode cX4_radiusAt 37 = .ok (.daload, 1) := by decide +kernel
theorem dX4_radiusAt_38 : decode cX4_radiusAt 38 = .ok (.dcmp .l, 1) := by decide +kernel
theorem dX4_radiusAt_39 : decode cX4_radiusAt 39 = .ok (.ifCond .ne 20, 3) := by decide +kernel
theorem dX4_radiusAt_42 : decode cX4_radiusAt 42 = .ok (.aload_n 0, 1) := by decide +kernel
theorem dX4_radiusAt_43 : decode cX4_radiusAt 43 = .ok (.iconst 1, 1) := by decide +kernel
theorem dX4_radiusAt_44 : decode cX4_radiusAt 44 = .ok (.putfield 61, 3) := by decide +kernel
theorem dX4_radiusAt_47 : decode cX4_radiusAt 47 = .ok (.aload_n 0, 1) := by decide +kernel
theorem dX4_radiusAt_48 : decode cX4_radiusAt 48 = .ok (.getfield 17, 3) := by decide +kernel
theorem dX4_radiusAt_51 : decode cX4_radiusAt 51 = .ok (.iload 6, 2) := by decide +kernel
theorem dX4_radiusAt_53 : decode cX4_radiusAt 53 = .ok (.daload, 1) := by decide +kernel
theorem dX4_radiusAt_54 : decode cX4_radiusAt 54 = .ok (.dstore 4, 2) := by decide +kernel
theorem dX4_radiusAt_56 : decode cX4_radiusAt 56 = .ok (.goto 102, 3) := by decide +kernel
theorem dX4_radiusAt_59 : decode cX4_radiusAt 59 = .ok (.iload 6, 2) := by decide +kernel
theorem dX4_radiusAt_61 : decode cX4_radiusAt 61 = .ok (.bipush 12, 2) := by decide +kernel
theorem dX4_radiusAt_63 : decode cX4_radiusAt 63 = .ok (.iload_n 1, 1) := by decide +kernel
theorem dX4_radiusAt_64 : decode cX4_radiusAt 64 = .ok (.imul, 1) := by decide +kernel
theorem dX4_radiusAt_65 : decode cX4_radiusAt 65 = .ok (.if_icmp .le 93, 3) := by decide +kernel
theorem dX4_radiusAt_68 : decode cX4_radiusAt 68 = .ok (.dload_n 2, 1) := by decide +kernel
theorem dX4_radiusAt_69 : decode cX4_radiusAt 69 = .ok (.aload_n 0, 1) := by decide +kernel
theorem dX4_radiusAt_70 : decode cX4_radiusAt 70 = .ok (.getfield 13, 3) := by decide +kernel
theorem dX4_radiusAt_73 : decode cX4_radiusAt 73 = .ok (.iload 6, 2) := by decide +kernel
theorem dX4_radiusAt_75 : decode cX4_radiusAt 75 = .ok (.iconst 1, 1) := by decide +kernel
theorem dX4_radiusAt_76 : decode cX4_radiusAt 76 = .ok (.isub, 1) := by decide +kernel
theorem dX4_radiusAt_77 : decode cX4_radiusAt 77 = .ok (.daload, 1) := by decide +kernel
theorem dX4_radiusAt_78 : decode cX4_radiusAt 78 = .ok (.dcmp .l, 1) := by decide +kernel
theorem dX4_radiusAt_79 : decode cX4_radiusAt 79 = .ok (.ifCond .le 79, 3) := by decide +kernel
theorem dX4_radiusAt_82 : decode cX4_radiusAt 82 = .ok (.dload_n 2, 1) := by decide +kernel
theorem dX4_radiusAt_83 : decode cX4_radiusAt 83 = .ok (.aload_n 0, 1) := by decide +kernel
theorem dX4_radiusAt_84 : decode cX4_radiusAt 84 = .ok (.getfield 13, 3) := by decide +kernel
theorem dX4_radiusAt_87 : decode cX4_radiusAt 87 = .ok (.iload 6, 2) := by decide +kernel
theorem dX4_radiusAt_89 : decode cX4_radiusAt 89 = .ok (.daload, 1) := by decide +kernel
theorem dX4_radiusAt_90 : decode cX4_radiusAt 90 = .ok (.dcmp .g, 1) := by decide +kernel
theorem dX4_radiusAt_91 : decode cX4_radiusAt 91 = .ok (.ifCond .ge 67, 3) := by decide +kernel
theorem dX4_radiusAt_94 : decode cX4_radiusAt 94 = .ok (.aload_n 0, 1) := by decide +kernel
theorem dX4_radiusAt_95 : decode cX4_radiusAt 95 = .ok (.iconst 1, 1) := by decide +kernel
theorem dX4_radiusAt_96 : decode cX4_radiusAt 96 = .ok (.putfield 61, 3) := by decide +kernel
theorem dX4_radiusAt_99 : decode cX4_radiusAt 99 = .ok (.aload_n 0, 1) := by decide +kernel
theorem dX4_radiusAt_100 : decode cX4_radiusAt 100 = .ok (.getfield 17, 3) := by decide +kernel
theorem dX4_radiusAt_103 : decode cX4_radiusAt 103 = .ok (.iload 6, 2) := by decide +kernel
theorem dX4_radiusAt_105 : decode cX4_radiusAt 105 = .ok (.iconst 1, 1) := by decide +kernel
theorem dX4_radiusAt_106 : decode cX4_radiusAt 106 = .ok (.isub, 1) := by decide +kernel
theorem dX4_radiusAt_107 : decode cX4_radiusAt 107 = .ok (.daload, 1) := by decide +kernel
theorem dX4_radiusAt_108 : decode cX4_radiusAt 108 = .ok (.dload_n 2, 1) := by decide +kernel
theorem dX4_radiusAt_109 : decode cX4_radiusAt 109 = .ok (.aload_n 0, 1) := by decide +kernel
theorem dX4_radiusAt_110 : decode cX4_radiusAt 110 = .ok (.getfield 13, 3) := by decide +kernel
theorem dX4_radiusAt_113 : decode cX4_radiusAt 113 = .ok (.iload 6, 2) := by decide +kernel
theorem dX4_radiusAt_115 : decode cX4_radiusAt 115 = .ok (.iconst 1, 1) := by decide +kernel
theorem dX4_radiusAt_116 : decode cX4_radiusAt 116 = .ok (.isub, 1) := by decide +kernel
theorem dX4_radiusAt_117 : decode cX4_radiusAt 117 = .ok (.daload, 1) := by decide +kernel
theorem dX4_radiusAt_118 : decode cX4_radiusAt 118 = .ok (.dsub, 1) := by decide +kernel
theorem dX4_radiusAt_119 : decode cX4_radiusAt 119 = .ok (.aload_n 0, 1) := by decide +kernel
theorem dX4_radiusAt_120 : decode cX4_radiusAt 120 = .ok (.getfield 17, 3) := by decide +kernel
theorem dX4_radiusAt_123 : decode cX4_radiusAt 123 = .ok (.iload 6, 2) := by decide +kernel
theorem dX4_radiusAt_125 : decode cX4_radiusAt 125 = .ok (.daload, 1) := by decide +kernel
theorem dX4_radiusAt_126 : decode cX4_radiusAt 126 = .ok (.aload_n 0, 1) := by decide +kernel
theorem dX4_radiusAt_127 : decode cX4_radiusAt 127 = .ok (.getfield 17, 3) := by decide +kernel
theorem dX4_radiusAt_130 : decode cX4_radiusAt 130 = .ok (.iload 6, 2) := by decide +kernel
theorem dX4_radiusAt_132 : decode cX4_radiusAt 132 = .ok (.iconst 1, 1) := by decide +kernel
theorem dX4_radiusAt_133 : decode cX4_radiusAt 133 = .ok (.isub, 1) := by decide +kernel
theorem dX4_radiusAt_134 : decode cX4_radiusAt 134 = .ok (.daload, 1) := by decide +kernel
theorem dX4_radiusAt_135 : decode cX4_radiusAt 135 = .ok (.dsub, 1) := by decide +kernel
theorem dX4_radiusAt_136 : decode cX4_radiusAt 136 = .ok (.dmul, 1) := by decide +kernel
theorem dX4_radiusAt_137 : decode cX4_radiusAt 137 = .ok (.aload_n 0, 1) := by decide +kernel
theorem dX4_radiusAt_138 : decode cX4_radiusAt 138 = .ok (.getfield 13, 3) := by decide +kernel
theorem dX4_radiusAt_141 : decode cX4_radiusAt 141 = .ok (.iload 6, 2) := by decide +kernel
theorem dX4_radiusAt_143 : decode cX4_radiusAt 143 = .ok (.daload, 1) := by decide +kernel
theorem dX4_radiusAt_144 : decode cX4_radiusAt 144 = .ok (.aload_n 0, 1) := by decide +kernel
theorem dX4_radiusAt_145 : decode cX4_radiusAt 145 = .ok (.getfield 13, 3) := by decide +kernel
theorem dX4_radiusAt_148 : decode cX4_radiusAt 148 = .ok (.iload 6, 2) := by decide +kernel
theorem dX4_radiusAt_150 : decode cX4_radiusAt 150 = .ok (.iconst 1, 1) := by decide +kernel
theorem dX4_radiusAt_151 : decode cX4_radiusAt 151 = .ok (.isub, 1) := by decide +kernel
theorem dX4_radiusAt_152 : decode cX4_radiusAt 152 = .ok (.daload, 1) := by decide +kernel
theorem dX4_radiusAt_153 : decode cX4_radiusAt 153 = .ok (.dsub, 1) := by decide +kernel
theorem dX4_radiusAt_154 : decode cX4_radiusAt 154 = .ok (.ddiv, 1) := by decide +kernel
theorem dX4_radiusAt_155 : decode cX4_radiusAt 155 = .ok (.dadd, 1) := by decide +kernel
theorem dX4_radiusAt_156 : decode cX4_radiusAt 156 = .ok (.dstore 4, 2) := by decide +kernel
theorem dX4_radiusAt_158 : decode cX4_radiusAt 158 = .ok (.iinc 6 1, 3) := by decide +kernel
theorem dX4_radiusAt_161 : decode cX4_radiusAt 161 = .ok (.goto (-147), 3) := by decide +kernel
theorem dX4_radiusAt_164 : decode cX4_radiusAt 164 = .ok (.dload 4, 2) := by decide +kernel
theorem dX4_radiusAt_166 : decode cX4_radiusAt 166 = .ok (.dreturn, 1) := by decide +kernel
theorem dX4_radius_0 : decode cX4_radius 0 = .ok (.aload_n 0, 1) := by decide +kernel
theorem dX4_radius_1 : decode cX4_radius 1 = .ok (.iload_n 1, 1) := by decide +kernel
theorem dX4_radius_2 : decode cX4_radius 2 = .ok (.invokestatic 47, 3) := by decide +kernel
theorem dX4_radius_5 : decode cX4_radius 5 = .ok (.ifCond .ne 7, 3) := by decide +kernel
theorem dX4_radius_8 : decode cX4_radius 8 = .ok (.iconst 1, 1) := by decide +kernel
theorem dX4_radius_9 : decode cX4_radius 9 = .ok (.goto 19, 3) := by decide +kernel
theorem dX4_radius_12 : decode cX4_radius 12 = .ok (.dload_n 2, 1) := by decide +kernel
theorem dX4_radius_13 : decode cX4_radius 13 = .ok (.dconst 0, 1) := by decide +kernel
theorem dX4_radius_14 : decode cX4_radius 14 = .ok (.ldc2_w 53, 3) := by decide +kernel
theorem dX4_radius_17 : decode cX4_radius 17 = .ok (.invokestatic 55, 3) := by decide +kernel
theorem dX4_radius_20 : decode cX4_radius 20 = .ok (.ifCond .eq 7, 3) := by decide +kernel
theorem dX4_radius_23 : decode cX4_radius 23 = .ok (.iconst 0, 1) := by decide +kernel
theorem dX4_radius_24 : decode cX4_radius 24 = .ok (.goto 4, 3) := by decide +kernel
theorem dX4_radius_27 : decode cX4_radius 27 = .ok (.iconst 2, 1) := by decide +kernel
theorem dX4_radius_28 : decode cX4_radius 28 = .ok (.putfield 43, 3) := by decide +kernel
theorem dX4_radius_31 : decode cX4_radius 31 = .ok (.aload_n 0, 1) := by decide +kernel
theorem dX4_radius_32 : decode cX4_radius 32 = .ok (.getfield 43, 3) := by decide +kernel
theorem dX4_radius_35 : decode cX4_radius 35 = .ok (.ifCond .le 5, 3) := by decide +kernel
theorem dX4_radius_38 : decode cX4_radius 38 = .ok (.dconst 0, 1) := by decide +kernel
theorem dX4_radius_39 : decode cX4_radius 39 = .ok (.dreturn, 1) := by decide +kernel
theorem dX4_radius_40 : decode cX4_radius 40 = .ok (.aload_n 0, 1) := by decide +kernel
theorem dX4_radius_41 : decode cX4_radius 41 = .ok (.iload_n 1, 1) := by decide +kernel
theorem dX4_radius_42 : decode cX4_radius 42 = .ok (.dload_n 2, 1) := by decide +kernel
theorem dX4_radius_43 : decode cX4_radius 43 = .ok (.invokevirtual 65, 3) := by decide +kernel
theorem dX4_radius_46 : decode cX4_radius 46 = .ok (.dstore 4, 2) := by decide +kernel
theorem dX4_radius_48 : decode cX4_radius 48 = .ok (.aload_n 0, 1) := by decide +kernel
theorem dX4_radius_49 : decode cX4_radius 49 = .ok (.aload_n 0, 1) := by decide +kernel
theorem dX4_radius_50 : decode cX4_radius 50 = .ok (.getfield 61, 3) := by decide +kernel
theorem dX4_radius_53 : decode cX4_radius 53 = .ok (.ifCond .eq 7, 3) := by decide +kernel
theorem dX4_radius_56 : decode cX4_radius 56 = .ok (.iconst 0, 1) := by decide +kernel
theorem dX4_radius_57 : decode cX4_radius 57 = .ok (.goto 4, 3) := by decide +kernel
theorem dX4_radius_60 : decode cX4_radius 60 = .ok (.iconst 3, 1) := by decide +kernel
theorem dX4_radius_61 : decode cX4_radius 61 = .ok (.putfield 43, 3) := by decide +kernel
theorem dX4_radius_64 : decode cX4_radius 64 = .ok (.aload_n 0, 1) := by decide +kernel
theorem dX4_radius_65 : decode cX4_radius 65 = .ok (.getfield 43, 3) := by decide +kernel
theorem dX4_radius_68 : decode cX4_radius 68 = .ok (.ifCond .le 7, 3) := by decide +kernel
theorem dX4_radius_71 : decode cX4_radius 71 = .ok (.dconst 0, 1) := by decide +kernel
theorem dX4_radius_72 : decode cX4_radius 72 = .ok (.goto 5, 3) := by decide +kernel
theorem dX4_radius_75 : decode cX4_radius 75 = .ok (.dload 4, 2) := by decide +kernel
theorem dX4_radius_77 : decode cX4_radius 77 = .ok (.dreturn, 1) := by decide +kernel
theorem dX4_strips_0 : decode cX4_strips 0 = .ok (.aload_n 0, 1) := by decide +kernel
theorem dX4_strips_1 : decode cX4_strips 1 = .ok (.iload_n 1, 1) := by decide +kernel
theorem dX4_strips_2 : decode cX4_strips 2 = .ok (.invokestatic 47, 3) := by decide +kernel
theorem dX4_strips_5 : decode cX4_strips 5 = .ok (.ifCond .ne 7, 3) := by decide +kernel
theorem dX4_strips_8 : decode cX4_strips 8 = .ok (.iconst 1, 1) := by decide +kernel
theorem dX4_strips_9 : decode cX4_strips 9 = .ok (.goto 35, 3) := by decide +kernel
theorem dX4_strips_12 : decode cX4_strips 12 = .ok (.dload_n 2, 1) := by decide +kernel
theorem dX4_strips_13 : decode cX4_strips 13 = .ok (.ldc2_w 51, 3) := by decide +kernel
theorem dX4_strips_16 : decode cX4_strips 16 = .ok (.ldc2_w 59, 3) := by decide +kernel
theorem dX4_strips_19 : decode cX4_strips 19 = .ok (.invokestatic 55, 3) := by decide +kernel
theorem dX4_strips_22 : decode cX4_strips 22 = .ok (.ifCond .eq 21, 3) := by decide +kernel
theorem dX4_strips_25 : decode cX4_strips 25 = .ok (.dload 4, 2) := by decide +kernel
theorem dX4_strips_27 : decode cX4_strips 27 = .ok (.ldc2_w 51, 3) := by decide +kernel
theorem dX4_strips_30 : decode cX4_strips 30 = .ok (.ldc2_w 59, 3) := by decide +kernel
theorem dX4_strips_33 : decode cX4_strips 33 = .ok (.invokestatic 55, 3) := by decide +kernel
theorem dX4_strips_36 : decode cX4_strips 36 = .ok (.ifCond .eq 7, 3) := by decide +kernel
theorem dX4_strips_39 : decode cX4_strips 39 = .ok (.iconst 0, 1) := by decide +kernel
theorem dX4_strips_40 : decode cX4_strips 40 = .ok (.goto 4, 3) := by decide +kernel
theorem dX4_strips_43 : decode cX4_strips 43 = .ok (.iconst 2, 1) := by decide +kernel
theorem dX4_strips_44 : decode cX4_strips 44 = .ok (.putfield 43, 3) := by decide +kernel
theorem dX4_strips_47 : decode cX4_strips 47 = .ok (.iconst 1, 1) := by decide +kernel
theorem dX4_strips_48 : decode cX4_strips 48 = .ok (.istore 6, 2) := by decide +kernel
theorem dX4_strips_50 : decode cX4_strips 50 = .ok (.iload 6, 2) := by decide +kernel
theorem dX4_strips_52 : decode cX4_strips 52 = .ok (.bipush 100, 2) := by decide +kernel
theorem dX4_strips_54 : decode cX4_strips 54 = .ok (.if_icmp .gt 46, 3) := by decide +kernel
theorem dX4_strips_57 : decode cX4_strips 57 = .ok (.aload_n 0, 1) := by decide +kernel
theorem dX4_strips_58 : decode cX4_strips 58 = .ok (.getfield 43, 3) := by decide +kernel
theorem dX4_strips_61 : decode cX4_strips 61 = .ok (.ifCond .ne 39, 3) := by decide +kernel
theorem dX4_strips_64 : decode cX4_strips 64 = .ok (.aload_n 0, 1) := by decide +kernel
theorem dX4_strips_65 : decode cX4_strips 65 = .ok (.iload_n 1, 1) := by decide +kernel
theorem dX4_strips_66 : decode cX4_strips 66 = .ok (.dload_n 2, 1) := by decide +kernel
theorem dX4_strips_67 : decode cX4_strips 67 = .ok (.iload 6, 2) := by decide +kernel
theorem dX4_strips_69 : decode cX4_strips 69 = .ok (.i2d, 1) := by decide +kernel
theorem dX4_strips_70 : decode cX4_strips 70 = .ok (.ddiv, 1) := by decide +kernel
theorem dX4_strips_71 : decode cX4_strips 71 = .ok (.invokevirtual 65, 3) := by decide +kernel
theorem dX4_strips_74 : decode cX4_strips 74 = .ok (.dstore 7, 2) := by decide +kernel
theorem dX4_strips_76 : decode cX4_strips 76 = .ok (.aload_n 0, 1) := by decide +kernel
theorem dX4_strips_77 : decode cX4_strips 77 = .ok (.getfield 61, 3) := by decide +kernel
theorem dX4_strips_80 : decode cX4_strips 80 = .ok (.ifCond .eq 14, 3) := by decide +kernel
theorem dX4_strips_83 : decode cX4_strips 83 = .ok (.dload 7, 2) := by decide +kernel
theorem dX4_strips_85 : decode cX4_strips 85 = .ok (.dload 4, 2) := by decide +kernel
theorem dX4_strips_87 : decode cX4_strips 87 = .ok (.dcmp .g, 1) := by decide +kernel
theorem dX4_strips_88 : decode cX4_strips 88 = .ok (.ifCond .gt 6, 3) := by decide +kernel
theorem dX4_strips_91 : decode cX4_strips 91 = .ok (.iload 6, 2) := by decide +kernel
theorem dX4_strips_93 : decode cX4_strips 93 = .ok (.ireturn, 1) := by decide +kernel
theorem dX4_strips_94 : decode cX4_strips 94 = .ok (.iinc 6 1, 3) := by decide +kernel
theorem dX4_strips_97 : decode cX4_strips 97 = .ok (.goto (-47), 3) := by decide +kernel
theorem dX4_strips_100 : decode cX4_strips 100 = .ok (.aload_n 0, 1) := by decide +kernel
theorem dX4_strips_101 : decode cX4_strips 101 = .ok (.getfield 43, 3) := by decide +kernel
theorem dX4_strips_104 : decode cX4_strips 104 = .ok (.ifCond .le 7, 3) := by decide +kernel
theorem dX4_strips_107 : decode cX4_strips 107 = .ok (.iconst 0, 1) := by decide +kernel
theorem dX4_strips_108 : decode cX4_strips 108 = .ok (.goto 4, 3) := by decide +kernel
theorem dX4_strips_111 : decode cX4_strips 111 = .ok (.iconst (-1), 1) := by decide +kernel
theorem dX4_strips_112 : decode cX4_strips 112 = .ok (.ireturn, 1) := by decide +kernel
theorem dX4_read_0 : decode cX4_read 0 = .ok (.aload_n 0, 1) := by decide +kernel
theorem dX4_read_1 : decode cX4_read 1 = .ok (.iload_n 1, 1) := by decide +kernel
theorem dX4_read_2 : decode cX4_read 2 = .ok (.invokestatic 47, 3) := by decide +kernel
theorem dX4_read_5 : decode cX4_read 5 = .ok (.ifCond .ne 7, 3) := by decide +kernel
theorem dX4_read_8 : decode cX4_read 8 = .ok (.iconst 1, 1) := by decide +kernel
theorem dX4_read_9 : decode cX4_read 9 = .ok (.goto 48, 3) := by decide +kernel
theorem dX4_read_12 : decode cX4_read 12 = .ok (.dload_n 2, 1) := by decide +kernel
theorem dX4_read_13 : decode cX4_read 13 = .ok (.ldc2_w 51, 3) := by decide +kernel
theorem dX4_read_16 : decode cX4_read 16 = .ok (.ldc2_w 59, 3) := by decide +kernel
theorem dX4_read_19 : decode cX4_read 19 = .ok (.invokestatic 55, 3) := by decide +kernel
theorem dX4_read_22 : decode cX4_read 22 = .ok (.ifCond .eq 15, 3) := by decide +kernel
theorem dX4_read_25 : decode cX4_read 25 = .ok (.dload 4, 2) := by decide +kernel
theorem dX4_read_27 : decode cX4_read 27 = .ok (.dload_n 2, 1) := by decide +kernel
theorem dX4_read_28 : decode cX4_read 28 = .ok (.ldc2_w 69, 3) := by decide +kernel
theorem dX4_read_31 : decode cX4_read 31 = .ok (.invokestatic 55, 3) := by decide +kernel
theorem dX4_read_34 : decode cX4_read 34 = .ok (.ifCond .ne 7, 3) := by decide +kernel
theorem dX4_read_37 : decode cX4_read 37 = .ok (.iconst 2, 1) := by decide +kernel
theorem dX4_read_38 : decode cX4_read 38 = .ok (.goto 19, 3) := by decide +kernel
theorem dX4_read_41 : decode cX4_read 41 = .ok (.aload_n 0, 1) := by decide +kernel
theorem dX4_read_42 : decode cX4_read 42 = .ok (.getfield 20, 3) := by decide +kernel
theorem dX4_read_45 : decode cX4_read 45 = .ok (.iload_n 1, 1) := by decide +kernel
theorem dX4_read_46 : decode cX4_read 46 = .ok (.iaload, 1) := by decide +kernel
theorem dX4_read_47 : decode cX4_read 47 = .ok (.bipush 20, 2) := by decide +kernel
theorem dX4_read_49 : decode cX4_read 49 = .ok (.if_icmp .ne 7, 3) := by decide +kernel
theorem dX4_read_52 : decode cX4_read 52 = .ok (.iconst 3, 1) := by decide +kernel
theorem dX4_read_53 : decode cX4_read 53 = .ok (.goto 4, 3) := by decide +kernel
theorem dX4_read_56 : decode cX4_read 56 = .ok (.iconst 0, 1) := by decide +kernel
theorem dX4_read_57 : decode cX4_read 57 = .ok (.putfield 43, 3) := by decide +kernel
theorem dX4_read_60 : decode cX4_read 60 = .ok (.aload_n 0, 1) := by decide +kernel
theorem dX4_read_61 : decode cX4_read 61 = .ok (.getfield 43, 3) := by decide +kernel
theorem dX4_read_64 : decode cX4_read 64 = .ok (.ifCond .le 5, 3) := by decide +kernel
theorem dX4_read_67 : decode cX4_read 67 = .ok (.iconst 0, 1) := by decide +kernel
theorem dX4_read_68 : decode cX4_read 68 = .ok (.ireturn, 1) := by decide +kernel
theorem dX4_read_69 : decode cX4_read 69 = .ok (.bipush 20, 2) := by decide +kernel
theorem dX4_read_71 : decode cX4_read 71 = .ok (.iload_n 1, 1) := by decide +kernel
theorem dX4_read_72 : decode cX4_read 72 = .ok (.imul, 1) := by decide +kernel
theorem dX4_read_73 : decode cX4_read 73 = .ok (.aload_n 0, 1) := by decide +kernel
theorem dX4_read_74 : decode cX4_read 74 = .ok (.getfield 20, 3) := by decide +kernel
theorem dX4_read_77 : decode cX4_read 77 = .ok (.iload_n 1, 1) := by decide +kernel
theorem dX4_read_78 : decode cX4_read 78 = .ok (.iaload, 1) := by decide +kernel
theorem dX4_read_79 : decode cX4_read 79 = .ok (.iadd, 1) := by decide +kernel
theorem dX4_read_80 : decode cX4_read 80 = .ok (.istore 6, 2) := by decide +kernel
theorem dX4_read_82 : decode cX4_read 82 = .ok (.aload_n 0, 1) := by decide +kernel
theorem dX4_read_83 : decode cX4_read 83 = .ok (.getfield 23, 3) := by decide +kernel
theorem dX4_read_86 : decode cX4_read 86 = .ok (.iload 6, 2) := by decide +kernel
theorem dX4_read_88 : decode cX4_read 88 = .ok (.dload_n 2, 1) := by decide +kernel
theorem dX4_read_89 : decode cX4_read 89 = .ok (.dastore, 1) := by decide +kernel
theorem dX4_read_90 : decode cX4_read 90 = .ok (.aload_n 0, 1) := by decide +kernel
theorem dX4_read_91 : decode cX4_read 91 = .ok (.getfield 26, 3) := by decide +kernel
theorem dX4_read_94 : decode cX4_read 94 = .ok (.iload 6, 2) := by decide +kernel
theorem dX4_read_96 : decode cX4_read 96 = .ok (.dload 4, 2) := by decide +kernel
theorem dX4_read_98 : decode cX4_read 98 = .ok (.dastore, 1) := by decide +kernel
theorem dX4_read_99 : decode cX4_read 99 = .ok (.aload_n 0, 1) := by decide +kernel
theorem dX4_read_100 : decode cX4_read 100 = .ok (.getfield 20, 3) := by decide +kernel
theorem dX4_read_103 : decode cX4_read 103 = .ok (.iload_n 1, 1) := by decide +kernel
theorem dX4_read_104 : decode cX4_read 104 = .ok (.dup2, 1) := by decide +kernel
theorem dX4_read_105 : decode cX4_read 105 = .ok (.iaload, 1) := by decide +kernel
theorem dX4_read_106 : decode cX4_read 106 = .ok (.iconst 1, 1) := by decide +kernel
theorem dX4_read_107 : decode cX4_read 107 = .ok (.iadd, 1) := by decide +kernel
theorem dX4_read_108 : decode cX4_read 108 = .ok (.iastore, 1) := by decide +kernel
theorem dX4_read_109 : decode cX4_read 109 = .ok (.aload_n 0, 1) := by decide +kernel
theorem dX4_read_110 : decode cX4_read 110 = .ok (.getfield 20, 3) := by decide +kernel
theorem dX4_read_113 : decode cX4_read 113 = .ok (.iload_n 1, 1) := by decide +kernel
theorem dX4_read_114 : decode cX4_read 114 = .ok (.iaload, 1) := by decide +kernel
theorem dX4_read_115 : decode cX4_read 115 = .ok (.ireturn, 1) := by decide +kernel
theorem dX4_residue_0 : decode cX4_residue 0 = .ok (.dconst 0, 1) := by decide +kernel
theorem dX4_residue_1 : decode cX4_residue 1 = .ok (.dstore 4, 2) := by decide +kernel
theorem dX4_residue_3 : decode cX4_residue 3 = .ok (.bipush 20, 2) := by decide +kernel
theorem dX4_residue_5 : decode cX4_residue 5 = .ok (.iload_n 1, 1) := by decide +kernel
theorem dX4_residue_6 : decode cX4_residue 6 = .ok (.imul, 1) := by decide +kernel
theorem dX4_residue_7 : decode cX4_residue 7 = .ok (.istore 6, 2) := by decide +kernel
theorem dX4_residue_9 : decode cX4_residue 9 = .ok (.iload 6, 2) := by decide +kernel
theorem dX4_residue_11 : decode cX4_residue 11 = .ok (.bipush 20, 2) := by decide +kernel
theorem dX4_residue_13 : decode cX4_residue 13 = .ok (.iload_n 1, 1) := by decide +kernel
theorem dX4_residue_14 : decode cX4_residue 14 = .ok (.imul, 1) := by decide +kernel
theorem dX4_residue_15 : decode cX4_residue 15 = .ok (.aload_n 0, 1) := by decide +kernel
theorem dX4_residue_16 : decode cX4_residue 16 = .ok (.getfield 20, 3) := by decide +kernel
theorem dX4_residue_19 : decode cX4_residue 19 = .ok (.iload_n 1, 1) := by decide +kernel
theorem dX4_residue_20 : decode cX4_residue 20 = .ok (.iaload, 1) := by decide +kernel
theorem dX4_residue_21 : decode cX4_residue 21 = .ok (.iadd, 1) := by decide +kernel
theorem dX4_residue_22 : decode cX4_residue 22 = .ok (.if_icmp .ge 40, 3) := by decide +kernel
theorem dX4_residue_25 : decode cX4_residue 25 = .ok (.aload_n 0, 1) := by decide +kernel
theorem dX4_residue_26 : decode cX4_residue 26 = .ok (.getfield 26, 3) := by decide +kernel
theorem dX4_residue_29 : decode cX4_residue 29 = .ok (.iload 6, 2) := by decide +kernel
theorem dX4_residue_31 : decode cX4_residue 31 = .ok (.daload, 1) := by decide +kernel
theorem dX4_residue_32 : decode cX4_residue 32 = .ok (.aload_n 0, 1) := by decide +kernel
theorem dX4_residue_33 : decode cX4_residue 33 = .ok (.getfield 23, 3) := by decide +kernel
theorem dX4_residue_36 : decode cX4_residue 36 = .ok (.iload 6, 2) := by decide +kernel
theorem dX4_residue_38 : decode cX4_residue 38 = .ok (.daload, 1) := by decide +kernel
theorem dX4_residue_39 : decode cX4_residue 39 = .ok (.dconst 1, 1) := by decide +kernel
theorem dX4_residue_40 : decode cX4_residue 40 = .ok (.dload_n 2, 1) := by decide +kernel
theorem dX4_residue_41 : decode cX4_residue 41 = .ok (.dadd, 1) := by decide +kernel
theorem dX4_residue_42 : decode cX4_residue 42 = .ok (.dmul, 1) := by decide +kernel
theorem dX4_residue_43 : decode cX4_residue 43 = .ok (.dsub, 1) := by decide +kernel
theorem dX4_residue_44 : decode cX4_residue 44 = .ok (.dstore 7, 2) := by decide +kernel
theorem dX4_residue_46 : decode cX4_residue 46 = .ok (.dload 4, 2) := by decide +kernel
theorem dX4_residue_48 : decode cX4_residue 48 = .ok (.dload 7, 2) := by decide +kernel
theorem dX4_residue_50 : decode cX4_residue 50 = .ok (.dload 7, 2) := by decide +kernel
theorem dX4_residue_52 : decode cX4_residue 52 = .ok (.dmul, 1) := by decide +kernel
theorem dX4_residue_53 : decode cX4_residue 53 = .ok (.dadd, 1) := by decide +kernel
theorem dX4_residue_54 : decode cX4_residue 54 = .ok (.dstore 4, 2) := by decide +kernel
theorem dX4_residue_56 : decode cX4_residue 56 = .ok (.iinc 6 1, 3) := by decide +kernel
theorem dX4_residue_59 : decode cX4_residue 59 = .ok (.goto (-50), 3) := by decide +kernel
theorem dX4_residue_62 : decode cX4_residue 62 = .ok (.dload 4, 2) := by decide +kernel
theorem dX4_residue_64 : decode cX4_residue 64 = .ok (.dreturn, 1) := by decide +kernel
theorem dX4_improves_0 : decode cX4_improves 0 = .ok (.aload_n 0, 1) := by decide +kernel
theorem dX4_improves_1 : decode cX4_improves 1 = .ok (.getfield 29, 3) := by decide +kernel
theorem dX4_improves_4 : decode cX4_improves 4 = .ok (.iload_n 1, 1) := by decide +kernel
theorem dX4_improves_5 : decode cX4_improves 5 = .ok (.daload, 1) := by decide +kernel
theorem dX4_improves_6 : decode cX4_improves 6 = .ok (.dstore_n 2, 1) := by decide +kernel
theorem dX4_improves_7 : decode cX4_improves 7 = .ok (.aload_n 0, 1) := by decide +kernel
theorem dX4_improves_8 : decode cX4_improves 8 = .ok (.getfield 32, 3) := by decide +kernel
theorem dX4_improves_11 : decode cX4_improves 11 = .ok (.iload_n 1, 1) := by decide +kernel
theorem dX4_improves_12 : decode cX4_improves 12 = .ok (.daload, 1) := by decide +kernel
theorem dX4_improves_13 : decode cX4_improves 13 = .ok (.dstore 4, 2) := by decide +kernel
theorem dX4_improves_15 : decode cX4_improves 15 = .ok (.aload_n 0, 1) := by decide +kernel
theorem dX4_improves_16 : decode cX4_improves 16 = .ok (.iload_n 1, 1) := by decide +kernel
theorem dX4_improves_17 : decode cX4_improves 17 = .ok (.dload_n 2, 1) := by decide +kernel
theorem dX4_improves_18 : decode cX4_improves 18 = .ok (.invokevirtual 71, 3) := by decide +kernel
theorem dX4_improves_21 : decode cX4_improves 21 = .ok (.dstore 6, 2) := by decide +kernel
theorem dX4_improves_23 : decode cX4_improves 23 = .ok (.aload_n 0, 1) := by decide +kernel
theorem dX4_improves_24 : decode cX4_improves 24 = .ok (.iload_n 1, 1) := by decide +kernel
theorem dX4_improves_25 : decode cX4_improves 25 = .ok (.dload_n 2, 1) := by decide +kernel
theorem dX4_improves_26 : decode cX4_improves 26 = .ok (.dload 4, 2) := by decide +kernel
theorem dX4_improves_28 : decode cX4_improves 28 = .ok (.dadd, 1) := by decide +kernel
theorem dX4_improves_29 : decode cX4_improves 29 = .ok (.invokevirtual 71, 3) := by decide +kernel
theorem dX4_improves_32 : decode cX4_improves 32 = .ok (.dload 6, 2) := by decide +kernel
theorem dX4_improves_34 : decode cX4_improves 34 = .ok (.dcmp .g, 1) := by decide +kernel
theorem dX4_improves_35 : decode cX4_improves 35 = .ok (.ifCond .ge 15, 3) := by decide +kernel
theorem dX4_improves_38 : decode cX4_improves 38 = .ok (.aload_n 0, 1) := by decide +kernel
theorem dX4_improves_39 : decode cX4_improves 39 = .ok (.getfield 29, 3) := by decide +kernel
theorem dX4_improves_42 : decode cX4_improves 42 = .ok (.iload_n 1, 1) := by decide +kernel
theorem dX4_improves_43 : decode cX4_improves 43 = .ok (.dload_n 2, 1) := by decide +kernel
theorem dX4_improves_44 : decode cX4_improves 44 = .ok (.dload 4, 2) := by decide +kernel
theorem dX4_improves_46 : decode cX4_improves 46 = .ok (.dadd, 1) := by decide +kernel
theorem dX4_improves_47 : decode cX4_improves 47 = .ok (.dastore, 1) := by decide +kernel
theorem dX4_improves_48 : decode cX4_improves 48 = .ok (.iconst 1, 1) := by decide +kernel
theorem dX4_improves_49 : decode cX4_improves 49 = .ok (.ireturn, 1) := by decide +kernel
theorem dX4_improves_50 : decode cX4_improves 50 = .ok (.dload_n 2, 1) := by decide +kernel
theorem dX4_improves_51 : decode cX4_improves 51 = .ok (.dload 4, 2) := by decide +kernel
theorem dX4_improves_53 : decode cX4_improves 53 = .ok (.dsub, 1) := by decide +kernel
theorem dX4_improves_54 : decode cX4_improves 54 = .ok (.dconst 0, 1) := by decide +kernel
theorem dX4_improves_55 : decode cX4_improves 55 = .ok (.dcmp .l, 1) := by decide +kernel
theorem dX4_improves_56 : decode cX4_improves 56 = .ok (.ifCond .lt 30, 3) := by decide +kernel
theorem dX4_improves_59 : decode cX4_improves 59 = .ok (.aload_n 0, 1) := by decide +kernel
theorem dX4_improves_60 : decode cX4_improves 60 = .ok (.iload_n 1, 1) := by decide +kernel
theorem dX4_improves_61 : decode cX4_improves 61 = .ok (.dload_n 2, 1) := by decide +kernel
theorem dX4_improves_62 : decode cX4_improves 62 = .ok (.dload 4, 2) := by decide +kernel
theorem dX4_improves_64 : decode cX4_improves 64 = .ok (.dsub, 1) := by decide +kernel
theorem dX4_improves_65 : decode cX4_improves 65 = .ok (.invokevirtual 71, 3) := by decide +kernel
theorem dX4_improves_68 : decode cX4_improves 68 = .ok (.dload 6, 2) := by decide +kernel
theorem dX4_improves_70 : decode cX4_improves 70 = .ok (.dcmp .g, 1) := by decide +kernel
theorem dX4_improves_71 : decode cX4_improves 71 = .ok (.ifCond .ge 15, 3) := by decide +kernel
theorem dX4_improves_74 : decode cX4_improves 74 = .ok (.aload_n 0, 1) := by decide +kernel
theorem dX4_improves_75 : decode cX4_improves 75 = .ok (.getfield 29, 3) := by decide +kernel
theorem dX4_improves_78 : decode cX4_improves 78 = .ok (.iload_n 1, 1) := by decide +kernel
theorem dX4_improves_79 : decode cX4_improves 79 = .ok (.dload_n 2, 1) := by decide +kernel
theorem dX4_improves_80 : decode cX4_improves 80 = .ok (.dload 4, 2) := by decide +kernel
theorem dX4_improves_82 : decode cX4_improves 82 = .ok (.dsub, 1) := by decide +kernel
theorem dX4_improves_83 : decode cX4_improves 83 = .ok (.dastore, 1) := by decide +kernel
theorem dX4_improves_84 : decode cX4_improves 84 = .ok (.iconst 1, 1) := by decide +kernel
theorem dX4_improves_85 : decode cX4_improves 85 = .ok (.ireturn, 1) := by decide +kernel
theorem dX4_improves_86 : decode cX4_improves 86 = .ok (.aload_n 0, 1) := by decide +kernel
theorem dX4_improves_87 : decode cX4_improves 87 = .ok (.getfield 32, 3) := by decide +kernel
theorem dX4_improves_90 : decode cX4_improves 90 = .ok (.iload_n 1, 1) := by decide +kernel
theorem dX4_improves_91 : decode cX4_improves 91 = .ok (.dload 4, 2) := by decide +kernel
theorem dX4_improves_93 : decode cX4_improves 93 = .ok (.ldc2_w 74, 3) := by decide +kernel
theorem dX4_improves_96 : decode cX4_improves 96 = .ok (.ddiv, 1) := by decide +kernel
theorem dX4_improves_97 : decode cX4_improves 97 = .ok (.dastore, 1) := by decide +kernel
theorem dX4_improves_98 : decode cX4_improves 98 = .ok (.iconst 0, 1) := by decide +kernel
theorem dX4_improves_99 : decode cX4_improves 99 = .ok (.ireturn, 1) := by decide +kernel
theorem dX4_fit_0 : decode cX4_fit 0 = .ok (.aload_n 0, 1) := by decide +kernel
theorem dX4_fit_1 : decode cX4_fit 1 = .ok (.iload_n 1, 1) := by decide +kernel
theorem dX4_fit_2 : decode cX4_fit 2 = .ok (.invokestatic 47, 3) := by decide +kernel
theorem dX4_fit_5 : decode cX4_fit 5 = .ok (.ifCond .ne 7, 3) := by decide +kernel
theorem dX4_fit_8 : decode cX4_fit 8 = .ok (.iconst 1, 1) := by decide +kernel
theorem dX4_fit_9 : decode cX4_fit 9 = .ok (.goto 18, 3) := by decide +kernel
theorem dX4_fit_12 : decode cX4_fit 12 = .ok (.iload_n 2, 1) := by decide +kernel
theorem dX4_fit_13 : decode cX4_fit 13 = .ok (.ifCond .lt 9, 3) := by decide +kernel
theorem dX4_fit_16 : decode cX4_fit 16 = .ok (.iload_n 2, 1) := by decide +kernel
theorem dX4_fit_17 : decode cX4_fit 17 = .ok (.bipush 100, 2) := by decide +kernel
theorem dX4_fit_19 : decode cX4_fit 19 = .ok (.if_icmp .le 7, 3) := by decide +kernel
theorem dX4_fit_22 : decode cX4_fit 22 = .ok (.iconst 2, 1) := by decide +kernel
theorem dX4_fit_23 : decode cX4_fit 23 = .ok (.goto 4, 3) := by decide +kernel
theorem dX4_fit_26 : decode cX4_fit 26 = .ok (.iconst 0, 1) := by decide +kernel
theorem dX4_fit_27 : decode cX4_fit 27 = .ok (.putfield 43, 3) := by decide +kernel
theorem dX4_fit_30 : decode cX4_fit 30 = .ok (.iconst 0, 1) := by decide +kernel
theorem dX4_fit_31 : decode cX4_fit 31 = .ok (.istore_n 3, 1) := by decide +kernel
theorem dX4_fit_32 : decode cX4_fit 32 = .ok (.iconst 0, 1) := by decide +kernel
theorem dX4_fit_33 : decode cX4_fit 33 = .ok (.istore 4, 2) := by decide +kernel
theorem dX4_fit_35 : decode cX4_fit 35 = .ok (.iload 4, 2) := by decide +kernel
theorem dX4_fit_37 : decode cX4_fit 37 = .ok (.iload_n 2, 1) := by decide +kernel
theorem dX4_fit_38 : decode cX4_fit 38 = .ok (.if_icmp .ge 32, 3) := by decide +kernel
theorem dX4_fit_41 : decode cX4_fit 41 = .ok (.aload_n 0, 1) := by decide +kernel
theorem dX4_fit_42 : decode cX4_fit 42 = .ok (.getfield 43, 3) := by decide +kernel
theorem dX4_fit_45 : decode cX4_fit 45 = .ok (.ifCond .ne 25, 3) := by decide +kernel
theorem dX4_fit_48 : decode cX4_fit 48 = .ok (.aload_n 0, 1) := by decide +kernel
theorem dX4_fit_49 : decode cX4_fit 49 = .ok (.iload_n 1, 1) := by decide +kernel
theorem dX4_fit_50 : decode cX4_fit 50 = .ok (.invokevirtual 76, 3) := by decide +kernel
theorem dX4_fit_53 : decode cX4_fit 53 = .ok (.ifCond .eq 9, 3) := by decide +kernel
theorem dX4_fit_56 : decode cX4_fit 56 = .ok (.iload_n 3, 1) := by decide +kernel
theorem dX4_fit_57 : decode cX4_fit 57 = .ok (.iconst 1, 1) := by decide +kernel
theorem dX4_fit_58 : decode cX4_fit 58 = .ok (.iadd, 1) := by decide +kernel
theorem dX4_fit_59 : decode cX4_fit 59 = .ok (.goto 4, 3) := by decide +kernel
theorem dX4_fit_62 : decode cX4_fit 62 = .ok (.iload_n 3, 1) := by decide +kernel
theorem dX4_fit_63 : decode cX4_fit 63 = .ok (.istore_n 3, 1) := by decide +kernel
theorem dX4_fit_64 : decode cX4_fit 64 = .ok (.iinc 4 1, 3) := by decide +kernel
theorem dX4_fit_67 : decode cX4_fit 67 = .ok (.goto (-32), 3) := by decide +kernel
theorem dX4_fit_70 : decode cX4_fit 70 = .ok (.iload_n 3, 1) := by decide +kernel
theorem dX4_fit_71 : decode cX4_fit 71 = .ok (.ireturn, 1) := by decide +kernel
theorem dX4_back_0 : decode cX4_back 0 = .ok (.aload_n 0, 1) := by decide +kernel
theorem dX4_back_1 : decode cX4_back 1 = .ok (.iload_n 1, 1) := by decide +kernel
theorem dX4_back_2 : decode cX4_back 2 = .ok (.invokestatic 47, 3) := by decide +kernel
theorem dX4_back_5 : decode cX4_back 5 = .ok (.ifCond .eq 16, 3) := by decide +kernel
theorem dX4_back_8 : decode cX4_back 8 = .ok (.iload_n 2, 1) := by decide +kernel
theorem dX4_back_9 : decode cX4_back 9 = .ok (.ifCond .lt 12, 3) := by decide +kernel
theorem dX4_back_12 : decode cX4_back 12 = .ok (.iload_n 2, 1) := by decide +kernel
theorem dX4_back_13 : decode cX4_back 13 = .ok (.iconst 2, 1) := by decide +kernel
theorem dX4_back_14 : decode cX4_back 14 = .ok (.if_icmp .gt 7, 3) := by decide +kernel
theorem dX4_back_17 : decode cX4_back 17 = .ok (.iconst 0, 1) := by decide +kernel
theorem dX4_back_18 : decode cX4_back 18 = .ok (.goto 4, 3) := by decide +kernel
theorem dX4_back_21 : decode cX4_back 21 = .ok (.iconst 1, 1) := by decide +kernel
theorem dX4_back_22 : decode cX4_back 22 = .ok (.putfield 43, 3) := by decide +kernel
theorem dX4_back_25 : decode cX4_back 25 = .ok (.aload_n 0, 1) := by decide +kernel
theorem dX4_back_26 : decode cX4_back 26 = .ok (.getfield 43, 3) := by decide +kernel
theorem dX4_back_29 : decode cX4_back 29 = .ok (.ifCond .le 5, 3) := by decide +kernel
theorem dX4_back_32 : decode cX4_back 32 = .ok (.dconst 0, 1) := by decide +kernel
theorem dX4_back_33 : decode cX4_back 33 = .ok (.dreturn, 1) := by decide +kernel
theorem dX4_back_34 : decode cX4_back 34 = .ok (.iload_n 2, 1) := by decide +kernel
theorem dX4_back_35 : decode cX4_back 35 = .ok (.ifCond .ne 12, 3) := by decide +kernel
theorem dX4_back_38 : decode cX4_back 38 = .ok (.aload_n 0, 1) := by decide +kernel
theorem dX4_back_39 : decode cX4_back 39 = .ok (.getfield 29, 3) := by decide +kernel
theorem dX4_back_42 : decode cX4_back 42 = .ok (.iload_n 1, 1) := by decide +kernel
theorem dX4_back_43 : decode cX4_back 43 = .ok (.daload, 1) := by decide +kernel
theorem dX4_back_44 : decode cX4_back 44 = .ok (.goto 28, 3) := by decide +kernel
theorem dX4_back_47 : decode cX4_back 47 = .ok (.iload_n 2, 1) := by decide +kernel
theorem dX4_back_48 : decode cX4_back 48 = .ok (.iconst 1, 1) := by decide +kernel
theorem dX4_back_49 : decode cX4_back 49 = .ok (.if_icmp .ne 12, 3) := by decide +kernel
theorem dX4_back_52 : decode cX4_back 52 = .ok (.aload_n 0, 1) := by decide +kernel
theorem dX4_back_53 : decode cX4_back 53 = .ok (.getfield 32, 3) := by decide +kernel
theorem dX4_back_56 : decode cX4_back 56 = .ok (.iload_n 1, 1) := by decide +kernel
theorem dX4_back_57 : decode cX4_back 57 = .ok (.daload, 1) := by decide +kernel
theorem dX4_back_58 : decode cX4_back 58 = .ok (.goto 14, 3) := by decide +kernel
theorem dX4_back_61 : decode cX4_back 61 = .ok (.aload_n 0, 1) := by decide +kernel
theorem dX4_back_62 : decode cX4_back 62 = .ok (.iload_n 1, 1) := by decide +kernel
theorem dX4_back_63 : decode cX4_back 63 = .ok (.aload_n 0, 1) := by decide +kernel
theorem dX4_back_64 : decode cX4_back 64 = .ok (.getfield 29, 3) := by decide +kernel
theorem dX4_back_67 : decode cX4_back 67 = .ok (.iload_n 1, 1) := by decide +kernel
theorem dX4_back_68 : decode cX4_back 68 = .ok (.daload, 1) := by decide +kernel
theorem dX4_back_69 : decode cX4_back 69 = .ok (.invokevirtual 71, 3) := by decide +kernel
theorem dX4_back_72 : decode cX4_back 72 = .ok (.dreturn, 1) := by decide +kernel
theorem dX4_form_0 : decode cX4_form 0 = .ok (.aload_n 0, 1) := by decide +kernel
theorem dX4_form_1 : decode cX4_form 1 = .ok (.iload_n 1, 1) := by decide +kernel
theorem dX4_form_2 : decode cX4_form 2 = .ok (.invokestatic 47, 3) := by decide +kernel
theorem dX4_form_5 : decode cX4_form 5 = .ok (.ifCond .ne 7, 3) := by decide +kernel
theorem dX4_form_8 : decode cX4_form 8 = .ok (.iconst 1, 1) := by decide +kernel
theorem dX4_form_9 : decode cX4_form 9 = .ok (.goto 21, 3) := by decide +kernel
theorem dX4_form_12 : decode cX4_form 12 = .ok (.dload_n 2, 1) := by decide +kernel
theorem dX4_form_13 : decode cX4_form 13 = .ok (.ldc2_w 51, 3) := by decide +kernel
theorem dX4_form_16 : decode cX4_form 16 = .ok (.ldc2_w 69, 3) := by decide +kernel
theorem dX4_form_19 : decode cX4_form 19 = .ok (.invokestatic 55, 3) := by decide +kernel
theorem dX4_form_22 : decode cX4_form 22 = .ok (.ifCond .eq 7, 3) := by decide +kernel
theorem dX4_form_25 : decode cX4_form 25 = .ok (.iconst 0, 1) := by decide +kernel
theorem dX4_form_26 : decode cX4_form 26 = .ok (.goto 4, 3) := by decide +kernel
theorem dX4_form_29 : decode cX4_form 29 = .ok (.iconst 2, 1) := by decide +kernel
theorem dX4_form_30 : decode cX4_form 30 = .ok (.putfield 43, 3) := by decide +kernel
theorem dX4_form_33 : decode cX4_form 33 = .ok (.aload_n 0, 1) := by decide +kernel
theorem dX4_form_34 : decode cX4_form 34 = .ok (.getfield 43, 3) := by decide +kernel
theorem dX4_form_37 : decode cX4_form 37 = .ok (.ifCond .le 5, 3) := by decide +kernel
theorem dX4_form_40 : decode cX4_form 40 = .ok (.dconst 0, 1) := by decide +kernel
theorem dX4_form_41 : decode cX4_form 41 = .ok (.dreturn, 1) := by decide +kernel
theorem dX4_form_42 : decode cX4_form 42 = .ok (.dconst 0, 1) := by decide +kernel
theorem dX4_form_43 : decode cX4_form 43 = .ok (.dstore 4, 2) := by decide +kernel
theorem dX4_form_45 : decode cX4_form 45 = .ok (.dload_n 2, 1) := by decide +kernel
theorem dX4_form_46 : decode cX4_form 46 = .ok (.dstore 6, 2) := by decide +kernel
theorem dX4_form_48 : decode cX4_form 48 = .ok (.iconst 0, 1) := by decide +kernel
theorem dX4_form_49 : decode cX4_form 49 = .ok (.istore 8, 2) := by decide +kernel
theorem dX4_form_51 : decode cX4_form 51 = .ok (.iload 8, 2) := by decide +kernel
theorem dX4_form_53 : decode cX4_form 53 = .ok (.bipush 40, 2) := by decide +kernel
theorem dX4_form_55 : decode cX4_form 55 = .ok (.if_icmp .ge 71, 3) := by decide +kernel
theorem dX4_form_58 : decode cX4_form 58 = .ok (.dload 4, 2) := by decide +kernel
theorem dX4_form_60 : decode cX4_form 60 = .ok (.dload 6, 2) := by decide +kernel
theorem dX4_form_62 : decode cX4_form 62 = .ok (.dadd, 1) := by decide +kernel
theorem dX4_form_63 : decode cX4_form 63 = .ok (.ldc2_w 74, 3) := by decide +kernel
theorem dX4_form_66 : decode cX4_form 66 = .ok (.ddiv, 1) := by decide +kernel
theorem dX4_form_67 : decode cX4_form 67 = .ok (.dstore 9, 2) := by decide +kernel
theorem dX4_form_69 : decode cX4_form 69 = .ok (.dload 9, 2) := by decide +kernel
theorem dX4_form_71 : decode cX4_form 71 = .ok (.dconst 1, 1) := by decide +kernel
theorem dX4_form_72 : decode cX4_form 72 = .ok (.aload_n 0, 1) := by decide +kernel
theorem dX4_form_73 : decode cX4_form 73 = .ok (.getfield 29, 3) := by decide +kernel
theorem dX4_form_76 : decode cX4_form 76 = .ok (.iload_n 1, 1) := by decide +kernel
theorem dX4_form_77 : decode cX4_form 77 = .ok (.daload, 1) := by decide +kernel
theorem dX4_form_78 : decode cX4_form 78 = .ok (.dadd, 1) := by decide +kernel
theorem dX4_form_79 : decode cX4_form 79 = .ok (.dmul, 1) := by decide +kernel
theorem dX4_form_80 : decode cX4_form 80 = .ok (.dload_n 2, 1) := by decide +kernel
theorem dX4_form_81 : decode cX4_form 81 = .ok (.dcmp .g, 1) := by decide +kernel
theorem dX4_form_82 : decode cX4_form 82 = .ok (.ifCond .ge 7, 3) := by decide +kernel
theorem dX4_form_85 : decode cX4_form 85 = .ok (.iconst 1, 1) := by decide +kernel
theorem dX4_form_86 : decode cX4_form 86 = .ok (.goto 4, 3) := by decide +kernel
theorem dX4_form_89 : decode cX4_form 89 = .ok (.iconst 0, 1) := by decide +kernel
theorem dX4_form_90 : decode cX4_form 90 = .ok (.istore 11, 2) := by decide +kernel
theorem dX4_form_92 : decode cX4_form 92 = .ok (.iload 11, 2) := by decide +kernel
theorem dX4_form_94 : decode cX4_form 94 = .ok (.ifCond .eq 8, 3) := by decide +kernel
theorem dX4_form_97 : decode cX4_form 97 = .ok (.dload 9, 2) := by decide +kernel
theorem dX4_form_99 : decode cX4_form 99 = .ok (.goto 5, 3) := by decide +kernel
theorem dX4_form_102 : decode cX4_form 102 = .ok (.dload 4, 2) := by decide +kernel
theorem dX4_form_104 : decode cX4_form 104 = .ok (.dstore 4, 2) := by decide +kernel
theorem dX4_form_106 : decode cX4_form 106 = .ok (.iload 11, 2) := by decide +kernel
theorem dX4_form_108 : decode cX4_form 108 = .ok (.ifCond .eq 8, 3) := by decide +kernel
theorem dX4_form_111 : decode cX4_form 111 = .ok (.dload 6, 2) := by decide +kernel
theorem dX4_form_113 : decode cX4_form 113 = .ok (.goto 5, 3) := by decide +kernel
theorem dX4_form_116 : decode cX4_form 116 = .ok (.dload 9, 2) := by decide +kernel
theorem dX4_form_118 : decode cX4_form 118 = .ok (.dstore 6, 2) := by decide +kernel
theorem dX4_form_120 : decode cX4_form 120 = .ok (.iinc 8 1, 3) := by decide +kernel
theorem dX4_form_123 : decode cX4_form 123 = .ok (.goto (-72), 3) := by decide +kernel
theorem dX4_form_126 : decode cX4_form 126 = .ok (.dload 6, 2) := by decide +kernel
theorem dX4_form_128 : decode cX4_form 128 = .ok (.dreturn, 1) := by decide +kernel
theorem dX4_minutes_0 : decode cX4_minutes 0 = .ok (.aload_n 0, 1) := by decide +kernel
theorem dX4_minutes_1 : decode cX4_minutes 1 = .ok (.dload_n 1, 1) := by decide +kernel
theorem dX4_minutes_2 : decode cX4_minutes 2 = .ok (.dconst 0, 1) := by decide +kernel
theorem dX4_minutes_3 : decode cX4_minutes 3 = .ok (.ldc2_w 53, 3) := by decide +kernel
theorem dX4_minutes_6 : decode cX4_minutes 6 = .ok (.invokestatic 55, 3) := by decide +kernel
theorem dX4_minutes_9 : decode cX4_minutes 9 = .ok (.ifCond .eq 7, 3) := by decide +kernel
theorem dX4_minutes_12 : decode cX4_minutes 12 = .ok (.iconst 0, 1) := by decide +kernel
theorem dX4_minutes_13 : decode cX4_minutes 13 = .ok (.goto 4, 3) := by decide +kernel
theorem dX4_minutes_16 : decode cX4_minutes 16 = .ok (.iconst 1, 1) := by decide +kernel
theorem dX4_minutes_17 : decode cX4_minutes 17 = .ok (.putfield 43, 3) := by decide +kernel
theorem dX4_minutes_20 : decode cX4_minutes 20 = .ok (.aload_n 0, 1) := by decide +kernel
theorem dX4_minutes_21 : decode cX4_minutes 21 = .ok (.getfield 43, 3) := by decide +kernel
theorem dX4_minutes_24 : decode cX4_minutes 24 = .ok (.ifCond .le 7, 3) := by decide +kernel
theorem dX4_minutes_27 : decode cX4_minutes 27 = .ok (.dconst 0, 1) := by decide +kernel
theorem dX4_minutes_28 : decode cX4_minutes 28 = .ok (.goto 28, 3) := by decide +kernel
theorem dX4_minutes_31 : decode cX4_minutes 31 = .ok (.dload_n 1, 1) := by decide +kernel
theorem dX4_minutes_32 : decode cX4_minutes 32 = .ok (.ldc2_w 79, 3) := by decide +kernel
theorem dX4_minutes_35 : decode cX4_minutes 35 = .ok (.dcmp .l, 1) := by decide +kernel
theorem dX4_minutes_36 : decode cX4_minutes 36 = .ok (.ifCond .le 15, 3) := by decide +kernel
theorem dX4_minutes_39 : decode cX4_minutes 39 = .ok (.dload_n 1, 1) := by decide +kernel
theorem dX4_minutes_40 : decode cX4_minutes 40 = .ok (.ldc2_w 81, 3) := by decide +kernel
theorem dX4_minutes_43 : decode cX4_minutes 43 = .ok (.dmul, 1) := by decide +kernel
theorem dX4_minutes_44 : decode cX4_minutes 44 = .ok (.ldc2_w 83, 3) := by decide +kernel
theorem dX4_minutes_47 : decode cX4_minutes 47 = .ok (.dadd, 1) := by decide +kernel
theorem dX4_minutes_48 : decode cX4_minutes 48 = .ok (.goto 8, 3) := by decide +kernel
theorem dX4_minutes_51 : decode cX4_minutes 51 = .ok (.dload_n 1, 1) := by decide +kernel
theorem dX4_minutes_52 : decode cX4_minutes 52 = .ok (.ldc2_w 81, 3) := by decide +kernel
theorem dX4_minutes_55 : decode cX4_minutes 55 = .ok (.dmul, 1) := by decide +kernel
theorem dX4_minutes_56 : decode cX4_minutes 56 = .ok (.dreturn, 1) := by decide +kernel
theorem dX4_piece_0 : decode cX4_piece 0 = .ok (.aload_n 0, 1) := by decide +kernel
theorem dX4_piece_1 : decode cX4_piece 1 = .ok (.dload_n 1, 1) := by decide +kernel
theorem dX4_piece_2 : decode cX4_piece 2 = .ok (.dconst 0, 1) := by decide +kernel
theorem dX4_piece_3 : decode cX4_piece 3 = .ok (.ldc2_w 59, 3) := by decide +kernel
theorem dX4_piece_6 : decode cX4_piece 6 = .ok (.invokestatic 55, 3) := by decide +kernel
theorem dX4_piece_9 : decode cX4_piece 9 = .ok (.ifCond .eq 20, 3) := by decide +kernel
theorem dX4_piece_12 : decode cX4_piece 12 = .ok (.dload_n 3, 1) := by decide +kernel
theorem dX4_piece_13 : decode cX4_piece 13 = .ok (.dconst 0, 1) := by decide +kernel
theorem dX4_piece_14 : decode cX4_piece 14 = .ok (.dcmp .l, 1) := by decide +kernel
theorem dX4_piece_15 : decode cX4_piece 15 = .ok (.ifCond .eq 18, 3) := by decide +kernel
theorem dX4_piece_18 : decode cX4_piece 18 = .ok (.dload_n 3, 1) := by decide +kernel
theorem dX4_piece_19 : decode cX4_piece 19 = .ok (.dconst 1, 1) := by decide +kernel
theorem dX4_piece_20 : decode cX4_piece 20 = .ok (.ldc2_w 59, 3) := by decide +kernel
theorem dX4_piece_23 : decode cX4_piece 23 = .ok (.invokestatic 55, 3) := by decide +kernel
theorem dX4_piece_26 : decode cX4_piece 26 = .ok (.ifCond .ne 7, 3) := by decide +kernel
theorem dX4_piece_29 : decode cX4_piece 29 = .ok (.iconst 1, 1) := by decide +kernel
theorem dX4_piece_30 : decode cX4_piece 30 = .ok (.goto 17, 3) := by decide +kernel
theorem dX4_piece_33 : decode cX4_piece 33 = .ok (.aload_n 0, 1) := by decide +kernel
theorem dX4_piece_34 : decode cX4_piece 34 = .ok (.getfield 85, 3) := by decide +kernel
theorem dX4_piece_37 : decode cX4_piece 37 = .ok (.bipush 12, 2) := by decide +kernel
theorem dX4_piece_39 : decode cX4_piece 39 = .ok (.if_icmp .ne 7, 3) := by decide +kernel
theorem dX4_piece_42 : decode cX4_piece 42 = .ok (.iconst 2, 1) := by decide +kernel
theorem dX4_piece_43 : decode cX4_piece 43 = .ok (.goto 4, 3) := by decide +kernel
theorem dX4_piece_46 : decode cX4_piece 46 = .ok (.iconst 0, 1) := by decide +kernel
theorem dX4_piece_47 : decode cX4_piece 47 = .ok (.putfield 43, 3) := by decide +kernel
theorem dX4_piece_50 : decode cX4_piece 50 = .ok (.aload_n 0, 1) := by decide +kernel
theorem dX4_piece_51 : decode cX4_piece 51 = .ok (.getfield 43, 3) := by decide +kernel
theorem dX4_piece_54 : decode cX4_piece 54 = .ok (.ifCond .le 5, 3) := by decide +kernel
theorem dX4_piece_57 : decode cX4_piece 57 = .ok (.iconst 0, 1) := by decide +kernel
theorem dX4_piece_58 : decode cX4_piece 58 = .ok (.ireturn, 1) := by decide +kernel
theorem dX4_piece_59 : decode cX4_piece 59 = .ok (.aload_n 0, 1) := by decide +kernel
theorem dX4_piece_60 : decode cX4_piece 60 = .ok (.getfield 35, 3) := by decide +kernel
theorem dX4_piece_63 : decode cX4_piece 63 = .ok (.aload_n 0, 1) := by decide +kernel
theorem dX4_piece_64 : decode cX4_piece 64 = .ok (.getfield 85, 3) := by decide +kernel
theorem dX4_piece_67 : decode cX4_piece 67 = .ok (.dload_n 1, 1) := by decide +kernel
theorem dX4_piece_68 : decode cX4_piece 68 = .ok (.dastore, 1) := by decide +kernel
theorem dX4_piece_69 : decode cX4_piece 69 = .ok (.aload_n 0, 1) := by decide +kernel
theorem dX4_piece_70 : decode cX4_piece 70 = .ok (.getfield 38, 3) := by decide +kernel
theorem dX4_piece_73 : decode cX4_piece 73 = .ok (.aload_n 0, 1) := by decide +kernel
theorem dX4_piece_74 : decode cX4_piece 74 = .ok (.getfield 85, 3) := by decide +kernel
theorem dX4_piece_77 : decode cX4_piece 77 = .ok (.dload_n 3, 1) := by decide +kernel
theorem dX4_piece_78 : decode cX4_piece 78 = .ok (.dastore, 1) := by decide +kernel
theorem dX4_piece_79 : decode cX4_piece 79 = .ok (.aload_n 0, 1) := by decide +kernel
theorem dX4_piece_80 : decode cX4_piece 80 = .ok (.dup, 1) := by decide +kernel
theorem dX4_piece_81 : decode cX4_piece 81 = .ok (.getfield 85, 3) := by decide +kernel
theorem dX4_piece_84 : decode cX4_piece 84 = .ok (.iconst 1, 1) := by decide +kernel
theorem dX4_piece_85 : decode cX4_piece 85 = .ok (.iadd, 1) := by decide +kernel
theorem dX4_piece_86 : decode cX4_piece 86 = .ok (.putfield 85, 3) := by decide +kernel
theorem dX4_piece_89 : decode cX4_piece 89 = .ok (.aload_n 0, 1) := by decide +kernel
theorem dX4_piece_90 : decode cX4_piece 90 = .ok (.getfield 85, 3) := by decide +kernel
theorem dX4_piece_93 : decode cX4_piece 93 = .ok (.ireturn, 1) := by decide +kernel
theorem dX4_clear_0 : decode cX4_clear 0 = .ok (.aload_n 0, 1) := by decide +kernel
theorem dX4_clear_1 : decode cX4_clear 1 = .ok (.iconst 0, 1) := by decide +kernel
theorem dX4_clear_2 : decode cX4_clear 2 = .ok (.putfield 43, 3) := by decide +kernel
theorem dX4_clear_5 : decode cX4_clear 5 = .ok (.aload_n 0, 1) := by decide +kernel
theorem dX4_clear_6 : decode cX4_clear 6 = .ok (.iconst 0, 1) := by decide +kernel
theorem dX4_clear_7 : decode cX4_clear 7 = .ok (.putfield 85, 3) := by decide +kernel
theorem dX4_clear_10 : decode cX4_clear 10 = .ok (.return_, 1) := by decide +kernel
theorem dX4_length_0 : decode cX4_length 0 = .ok (.dload_n 2, 1) := by decide +kernel
theorem dX4_length_1 : decode cX4_length 1 = .ok (.dconst 0, 1) := by decide +kernel
theorem dX4_length_2 : decode cX4_length 2 = .ok (.ldc2_w 53, 3) := by decide +kernel
theorem dX4_length_5 : decode cX4_length 5 = .ok (.invokestatic 55, 3) := by decide +kernel
theorem dX4_length_8 : decode cX4_length 8 = .ok (.istore 4, 2) := by decide +kernel
theorem dX4_length_10 : decode cX4_length 10 = .ok (.iconst 0, 1) := by decide +kernel
theorem dX4_length_11 : decode cX4_length 11 = .ok (.istore 5, 2) := by decide +kernel
theorem dX4_length_13 : decode cX4_length 13 = .ok (.iload 5, 2) := by decide +kernel
theorem dX4_length_15 : decode cX4_length 15 = .ok (.aload_n 0, 1) := by decide +kernel
theorem dX4_length_16 : decode cX4_length 16 = .ok (.getfield 85, 3) := by decide +kernel
theorem dX4_length_19 : decode cX4_length 19 = .ok (.if_icmp .ge 49, 3) := by decide +kernel
theorem dX4_length_22 : decode cX4_length 22 = .ok (.iload 4, 2) := by decide +kernel
theorem dX4_length_24 : decode cX4_length 24 = .ok (.ifCond .eq 35, 3) := by decide +kernel
theorem dX4_length_27 : decode cX4_length 27 = .ok (.aload_n 0, 1) := by decide +kernel
theorem dX4_length_28 : decode cX4_length 28 = .ok (.getfield 38, 3) := by decide +kernel
theorem dX4_length_31 : decode cX4_length 31 = .ok (.iload 5, 2) := by decide +kernel
theorem dX4_length_33 : decode cX4_length 33 = .ok (.daload, 1) := by decide +kernel
theorem dX4_length_34 : decode cX4_length 34 = .ok (.dconst 0, 1) := by decide +kernel
theorem dX4_length_35 : decode cX4_length 35 = .ok (.dcmp .l, 1) := by decide +kernel
theorem dX4_length_36 : decode cX4_length 36 = .ok (.ifCond .eq 19, 3) := by decide +kernel
theorem dX4_length_39 : decode cX4_length 39 = .ok (.dload_n 2, 1) := by decide +kernel
theorem dX4_length_40 : decode cX4_length 40 = .ok (.ldc2_w 74, 3) := by decide +kernel
theorem dX4_length_43 : decode cX4_length 43 = .ok (.aload_n 0, 1) := by decide +kernel
theorem dX4_length_44 : decode cX4_length 44 = .ok (.getfield 38, 3) := by decide +kernel
theorem dX4_length_47 : decode cX4_length 47 = .ok (.iload 5, 2) := by decide +kernel
theorem dX4_length_49 : decode cX4_length 49 = .ok (.daload, 1) := by decide +kernel
theorem dX4_length_50 : decode cX4_length 50 = .ok (.dmul, 1) := by decide +kernel
theorem dX4_length_51 : decode cX4_length 51 = .ok (.dcmp .g, 1) := by decide +kernel
theorem dX4_length_52 : decode cX4_length 52 = .ok (.ifCond .gt 7, 3) := by decide +kernel
theorem dX4_length_55 : decode cX4_length 55 = .ok (.iconst 1, 1) := by decide +kernel
theorem dX4_length_56 : decode cX4_length 56 = .ok (.goto 4, 3) := by decide +kernel
theorem dX4_length_59 : decode cX4_length 59 = .ok (.iconst 0, 1) := by decide +kernel
theorem dX4_length_60 : decode cX4_length 60 = .ok (.istore 4, 2) := by decide +kernel
theorem dX4_length_62 : decode cX4_length 62 = .ok (.iinc 5 1, 3) := by decide +kernel
theorem dX4_length_65 : decode cX4_length 65 = .ok (.goto (-52), 3) := by decide +kernel
theorem dX4_length_68 : decode cX4_length 68 = .ok (.aload_n 0, 1) := by decide +kernel
theorem dX4_length_69 : decode cX4_length 69 = .ok (.iload 4, 2) := by decide +kernel
theorem dX4_length_71 : decode cX4_length 71 = .ok (.ifCond .eq 7, 3) := by decide +kernel
theorem dX4_length_74 : decode cX4_length 74 = .ok (.iconst 0, 1) := by decide +kernel
theorem dX4_length_75 : decode cX4_length 75 = .ok (.goto 4, 3) := by decide +kernel
theorem dX4_length_78 : decode cX4_length 78 = .ok (.iconst 1, 1) := by decide +kernel
theorem dX4_length_79 : decode cX4_length 79 = .ok (.putfield 43, 3) := by decide +kernel
theorem dX4_length_82 : decode cX4_length 82 = .ok (.dload_n 2, 1) := by decide +kernel
theorem dX4_length_83 : decode cX4_length 83 = .ok (.ldc2_w 74, 3) := by decide +kernel
theorem dX4_length_86 : decode cX4_length 86 = .ok (.ddiv, 1) := by decide +kernel
theorem dX4_length_87 : decode cX4_length 87 = .ok (.dstore 5, 2) := by decide +kernel
theorem dX4_length_89 : decode cX4_length 89 = .ok (.dconst 0, 1) := by decide +kernel
theorem dX4_length_90 : decode cX4_length 90 = .ok (.dstore 7, 2) := by decide +kernel
theorem dX4_length_92 : decode cX4_length 92 = .ok (.iconst 0, 1) := by decide +kernel
theorem dX4_length_93 : decode cX4_length 93 = .ok (.istore 9, 2) := by decide +kernel
theorem dX4_length_95 : decode cX4_length 95 = .ok (.iload 9, 2) := by decide +kernel
theorem dX4_length_97 : decode cX4_length 97 = .ok (.aload_n 0, 1) := by decide +kernel
theorem dX4_length_98 : decode cX4_length 98 = .ok (.getfield 85, 3) := by decide +kernel
theorem dX4_length_101 : decode cX4_length 101 = .ok (.if_icmp .ge 73, 3) := by decide +kernel
theorem dX4_length_104 : decode cX4_length 104 = .ok (.iload 4, 2) := by decide +kernel
theorem dX4_length_106 : decode cX4_length 106 = .ok (.ifCond .eq 68, 3) := by decide +kernel
theorem dX4_length_109 : decode cX4_length 109 = .ok (.aload_n 0, 1) := by decide +kernel
theorem dX4_length_110 : decode cX4_length 110 = .ok (.getfield 38, 3) := by decide +kernel
theorem dX4_length_113 : decode cX4_length 113 = .ok (.iload 9, 2) := by decide +kernel
theorem dX4_length_115 : decode cX4_length 115 = .ok (.daload, 1) := by decide +kernel
theorem dX4_length_116 : decode cX4_length 116 = .ok (.dstore 10, 2) := by decide +kernel
theorem dX4_length_118 : decode cX4_length 118 = .ok (.dload 7, 2) := by decide +kernel
theorem dX4_length_120 : decode cX4_length 120 = .ok (.dload 10, 2) := by decide +kernel
theorem dX4_length_122 : decode cX4_length 122 = .ok (.dconst 0, 1) := by decide +kernel
theorem dX4_length_123 : decode cX4_length 123 = .ok (.dcmp .l, 1) := by decide +kernel
theorem dX4_length_124 : decode cX4_length 124 = .ok (.ifCond .ne 13, 3) := by decide +kernel
theorem dX4_length_127 : decode cX4_length 127 = .ok (.aload_n 0, 1) := by decide +kernel
theorem dX4_length_128 : decode cX4_length 128 = .ok (.getfield 35, 3) := by decide +kernel
theorem dX4_length_131 : decode cX4_length 131 = .ok (.iload 9, 2) := by decide +kernel
theorem dX4_length_133 : decode cX4_length 133 = .ok (.daload, 1) := by decide +kernel
theorem dX4_length_134 : decode cX4_length 134 = .ok (.goto 31, 3) := by decide +kernel
theorem dX4_length_137 : decode cX4_length 137 = .ok (.aload_n 0, 1) := by decide +kernel
theorem dX4_length_138 : decode cX4_length 138 = .ok (.getfield 35, 3) := by decide +kernel
theorem dX4_length_141 : decode cX4_length 141 = .ok (.iload 9, 2) := by decide +kernel
theorem dX4_length_143 : decode cX4_length 143 = .ok (.daload, 1) := by decide +kernel
theorem dX4_length_144 : decode cX4_length 144 = .ok (.iload_n 1, 1) := by decide +kernel
theorem dX4_length_145 : decode cX4_length 145 = .ok (.ifCond .eq 11, 3) := by decide +kernel
theorem dX4_length_148 : decode cX4_length 148 = .ok (.dload 10, 2) := by decide +kernel
theorem dX4_length_150 : decode cX4_length 150 = .ok (.dload 5, 2) := by decide +kernel
theorem dX4_length_152 : decode cX4_length 152 = .ok (.dadd, 1) := by decide +kernel
theorem dX4_length_153 : decode cX4_length 153 = .ok (.goto 8, 3) := by decide +kernel
theorem dX4_length_156 : decode cX4_length 156 = .ok (.dload 10, 2) := by decide +kernel
theorem dX4_length_158 : decode cX4_length 158 = .ok (.dload 5, 2) := by decide +kernel
theorem dX4_length_160 : decode cX4_length 160 = .ok (.dsub, 1) := by decide +kernel
theorem dX4_length_161 : decode cX4_length 161 = .ok (.dmul, 1) := by decide +kernel
theorem dX4_length_162 : decode cX4_length 162 = .ok (.dload 10, 2) := by decide +kernel
theorem dX4_length_164 : decode cX4_length 164 = .ok (.ddiv, 1) := by decide +kernel
theorem dX4_length_165 : decode cX4_length 165 = .ok (.dadd, 1) := by decide +kernel
theorem dX4_length_166 : decode cX4_length 166 = .ok (.dstore 7, 2) := by decide +kernel
theorem dX4_length_168 : decode cX4_length 168 = .ok (.iinc 9 1, 3) := by decide +kernel
theorem dX4_length_171 : decode cX4_length 171 = .ok (.goto (-76), 3) := by decide +kernel
theorem dX4_length_174 : decode cX4_length 174 = .ok (.dload 7, 2) := by decide +kernel
theorem dX4_length_176 : decode cX4_length 176 = .ok (.dreturn, 1) := by decide +kernel
theorem dX4_kerfs_0 : decode cX4_kerfs 0 = .ok (.dload_n 1, 1) := by decide +kernel
theorem dX4_kerfs_1 : decode cX4_kerfs 1 = .ok (.dconst 1, 1) := by decide +kernel
theorem dX4_kerfs_2 : decode cX4_kerfs 2 = .ok (.ldc2_w 88, 3) := by decide +kernel
theorem dX4_kerfs_5 : decode cX4_kerfs 5 = .ok (.invokestatic 55, 3) := by decide +kernel
theorem dX4_kerfs_8 : decode cX4_kerfs 8 = .ok (.ifCond .eq 51, 3) := by decide +kernel
theorem dX4_kerfs_11 : decode cX4_kerfs 11 = .ok (.dload_n 3, 1) := by decide +kernel
theorem dX4_kerfs_12 : decode cX4_kerfs 12 = .ok (.dconst 1, 1) := by decide +kernel
theorem dX4_kerfs_13 : decode cX4_kerfs 13 = .ok (.ldc2_w 53, 3) := by decide +kernel
theorem dX4_kerfs_16 : decode cX4_kerfs 16 = .ok (.invokestatic 55, 3) := by decide +kernel
theorem dX4_kerfs_19 : decode cX4_kerfs 19 = .ok (.ifCond .eq 40, 3) := by decide +kernel
theorem dX4_kerfs_22 : decode cX4_kerfs 22 = .ok (.dload 5, 2) := by decide +kernel
theorem dX4_kerfs_24 : decode cX4_kerfs 24 = .ok (.ldc2_w 51, 3) := by decide +kernel
theorem dX4_kerfs_27 : decode cX4_kerfs 27 = .ok (.dload_n 3, 1) := by decide +kernel
theorem dX4_kerfs_28 : decode cX4_kerfs 28 = .ok (.invokestatic 55, 3) := by decide +kernel
theorem dX4_kerfs_31 : decode cX4_kerfs 31 = .ok (.ifCond .eq 28, 3) := by decide +kernel
theorem dX4_kerfs_34 : decode cX4_kerfs 34 = .ok (.dload 5, 2) := by decide +kernel
theorem dX4_kerfs_36 : decode cX4_kerfs 36 = .ok (.dload_n 3, 1) := by decide +kernel
theorem dX4_kerfs_37 : decode cX4_kerfs 37 = .ok (.dcmp .g, 1) := by decide +kernel
theorem dX4_kerfs_38 : decode cX4_kerfs 38 = .ok (.ifCond .ge 21, 3) := by decide +kernel
theorem dX4_kerfs_41 : decode cX4_kerfs 41 = .ok (.dload 7, 2) := by decide +kernel
theorem dX4_kerfs_43 : decode cX4_kerfs 43 = .ok (.ldc2_w 51, 3) := by decide +kernel
theorem dX4_kerfs_46 : decode cX4_kerfs 46 = .ok (.ldc2_w 90, 3) := by decide +kernel
theorem dX4_kerfs_49 : decode cX4_kerfs 49 = .ok (.invokestatic 55, 3) := by decide +kernel
theorem dX4_kerfs_52 : decode cX4_kerfs 52 = .ok (.ifCond .eq 7, 3) := by decide +kernel
theorem dX4_kerfs_55 : decode cX4_kerfs 55 = .ok (.iconst 1, 1) := by decide +kernel
theorem dX4_kerfs_56 : decode cX4_kerfs 56 = .ok (.goto 4, 3) := by decide +kernel
theorem dX4_kerfs_59 : decode cX4_kerfs 59 = .ok (.iconst 0, 1) := by decide +kernel
theorem dX4_kerfs_60 : decode cX4_kerfs 60 = .ok (.istore 9, 2) := by decide +kernel
theorem dX4_kerfs_62 : decode cX4_kerfs 62 = .ok (.aload_n 0, 1) := by decide +kernel
theorem dX4_kerfs_63 : decode cX4_kerfs 63 = .ok (.iload 9, 2) := by decide +kernel
theorem dX4_kerfs_65 : decode cX4_kerfs 65 = .ok (.ifCond .eq 7, 3) := by decide +kernel
theorem dX4_kerfs_68 : decode cX4_kerfs 68 = .ok (.iconst 0, 1) := by decide +kernel
theorem dX4_kerfs_69 : decode cX4_kerfs 69 = .ok (.goto 4, 3) := by decide +kernel
theorem dX4_kerfs_72 : decode cX4_kerfs 72 = .ok (.iconst 1, 1) := by decide +kernel
theorem dX4_kerfs_73 : decode cX4_kerfs 73 = .ok (.putfield 43, 3) := by decide +kernel
theorem dX4_kerfs_76 : decode cX4_kerfs 76 = .ok (.aload_n 0, 1) := by decide +kernel
theorem dX4_kerfs_77 : decode cX4_kerfs 77 = .ok (.getfield 43, 3) := by decide +kernel
theorem dX4_kerfs_80 : decode cX4_kerfs 80 = .ok (.ifCond .le 5, 3) := by decide +kernel
theorem dX4_kerfs_83 : decode cX4_kerfs 83 = .ok (.iconst 0, 1) := by decide +kernel
theorem dX4_kerfs_84 : decode cX4_kerfs 84 = .ok (.ireturn, 1) := by decide +kernel
theorem dX4_kerfs_85 : decode cX4_kerfs 85 = .ok (.dload 7, 2) := by decide +kernel
theorem dX4_kerfs_87 : decode cX4_kerfs 87 = .ok (.dload_n 3, 1) := by decide +kernel
theorem dX4_kerfs_88 : decode cX4_kerfs 88 = .ok (.dload 5, 2) := by decide +kernel
theorem dX4_kerfs_90 : decode cX4_kerfs 90 = .ok (.dsub, 1) := by decide +kernel
theorem dX4_kerfs_91 : decode cX4_kerfs 91 = .ok (.ddiv, 1) := by decide +kernel
theorem dX4_kerfs_92 : decode cX4_kerfs 92 = .ok (.ldc2_w 92, 3) := by decide +kernel
theorem dX4_kerfs_95 : decode cX4_kerfs 95 = .ok (.dmul, 1) := by decide +kernel
theorem dX4_kerfs_96 : decode cX4_kerfs 96 = .ok (.dstore 10, 2) := by decide +kernel
theorem dX4_kerfs_98 : decode cX4_kerfs 98 = .ok (.iconst 1, 1) := by decide +kernel
theorem dX4_kerfs_99 : decode cX4_kerfs 99 = .ok (.istore 12, 2) := by decide +kernel
theorem dX4_kerfs_101 : decode cX4_kerfs 101 = .ok (.iload 12, 2) := by decide +kernel
theorem dX4_kerfs_103 : decode cX4_kerfs 103 = .ok (.i2d, 1) := by decide +kernel
theorem dX4_kerfs_104 : decode cX4_kerfs 104 = .ok (.dload 10, 2) := by decide +kernel
theorem dX4_kerfs_106 : decode cX4_kerfs 106 = .ok (.dmul, 1) := by decide +kernel
theorem dX4_kerfs_107 : decode cX4_kerfs 107 = .ok (.dload_n 1, 1) := by decide +kernel
theorem dX4_kerfs_108 : decode cX4_kerfs 108 = .ok (.dcmp .g, 1) := by decide +kernel
theorem dX4_kerfs_109 : decode cX4_kerfs 109 = .ok (.ifCond .ge 9, 3) := by decide +kernel
theorem dX4_kerfs_112 : decode cX4_kerfs 112 = .ok (.iinc 12 1, 3) := by decide +kernel
theorem dX4_kerfs_115 : decode cX4_kerfs 115 = .ok (.goto (-14), 3) := by decide +kernel
theorem dX4_kerfs_118 : decode cX4_kerfs 118 = .ok (.aload_n 0, 1) := by decide +kernel
theorem dX4_kerfs_119 : decode cX4_kerfs 119 = .ok (.iload 12, 2) := by decide +kernel
theorem dX4_kerfs_121 : decode cX4_kerfs 121 = .ok (.putfield 94, 3) := by decide +kernel
theorem dX4_kerfs_124 : decode cX4_kerfs 124 = .ok (.aload_n 0, 1) := by decide +kernel
theorem dX4_kerfs_125 : decode cX4_kerfs 125 = .ok (.iload 12, 2) := by decide +kernel
theorem dX4_kerfs_127 : decode cX4_kerfs 127 = .ok (.i2d, 1) := by decide +kernel
theorem dX4_kerfs_128 : decode cX4_kerfs 128 = .ok (.dload 10, 2) := by decide +kernel
theorem dX4_kerfs_130 : decode cX4_kerfs 130 = .ok (.dmul, 1) := by decide +kernel
theorem dX4_kerfs_131 : decode cX4_kerfs 131 = .ok (.dload_n 1, 1) := by decide +kernel
theorem dX4_kerfs_132 : decode cX4_kerfs 132 = .ok (.dsub, 1) := by decide +kernel
theorem dX4_kerfs_133 : decode cX4_kerfs 133 = .ok (.putfield 97, 3) := by decide +kernel
theorem dX4_kerfs_136 : decode cX4_kerfs 136 = .ok (.iload 12, 2) := by decide +kernel
theorem dX4_kerfs_138 : decode cX4_kerfs 138 = .ok (.ireturn, 1) := by decide +kernel
theorem dX4_kerfAt_0 : decode cX4_kerfAt 0 = .ok (.aload_n 0, 1) := by decide +kernel
theorem dX4_kerfAt_1 : decode cX4_kerfAt 1 = .ok (.aload_n 0, 1) := by decide +kernel
theorem dX4_kerfAt_2 : decode cX4_kerfAt 2 = .ok (.getfield 94, 3) := by decide +kernel
theorem dX4_kerfAt_5 : decode cX4_kerfAt 5 = .ok (.ifCond .ne 7, 3) := by decide +kernel
theorem dX4_kerfAt_8 : decode cX4_kerfAt 8 = .ok (.iconst 1, 1) := by decide +kernel
theorem dX4_kerfAt_9 : decode cX4_kerfAt 9 = .ok (.goto 35, 3) := by decide +kernel
theorem dX4_kerfAt_12 : decode cX4_kerfAt 12 = .ok (.iload_n 1, 1) := by decide +kernel
theorem dX4_kerfAt_13 : decode cX4_kerfAt 13 = .ok (.ifCond .lt 11, 3) := by decide +kernel
theorem dX4_kerfAt_16 : decode cX4_kerfAt 16 = .ok (.iload_n 1, 1) := by decide +kernel
theorem dX4_kerfAt_17 : decode cX4_kerfAt 17 = .ok (.aload_n 0, 1) := by decide +kernel
theorem dX4_kerfAt_18 : decode cX4_kerfAt 18 = .ok (.getfield 94, 3) := by decide +kernel
theorem dX4_kerfAt_21 : decode cX4_kerfAt 21 = .ok (.if_icmp .lt 7, 3) := by decide +kernel
theorem dX4_kerfAt_24 : decode cX4_kerfAt 24 = .ok (.iconst 2, 1) := by decide +kernel
theorem dX4_kerfAt_25 : decode cX4_kerfAt 25 = .ok (.goto 19, 3) := by decide +kernel
theorem dX4_kerfAt_28 : decode cX4_kerfAt 28 = .ok (.dload_n 2, 1) := by decide +kernel
theorem dX4_kerfAt_29 : decode cX4_kerfAt 29 = .ok (.dconst 0, 1) := by decide +kernel
theorem dX4_kerfAt_30 : decode cX4_kerfAt 30 = .ok (.ldc2_w 59, 3) := by decide +kernel
theorem dX4_kerfAt_33 : decode cX4_kerfAt 33 = .ok (.invokestatic 55, 3) := by decide +kernel
theorem dX4_kerfAt_36 : decode cX4_kerfAt 36 = .ok (.ifCond .eq 7, 3) := by decide +kernel
theorem dX4_kerfAt_39 : decode cX4_kerfAt 39 = .ok (.iconst 0, 1) := by decide +kernel
theorem dX4_kerfAt_40 : decode cX4_kerfAt 40 = .ok (.goto 4, 3) := by decide +kernel
theorem dX4_kerfAt_43 : decode cX4_kerfAt 43 = .ok (.iconst 3, 1) := by decide +kernel
theorem dX4_kerfAt_44 : decode cX4_kerfAt 44 = .ok (.putfield 43, 3) := by decide +kernel
theorem dX4_kerfAt_47 : decode cX4_kerfAt 47 = .ok (.aload_n 0, 1) := by decide +kernel
theorem dX4_kerfAt_48 : decode cX4_kerfAt 48 = .ok (.getfield 43, 3) := by decide +kernel
theorem dX4_kerfAt_51 : decode cX4_kerfAt 51 = .ok (.ifCond .le 7, 3) := by decide +kernel
theorem dX4_kerfAt_54 : decode cX4_kerfAt 54 = .ok (.dconst 0, 1) := by decide +kernel
theorem dX4_kerfAt_55 : decode cX4_kerfAt 55 = .ok (.goto 19, 3) := by decide +kernel
theorem dX4_kerfAt_58 : decode cX4_kerfAt 58 = .ok (.dload_n 2, 1) := by decide +kernel
theorem dX4_kerfAt_59 : decode cX4_kerfAt 59 = .ok (.iconst 2, 1) := by decide +kernel
theorem dX4_kerfAt_60 : decode cX4_kerfAt 60 = .ok (.iload_n 1, 1) := by decide +kernel
theorem dX4_kerfAt_61 : decode cX4_kerfAt 61 = .ok (.imul, 1) := by decide +kernel
theorem dX4_kerfAt_62 : decode cX4_kerfAt 62 = .ok (.iconst 1, 1) := by decide +kernel
theorem dX4_kerfAt_63 : decode cX4_kerfAt 63 = .ok (.iadd, 1) := by decide +kernel
theorem dX4_kerfAt_64 : decode cX4_kerfAt 64 = .ok (.i2d, 1) := by decide +kernel
theorem dX4_kerfAt_65 : decode cX4_kerfAt 65 = .ok (.dmul, 1) := by decide +kernel
theorem dX4_kerfAt_66 : decode cX4_kerfAt 66 = .ok (.iconst 2, 1) := by decide +kernel
theorem dX4_kerfAt_67 : decode cX4_kerfAt 67 = .ok (.aload_n 0, 1) := by decide +kernel
theorem dX4_kerfAt_68 : decode cX4_kerfAt 68 = .ok (.getfield 94, 3) := by decide +kernel
theorem dX4_kerfAt_71 : decode cX4_kerfAt 71 = .ok (.imul, 1) := by decide +kernel
theorem dX4_kerfAt_72 : decode cX4_kerfAt 72 = .ok (.i2d, 1) := by decide +kernel
theorem dX4_kerfAt_73 : decode cX4_kerfAt 73 = .ok (.ddiv, 1) := by decide +kernel
theorem dX4_kerfAt_74 : decode cX4_kerfAt 74 = .ok (.dreturn, 1) := by decide +kernel
theorem dX4_rest_0 : decode cX4_rest 0 = .ok (.aload_n 0, 1) := by decide +kernel
theorem dX4_rest_1 : decode cX4_rest 1 = .ok (.aload_n 0, 1) := by decide +kernel
theorem dX4_rest_2 : decode cX4_rest 2 = .ok (.getfield 94, 3) := by decide +kernel
theorem dX4_rest_5 : decode cX4_rest 5 = .ok (.ifCond .ne 7, 3) := by decide +kernel
theorem dX4_rest_8 : decode cX4_rest 8 = .ok (.iconst 1, 1) := by decide +kernel
theorem dX4_rest_9 : decode cX4_rest 9 = .ok (.goto 4, 3) := by decide +kernel
theorem dX4_rest_12 : decode cX4_rest 12 = .ok (.iconst 0, 1) := by decide +kernel
theorem dX4_rest_13 : decode cX4_rest 13 = .ok (.putfield 43, 3) := by decide +kernel
theorem dX4_rest_16 : decode cX4_rest 16 = .ok (.aload_n 0, 1) := by decide +kernel
theorem dX4_rest_17 : decode cX4_rest 17 = .ok (.getfield 43, 3) := by decide +kernel
theorem dX4_rest_20 : decode cX4_rest 20 = .ok (.ifCond .le 7, 3) := by decide +kernel
theorem dX4_rest_23 : decode cX4_rest 23 = .ok (.dconst 0, 1) := by decide +kernel
theorem dX4_rest_24 : decode cX4_rest 24 = .ok (.goto 7, 3) := by decide +kernel
theorem dX4_rest_27 : decode cX4_rest 27 = .ok (.aload_n 0, 1) := by decide +kernel
theorem dX4_rest_28 : decode cX4_rest 28 = .ok (.getfield 97, 3) := by decide +kernel
theorem dX4_rest_31 : decode cX4_rest 31 = .ok (.dreturn, 1) := by decide +kernel
theorem dX4_common_0 : decode cX4_common 0 = .ok (.iload_n 0, 1) := by decide +kernel
theorem dX4_common_1 : decode cX4_common 1 = .ok (.istore_n 2, 1) := by decide +kernel
theorem dX4_common_2 : decode cX4_common 2 = .ok (.iload_n 1, 1) := by decide +kernel
theorem dX4_common_3 : decode cX4_common 3 = .ok (.istore_n 3, 1) := by decide +kernel
theorem dX4_common_4 : decode cX4_common 4 = .ok (.iload_n 3, 1) := by decide +kernel
theorem dX4_common_5 : decode cX4_common 5 = .ok (.ifCond .eq 16, 3) := by decide +kernel
theorem dX4_common_8 : decode cX4_common 8 = .ok (.iload_n 2, 1) := by decide +kernel
theorem dX4_common_9 : decode cX4_common 9 = .ok (.iload_n 3, 1) := by decide +kernel
theorem dX4_common_10 : decode cX4_common 10 = .ok (.irem, 1) := by decide +kernel
theorem dX4_common_11 : decode cX4_common 11 = .ok (.istore 4, 2) := by decide +kernel
theorem dX4_common_13 : decode cX4_common 13 = .ok (.iload_n 3, 1) := by decide +kernel
theorem dX4_common_14 : decode cX4_common 14 = .ok (.istore_n 2, 1) := by decide +kernel
theorem dX4_common_15 : decode cX4_common 15 = .ok (.iload 4, 2) := by decide +kernel
theorem dX4_common_17 : decode cX4_common 17 = .ok (.istore_n 3, 1) := by decide +kernel
theorem dX4_common_18 : decode cX4_common 18 = .ok (.goto (-14), 3) := by decide +kernel
theorem dX4_common_21 : decode cX4_common 21 = .ok (.iload_n 2, 1) := by decide +kernel
theorem dX4_common_22 : decode cX4_common 22 = .ok (.ireturn, 1) := by decide +kernel
theorem dX4_broken_0 : decode cX4_broken 0 = .ok (.aload_n 0, 1) := by decide +kernel
theorem dX4_broken_1 : decode cX4_broken 1 = .ok (.iload_n 3, 1) := by decide +kernel
theorem dX4_broken_2 : decode cX4_broken 2 = .ok (.ifCond .lt 8, 3) := by decide +kernel
theorem dX4_broken_5 : decode cX4_broken 5 = .ok (.iload_n 3, 1) := by decide +kernel
theorem dX4_broken_6 : decode cX4_broken 6 = .ok (.iconst 3, 1) := by decide +kernel
theorem dX4_broken_7 : decode cX4_broken 7 = .ok (.if_icmp .le 7, 3) := by decide +kernel
theorem dX4_broken_10 : decode cX4_broken 10 = .ok (.iconst 1, 1) := by decide +kernel
theorem dX4_broken_11 : decode cX4_broken 11 = .ok (.goto 28, 3) := by decide +kernel
theorem dX4_broken_14 : decode cX4_broken 14 = .ok (.iload_n 1, 1) := by decide +kernel
theorem dX4_broken_15 : decode cX4_broken 15 = .ok (.iconst 1, 1) := by decide +kernel
theorem dX4_broken_16 : decode cX4_broken 16 = .ok (.if_icmp .lt 22, 3) := by decide +kernel
theorem dX4_broken_19 : decode cX4_broken 19 = .ok (.iload_n 1, 1) := by decide +kernel
theorem dX4_broken_20 : decode cX4_broken 20 = .ok (.ldc 101, 2) := by decide +kernel
theorem dX4_broken_22 : decode cX4_broken 22 = .ok (.if_icmp .gt 16, 3) := by decide +kernel
theorem dX4_broken_25 : decode cX4_broken 25 = .ok (.iload_n 2, 1) := by decide +kernel
theorem dX4_broken_26 : decode cX4_broken 26 = .ok (.ifCond .lt 12, 3) := by decide +kernel
theorem dX4_broken_29 : decode cX4_broken 29 = .ok (.iload_n 2, 1) := by decide +kernel
theorem dX4_broken_30 : decode cX4_broken 30 = .ok (.iload_n 1, 1) := by decide +kernel
theorem dX4_broken_31 : decode cX4_broken 31 = .ok (.if_icmp .gt 7, 3) := by decide +kernel
theorem dX4_broken_34 : decode cX4_broken 34 = .ok (.iconst 0, 1) := by decide +kernel
theorem dX4_broken_35 : decode cX4_broken 35 = .ok (.goto 4, 3) := by decide +kernel
theorem dX4_broken_38 : decode cX4_broken 38 = .ok (.iconst 2, 1) := by decide +kernel
theorem dX4_broken_39 : decode cX4_broken 39 = .ok (.putfield 43, 3) := by decide +kernel
theorem dX4_broken_42 : decode cX4_broken 42 = .ok (.aload_n 0, 1) := by decide +kernel
theorem dX4_broken_43 : decode cX4_broken 43 = .ok (.getfield 43, 3) := by decide +kernel
theorem dX4_broken_46 : decode cX4_broken 46 = .ok (.ifCond .le 5, 3) := by decide +kernel
theorem dX4_broken_49 : decode cX4_broken 49 = .ok (.lconst 0, 1) := by decide +kernel
theorem dX4_broken_50 : decode cX4_broken 50 = .ok (.lreturn, 1) := by decide +kernel
theorem dX4_broken_51 : decode cX4_broken 51 = .ok (.iload_n 3, 1) := by decide +kernel
theorem dX4_broken_52 : decode cX4_broken 52 = .ok (.iconst 2, 1) := by decide +kernel
theorem dX4_broken_53 : decode cX4_broken 53 = .ok (.if_icmp .ge 7, 3) := by decide +kernel
theorem dX4_broken_56 : decode cX4_broken 56 = .ok (.iload_n 2, 1) := by decide +kernel
theorem dX4_broken_57 : decode cX4_broken 57 = .ok (.goto 6, 3) := by decide +kernel
theorem dX4_broken_60 : decode cX4_broken 60 = .ok (.iload_n 2, 1) := by decide +kernel
theorem dX4_broken_61 : decode cX4_broken 61 = .ok (.iconst 1, 1) := by decide +kernel
theorem dX4_broken_62 : decode cX4_broken 62 = .ok (.iadd, 1) := by decide +kernel
theorem dX4_broken_63 : decode cX4_broken 63 = .ok (.istore 4, 2) := by decide +kernel
theorem dX4_broken_65 : decode cX4_broken 65 = .ok (.iload_n 3, 1) := by decide +kernel
theorem dX4_broken_66 : decode cX4_broken 66 = .ok (.iconst 2, 1) := by decide +kernel
theorem dX4_broken_67 : decode cX4_broken 67 = .ok (.irem, 1) := by decide +kernel
theorem dX4_broken_68 : decode cX4_broken 68 = .ok (.ifCond .ne 8, 3) := by decide +kernel
theorem dX4_broken_71 : decode cX4_broken 71 = .ok (.iload 4, 2) := by decide +kernel
theorem dX4_broken_73 : decode cX4_broken 73 = .ok (.goto 6, 3) := by decide +kernel
theorem dX4_broken_76 : decode cX4_broken 76 = .ok (.iload_n 1, 1) := by decide +kernel
theorem dX4_broken_77 : decode cX4_broken 77 = .ok (.iconst 1, 1) := by decide +kernel
theorem dX4_broken_78 : decode cX4_broken 78 = .ok (.iadd, 1) := by decide +kernel
theorem dX4_broken_79 : decode cX4_broken 79 = .ok (.iload 4, 2) := by decide +kernel
theorem dX4_broken_81 : decode cX4_broken 81 = .ok (.iload_n 1, 1) := by decide +kernel
theorem dX4_broken_82 : decode cX4_broken 82 = .ok (.iconst 1, 1) := by decide +kernel
theorem dX4_broken_83 : decode cX4_broken 83 = .ok (.iadd, 1) := by decide +kernel
theorem dX4_broken_84 : decode cX4_broken 84 = .ok (.invokestatic 102, 3) := by decide +kernel
theorem dX4_broken_87 : decode cX4_broken 87 = .ok (.idiv, 1) := by decide +kernel
theorem dX4_broken_88 : decode cX4_broken 88 = .ok (.i2l, 1) := by decide +kernel
theorem dX4_broken_89 : decode cX4_broken 89 = .ok (.lreturn, 1) := by decide +kernel
theorem dX4_relaxed_0 : decode cX4_relaxed 0 = .ok (.aload_n 0, 1) := by decide +kernel
theorem dX4_relaxed_1 : decode cX4_relaxed 1 = .ok (.iload_n 1, 1) := by decide +kernel
theorem dX4_relaxed_2 : decode cX4_relaxed 2 = .ok (.invokestatic 47, 3) := by decide +kernel
theorem dX4_relaxed_5 : decode cX4_relaxed 5 = .ok (.ifCond .ne 7, 3) := by decide +kernel
theorem dX4_relaxed_8 : decode cX4_relaxed 8 = .ok (.iconst 1, 1) := by decide +kernel
theorem dX4_relaxed_9 : decode cX4_relaxed 9 = .ok (.goto 19, 3) := by decide +kernel
theorem dX4_relaxed_12 : decode cX4_relaxed 12 = .ok (.iload_n 2, 1) := by decide +kernel
theorem dX4_relaxed_13 : decode cX4_relaxed 13 = .ok (.ifCond .lt 14, 3) := by decide +kernel
theorem dX4_relaxed_16 : decode cX4_relaxed 16 = .ok (.iload_n 2, 1) := by decide +kernel
theorem dX4_relaxed_17 : decode cX4_relaxed 17 = .ok (.sipush 10000, 3) := by decide +kernel
theorem dX4_relaxed_20 : decode cX4_relaxed 20 = .ok (.if_icmp .gt 7, 3) := by decide +kernel
theorem dX4_relaxed_23 : decode cX4_relaxed 23 = .ok (.iconst 0, 1) := by decide +kernel
theorem dX4_relaxed_24 : decode cX4_relaxed 24 = .ok (.goto 4, 3) := by decide +kernel
theorem dX4_relaxed_27 : decode cX4_relaxed 27 = .ok (.iconst 2, 1) := by decide +kernel
theorem dX4_relaxed_28 : decode cX4_relaxed 28 = .ok (.putfield 43, 3) := by decide +kernel
theorem dX4_relaxed_31 : decode cX4_relaxed 31 = .ok (.aload_n 0, 1) := by decide +kernel
theorem dX4_relaxed_32 : decode cX4_relaxed 32 = .ok (.getfield 43, 3) := by decide +kernel
theorem dX4_relaxed_35 : decode cX4_relaxed 35 = .ok (.ifCond .le 7, 3) := by decide +kernel
theorem dX4_relaxed_38 : decode cX4_relaxed 38 = .ok (.dconst 0, 1) := by decide +kernel
theorem dX4_relaxed_39 : decode cX4_relaxed 39 = .ok (.goto 24, 3) := by decide +kernel
theorem dX4_relaxed_42 : decode cX4_relaxed 42 = .ok (.dconst 1, 1) := by decide +kernel
theorem dX4_relaxed_43 : decode cX4_relaxed 43 = .ok (.aload_n 0, 1) := by decide +kernel
theorem dX4_relaxed_44 : decode cX4_relaxed 44 = .ok (.getfield 29, 3) := by decide +kernel
theorem dX4_relaxed_47 : decode cX4_relaxed 47 = .ok (.iload_n 1, 1) := by decide +kernel
theorem dX4_relaxed_48 : decode cX4_relaxed 48 = .ok (.daload, 1) := by decide +kernel
theorem dX4_relaxed_49 : decode cX4_relaxed 49 = .ok (.dconst 1, 1) := by decide +kernel
theorem dX4_relaxed_50 : decode cX4_relaxed 50 = .ok (.dconst 1, 1) := by decide +kernel
theorem dX4_relaxed_51 : decode cX4_relaxed 51 = .ok (.dconst 1, 1) := by decide +kernel
theorem dX4_relaxed_52 : decode cX4_relaxed 52 = .ok (.iload_n 2, 1) := by decide +kernel
theorem dX4_relaxed_53 : decode cX4_relaxed 53 = .ok (.i2d, 1) := by decide +kernel
theorem dX4_relaxed_54 : decode cX4_relaxed 54 = .ok (.ldc2_w 106, 3) := by decide +kernel
theorem dX4_relaxed_57 : decode cX4_relaxed 57 = .ok (.ddiv, 1) := by decide +kernel
theorem dX4_relaxed_58 : decode cX4_relaxed 58 = .ok (.dadd, 1) := by decide +kernel
theorem dX4_relaxed_59 : decode cX4_relaxed 59 = .ok (.ddiv, 1) := by decide +kernel
theorem dX4_relaxed_60 : decode cX4_relaxed 60 = .ok (.dsub, 1) := by decide +kernel
theorem dX4_relaxed_61 : decode cX4_relaxed 61 = .ok (.dmul, 1) := by decide +kernel
theorem dX4_relaxed_62 : decode cX4_relaxed 62 = .ok (.dadd, 1) := by decide +kernel
theorem dX4_relaxed_63 : decode cX4_relaxed 63 = .ok (.dreturn, 1) := by decide +kernel
theorem dJ9_max_7cf53_0 : decode cJ9_max_7cf53 0 = .ok (.iload_n 0, 1) := by decide +kernel
theorem dJ9_max_7cf53_1 : decode cJ9_max_7cf53 1 = .ok (.iload_n 1, 1) := by decide +kernel
theorem dJ9_max_7cf53_2 : decode cJ9_max_7cf53 2 = .ok (.if_icmp .lt 7, 3) := by decide +kernel
theorem dJ9_max_7cf53_5 : decode cJ9_max_7cf53 5 = .ok (.iload_n 0, 1) := by decide +kernel
theorem dJ9_max_7cf53_6 : decode cJ9_max_7cf53 6 = .ok (.goto 4, 3) := by decide +kernel
theorem dJ9_max_7cf53_9 : decode cJ9_max_7cf53 9 = .ok (.iload_n 1, 1) := by decide +kernel
theorem dJ9_max_7cf53_10 : decode cJ9_max_7cf53 10 = .ok (.ireturn, 1) := by decide +kernel
abbrev vwCl : List vw_C := [(RX0, TX0, 4), (RX1, TX1, 3), (RX2, TX2, 1), (RX3, TX3, 4), (RX4, TX4, 15)]
end
section
theorem dL_table_0 : decode cL_table 0 = .ok (.aload 6, 2) := by decide +kernel
theorem dL_table_2 : decode cL_table 2 = .ok (.iconst 0, 1) := by decide +kernel
theorem dL_table_3 : decode cL_table 3 = .ok (.aload_n 0, 1) := by decide +kernel
theorem dL_table_4 : decode cL_table 4 = .ok (.iload_n 1, 1) := by decide +kernel
theorem dL_table_5 : decode cL_table 5 = .ok (.dload_n 2, 1) := by decide +kernel
theorem dL_table_6 : decode cL_table 6 = .ok (.dload 4, 2) := by decide +kernel
theorem dL_table_8 : decode cL_table 8 = .ok (.invokevirtual 7, 3) := by decide +kernel
theorem dL_table_11 : decode cL_table 11 = .ok (.i2l, 1) := by decide +kernel
theorem dL_table_12 : decode cL_table 12 = .ok (.lastore, 1) := by decide +kernel
theorem dL_table_13 : decode cL_table 13 = .ok (.goto 15, 3) := by decide +kernel
theorem dL_table_16 : decode cL_table 16 = .ok (.astore 7, 2) := by decide +kernel
theorem dL_table_18 : decode cL_table 18 = .ok (.iconst 1, 1) := by decide +kernel
theorem dL_table_19 : decode cL_table 19 = .ok (.ireturn, 1) := by decide +kernel
theorem dL_table_20 : decode cL_table 20 = .ok (.astore 7, 2) := by decide +kernel
theorem dL_table_22 : decode cL_table 22 = .ok (.iconst 2, 1) := by decide +kernel
theorem dL_table_23 : decode cL_table 23 = .ok (.ireturn, 1) := by decide +kernel
theorem dL_table_24 : decode cL_table 24 = .ok (.astore 7, 2) := by decide +kernel
theorem dL_table_26 : decode cL_table 26 = .ok (.iconst 3, 1) := by decide +kernel
theorem dL_table_27 : decode cL_table 27 = .ok (.ireturn, 1) := by decide +kernel
theorem dL_table_28 : decode cL_table 28 = .ok (.iconst 0, 1) := by decide +kernel
theorem dL_table_29 : decode cL_table 29 = .ok (.ireturn, 1) := by decide +kernel
theorem dL_radius_0 : decode cL_radius 0 = .ok (.aload 4, 2) := by decide +kernel
theorem dL_radius_2 : decode cL_radius 2 = .ok (.iconst 0, 1) := by decide +kernel
theorem dL_radius_3 : decode cL_radius 3 = .ok (.aload_n 0, 1) := by decide +kernel
theorem dL_radius_4 : decode cL_radius 4 = .ok (.iload_n 1, 1) := by decide +kernel
theorem dL_radius_5 : decode cL_radius 5 = .ok (.dload_n 2, 1) := by decide +kernel
theorem dL_radius_6 : decode cL_radius 6 = .ok (.invokevirtual 19, 3) := by decide +kernel
theorem dL_radius_9 : decode cL_radius 9 = .ok (.dastore, 1) := by decide +kernel
theorem dL_radius_10 : decode cL_radius 10 = .ok (.goto 15, 3) := by decide +kernel
theorem dL_radius_13 : decode cL_radius 13 = .ok (.astore 5, 2) := by decide +kernel
theorem dL_radius_15 : decode cL_radius 15 = .ok (.iconst 1, 1) := by decide +kernel
theorem dL_radius_16 : decode cL_radius 16 = .ok (.ireturn, 1) := by decide +kernel
theorem dL_radius_17 : decode cL_radius 17 = .ok (.astore 5, 2) := by decide +kernel
theorem dL_radius_19 : decode cL_radius 19 = .ok (.iconst 2, 1) := by decide +kernel
theorem dL_radius_20 : decode cL_radius 20 = .ok (.ireturn, 1) := by decide +kernel
theorem dL_radius_21 : decode cL_radius 21 = .ok (.astore 5, 2) := by decide +kernel
theorem dL_radius_23 : decode cL_radius 23 = .ok (.iconst 3, 1) := by decide +kernel
theorem dL_radius_24 : decode cL_radius 24 = .ok (.ireturn, 1) := by decide +kernel
theorem dL_radius_25 : decode cL_radius 25 = .ok (.iconst 0, 1) := by decide +kernel
theorem dL_radius_26 : decode cL_radius 26 = .ok (.ireturn, 1) := by decide +kernel
theorem dL_strips_0 : decode cL_strips 0 = .ok (.aload 6, 2) := by decide +kernel
theorem dL_strips_2 : decode cL_strips 2 = .ok (.iconst 0, 1) := by decide +kernel
theorem dL_strips_3 : decode cL_strips 3 = .ok (.aload_n 0, 1) := by decide +kernel
theorem dL_strips_4 : decode cL_strips 4 = .ok (.iload_n 1, 1) := by decide +kernel
theorem dL_strips_5 : decode cL_strips 5 = .ok (.dload_n 2, 1) := by decide +kernel
theorem dL_strips_6 : decode cL_strips 6 = .ok (.dload 4, 2) := by decide +kernel
theorem dL_strips_8 : decode cL_strips 8 = .ok (.invokevirtual 23, 3) := by decide +kernel
theorem dL_strips_11 : decode cL_strips 11 = .ok (.i2l, 1) := by decide +kernel
theorem dL_strips_12 : decode cL_strips 12 = .ok (.lastore, 1) := by decide +kernel
theorem dL_strips_13 : decode cL_strips 13 = .ok (.goto 11, 3) := by decide +kernel
theorem dL_strips_16 : decode cL_strips 16 = .ok (.astore 7, 2) := by decide +kernel
theorem dL_strips_18 : decode cL_strips 18 = .ok (.iconst 1, 1) := by decide +kernel
theorem dL_strips_19 : decode cL_strips 19 = .ok (.ireturn, 1) := by decide +kernel
theorem dL_strips_20 : decode cL_strips 20 = .ok (.astore 7, 2) := by decide +kernel
theorem dL_strips_22 : decode cL_strips 22 = .ok (.iconst 2, 1) := by decide +kernel
theorem dL_strips_23 : decode cL_strips 23 = .ok (.ireturn, 1) := by decide +kernel
theorem dL_strips_24 : decode cL_strips 24 = .ok (.iconst 0, 1) := by decide +kernel
theorem dL_strips_25 : decode cL_strips 25 = .ok (.ireturn, 1) := by decide +kernel
theorem dL_read_0 : decode cL_read 0 = .ok (.aload 6, 2) := by decide +kernel
theorem dL_read_2 : decode cL_read 2 = .ok (.iconst 0, 1) := by decide +kernel
theorem dL_read_3 : decode cL_read 3 = .ok (.aload_n 0, 1) := by decide +kernel
theorem dL_read_4 : decode cL_read 4 = .ok (.iload_n 1, 1) := by decide +kernel
theorem dL_read_5 : decode cL_read 5 = .ok (.dload_n 2, 1) := by decide +kernel
theorem dL_read_6 : decode cL_read 6 = .ok (.dload 4, 2) := by decide +kernel
theorem dL_read_8 : decode cL_read 8 = .ok (.invokevirtual 26, 3) := by decide +kernel
theorem dL_read_11 : decode cL_read 11 = .ok (.i2l, 1) := by decide +kernel
theorem dL_read_12 : decode cL_read 12 = .ok (.lastore, 1) := by decide +kernel
theorem dL_read_13 : decode cL_read 13 = .ok (.goto 15, 3) := by decide +kernel
theorem dL_read_16 : decode cL_read 16 = .ok (.astore 7, 2) := by decide +kernel
theorem dL_read_18 : decode cL_read 18 = .ok (.iconst 1, 1) := by decide +kernel
theorem dL_read_19 : decode cL_read 19 = .ok (.ireturn, 1) := by decide +kernel
theorem dL_read_20 : decode cL_read 20 = .ok (.astore 7, 2) := by decide +kernel
theorem dL_read_22 : decode cL_read 22 = .ok (.iconst 2, 1) := by decide +kernel
theorem dL_read_23 : decode cL_read 23 = .ok (.ireturn, 1) := by decide +kernel
theorem dL_read_24 : decode cL_read 24 = .ok (.astore 7, 2) := by decide +kernel
theorem dL_read_26 : decode cL_read 26 = .ok (.iconst 3, 1) := by decide +kernel
theorem dL_read_27 : decode cL_read 27 = .ok (.ireturn, 1) := by decide +kernel
theorem dL_read_28 : decode cL_read 28 = .ok (.iconst 0, 1) := by decide +kernel
theorem dL_read_29 : decode cL_read 29 = .ok (.ireturn, 1) := by decide +kernel
theorem dL_fit_0 : decode cL_fit 0 = .ok (.aload_n 3, 1) := by decide +kernel
theorem dL_fit_1 : decode cL_fit 1 = .ok (.iconst 0, 1) := by decide +kernel
theorem dL_fit_2 : decode cL_fit 2 = .ok (.aload_n 0, 1) := by decide +kernel
theorem dL_fit_3 : decode cL_fit 3 = .ok (.iload_n 1, 1) := by decide +kernel
theorem dL_fit_4 : decode cL_fit 4 = .ok (.iload_n 2, 1) := by decide +kernel
theorem dL_fit_5 : decode cL_fit 5 = .ok (.invokevirtual 29, 3) := by decide +kernel
theorem dL_fit_8 : decode cL_fit 8 = .ok (.i2l, 1) := by decide +kernel
theorem dL_fit_9 : decode cL_fit 9 = .ok (.lastore, 1) := by decide +kernel
theorem dL_fit_10 : decode cL_fit 10 = .ok (.goto 11, 3) := by decide +kernel
theorem dL_fit_13 : decode cL_fit 13 = .ok (.astore 4, 2) := by decide +kernel
theorem dL_fit_15 : decode cL_fit 15 = .ok (.iconst 1, 1) := by decide +kernel
theorem dL_fit_16 : decode cL_fit 16 = .ok (.ireturn, 1) := by decide +kernel
theorem dL_fit_17 : decode cL_fit 17 = .ok (.astore 4, 2) := by decide +kernel
theorem dL_fit_19 : decode cL_fit 19 = .ok (.iconst 2, 1) := by decide +kernel
theorem dL_fit_20 : decode cL_fit 20 = .ok (.ireturn, 1) := by decide +kernel
theorem dL_fit_21 : decode cL_fit 21 = .ok (.iconst 0, 1) := by decide +kernel
theorem dL_fit_22 : decode cL_fit 22 = .ok (.ireturn, 1) := by decide +kernel
theorem dL_back_0 : decode cL_back 0 = .ok (.aload_n 3, 1) := by decide +kernel
theorem dL_back_1 : decode cL_back 1 = .ok (.iconst 0, 1) := by decide +kernel
theorem dL_back_2 : decode cL_back 2 = .ok (.aload_n 0, 1) := by decide +kernel
theorem dL_back_3 : decode cL_back 3 = .ok (.iload_n 1, 1) := by decide +kernel
theorem dL_back_4 : decode cL_back 4 = .ok (.iload_n 2, 1) := by decide +kernel
theorem dL_back_5 : decode cL_back 5 = .ok (.invokevirtual 33, 3) := by decide +kernel
theorem dL_back_8 : decode cL_back 8 = .ok (.dastore, 1) := by decide +kernel
theorem dL_back_9 : decode cL_back 9 = .ok (.goto 7, 3) := by decide +kernel
theorem dL_back_12 : decode cL_back 12 = .ok (.astore 4, 2) := by decide +kernel
theorem dL_back_14 : decode cL_back 14 = .ok (.iconst 1, 1) := by decide +kernel
theorem dL_back_15 : decode cL_back 15 = .ok (.ireturn, 1) := by decide +kernel
theorem dL_back_16 : decode cL_back 16 = .ok (.iconst 0, 1) := by decide +kernel
theorem dL_back_17 : decode cL_back 17 = .ok (.ireturn, 1) := by decide +kernel
theorem dL_form_0 : decode cL_form 0 = .ok (.aload 4, 2) := by decide +kernel
theorem dL_form_2 : decode cL_form 2 = .ok (.iconst 0, 1) := by decide +kernel
theorem dL_form_3 : decode cL_form 3 = .ok (.aload_n 0, 1) := by decide +kernel
theorem dL_form_4 : decode cL_form 4 = .ok (.iload_n 1, 1) := by decide +kernel
theorem dL_form_5 : decode cL_form 5 = .ok (.dload_n 2, 1) := by decide +kernel
theorem dL_form_6 : decode cL_form 6 = .ok (.invokevirtual 37, 3) := by decide +kernel
theorem dL_form_9 : decode cL_form 9 = .ok (.dastore, 1) := by decide +kernel
theorem dL_form_10 : decode cL_form 10 = .ok (.goto 11, 3) := by decide +kernel
theorem dL_form_13 : decode cL_form 13 = .ok (.astore 5, 2) := by decide +kernel
theorem dL_form_15 : decode cL_form 15 = .ok (.iconst 1, 1) := by decide +kernel
theorem dL_form_16 : decode cL_form 16 = .ok (.ireturn, 1) := by decide +kernel
theorem dL_form_17 : decode cL_form 17 = .ok (.astore 5, 2) := by decide +kernel
theorem dL_form_19 : decode cL_form 19 = .ok (.iconst 2, 1) := by decide +kernel
theorem dL_form_20 : decode cL_form 20 = .ok (.ireturn, 1) := by decide +kernel
theorem dL_form_21 : decode cL_form 21 = .ok (.iconst 0, 1) := by decide +kernel
theorem dL_form_22 : decode cL_form 22 = .ok (.ireturn, 1) := by decide +kernel
theorem dL_minutes_0 : decode cL_minutes 0 = .ok (.aload_n 3, 1) := by decide +kernel
theorem dL_minutes_1 : decode cL_minutes 1 = .ok (.iconst 0, 1) := by decide +kernel
theorem dL_minutes_2 : decode cL_minutes 2 = .ok (.aload_n 0, 1) := by decide +kernel
theorem dL_minutes_3 : decode cL_minutes 3 = .ok (.dload_n 1, 1) := by decide +kernel
theorem dL_minutes_4 : decode cL_minutes 4 = .ok (.invokevirtual 40, 3) := by decide +kernel
theorem dL_minutes_7 : decode cL_minutes 7 = .ok (.dastore, 1) := by decide +kernel
theorem dL_minutes_8 : decode cL_minutes 8 = .ok (.goto 7, 3) := by decide +kernel
theorem dL_minutes_11 : decode cL_minutes 11 = .ok (.astore 4, 2) := by decide +kernel
theorem dL_minutes_13 : decode cL_minutes 13 = .ok (.iconst 1, 1) := by decide +kernel
theorem dL_minutes_14 : decode cL_minutes 14 = .ok (.ireturn, 1) := by decide +kernel
theorem dL_minutes_15 : decode cL_minutes 15 = .ok (.iconst 0, 1) := by decide +kernel
theorem dL_minutes_16 : decode cL_minutes 16 = .ok (.ireturn, 1) := by decide +kernel
theorem dL_piece_0 : decode cL_piece 0 = .ok (.aload 5, 2) := by decide +kernel
theorem dL_piece_2 : decode cL_piece 2 = .ok (.iconst 0, 1) := by decide +kernel
theorem dL_piece_3 : decode cL_piece 3 = .ok (.aload_n 0, 1) := by decide +kernel
theorem dL_piece_4 : decode cL_piece 4 = .ok (.dload_n 1, 1) := by decide +kernel
theorem dL_piece_5 : decode cL_piece 5 = .ok (.dload_n 3, 1) := by decide +kernel
theorem dL_piece_6 : decode cL_piece 6 = .ok (.invokevirtual 44, 3) := by decide +kernel
theorem dL_piece_9 : decode cL_piece 9 = .ok (.i2l, 1) := by decide +kernel
theorem dL_piece_10 : decode cL_piece 10 = .ok (.lastore, 1) := by decide +kernel
theorem dL_piece_11 : decode cL_piece 11 = .ok (.goto 11, 3) := by decide +kernel
theorem dL_piece_14 : decode cL_piece 14 = .ok (.astore 6, 2) := by decide +kernel
theorem dL_piece_16 : decode cL_piece 16 = .ok (.iconst 1, 1) := by decide +kernel
theorem dL_piece_17 : decode cL_piece 17 = .ok (.ireturn, 1) := by decide +kernel
theorem dL_piece_18 : decode cL_piece 18 = .ok (.astore 6, 2) := by decide +kernel
theorem dL_piece_20 : decode cL_piece 20 = .ok (.iconst 2, 1) := by decide +kernel
theorem dL_piece_21 : decode cL_piece 21 = .ok (.ireturn, 1) := by decide +kernel
theorem dL_piece_22 : decode cL_piece 22 = .ok (.iconst 0, 1) := by decide +kernel
theorem dL_piece_23 : decode cL_piece 23 = .ok (.ireturn, 1) := by decide +kernel
theorem dL_length_0 : decode cL_length 0 = .ok (.aload 4, 2) := by decide +kernel
theorem dL_length_2 : decode cL_length 2 = .ok (.iconst 0, 1) := by decide +kernel
theorem dL_length_3 : decode cL_length 3 = .ok (.aload_n 0, 1) := by decide +kernel
theorem dL_length_4 : decode cL_length 4 = .ok (.iload_n 1, 1) := by decide +kernel
theorem dL_length_5 : decode cL_length 5 = .ok (.dload_n 2, 1) := by decide +kernel
theorem dL_length_6 : decode cL_length 6 = .ok (.invokevirtual 48, 3) := by decide +kernel
theorem dL_length_9 : decode cL_length 9 = .ok (.dastore, 1) := by decide +kernel
theorem dL_length_10 : decode cL_length 10 = .ok (.goto 7, 3) := by decide +kernel
theorem dL_length_13 : decode cL_length 13 = .ok (.astore 5, 2) := by decide +kernel
theorem dL_length_15 : decode cL_length 15 = .ok (.iconst 1, 1) := by decide +kernel
theorem dL_length_16 : decode cL_length 16 = .ok (.ireturn, 1) := by decide +kernel
theorem dL_length_17 : decode cL_length 17 = .ok (.iconst 0, 1) := by decide +kernel
theorem dL_length_18 : decode cL_length 18 = .ok (.ireturn, 1) := by decide +kernel
theorem dL_kerfs_0 : decode cL_kerfs 0 = .ok (.aload 9, 2) := by decide +kernel
theorem dL_kerfs_2 : decode cL_kerfs 2 = .ok (.iconst 0, 1) := by decide +kernel
theorem dL_kerfs_3 : decode cL_kerfs 3 = .ok (.aload_n 0, 1) := by decide +kernel
theorem dL_kerfs_4 : decode cL_kerfs 4 = .ok (.dload_n 1, 1) := by decide +kernel
theorem dL_kerfs_5 : decode cL_kerfs 5 = .ok (.dload_n 3, 1) := by decide +kernel
theorem dL_kerfs_6 : decode cL_kerfs 6 = .ok (.dload 5, 2) := by decide +kernel
theorem dL_kerfs_8 : decode cL_kerfs 8 = .ok (.dload 7, 2) := by decide +kernel
theorem dL_kerfs_10 : decode cL_kerfs 10 = .ok (.invokevirtual 52, 3) := by decide +kernel
theorem dL_kerfs_13 : decode cL_kerfs 13 = .ok (.i2l, 1) := by decide +kernel
theorem dL_kerfs_14 : decode cL_kerfs 14 = .ok (.lastore, 1) := by decide +kernel
theorem dL_kerfs_15 : decode cL_kerfs 15 = .ok (.goto 7, 3) := by decide +kernel
theorem dL_kerfs_18 : decode cL_kerfs 18 = .ok (.astore 10, 2) := by decide +kernel
theorem dL_kerfs_20 : decode cL_kerfs 20 = .ok (.iconst 1, 1) := by decide +kernel
theorem dL_kerfs_21 : decode cL_kerfs 21 = .ok (.ireturn, 1) := by decide +kernel
theorem dL_kerfs_22 : decode cL_kerfs 22 = .ok (.iconst 0, 1) := by decide +kernel
theorem dL_kerfs_23 : decode cL_kerfs 23 = .ok (.ireturn, 1) := by decide +kernel
theorem dL_kerfAt_0 : decode cL_kerfAt 0 = .ok (.aload 4, 2) := by decide +kernel
theorem dL_kerfAt_2 : decode cL_kerfAt 2 = .ok (.iconst 0, 1) := by decide +kernel
theorem dL_kerfAt_3 : decode cL_kerfAt 3 = .ok (.aload_n 0, 1) := by decide +kernel
theorem dL_kerfAt_4 : decode cL_kerfAt 4 = .ok (.iload_n 1, 1) := by decide +kernel
theorem dL_kerfAt_5 : decode cL_kerfAt 5 = .ok (.dload_n 2, 1) := by decide +kernel
theorem dL_kerfAt_6 : decode cL_kerfAt 6 = .ok (.invokevirtual 56, 3) := by decide +kernel
theorem dL_kerfAt_9 : decode cL_kerfAt 9 = .ok (.dastore, 1) := by decide +kernel
theorem dL_kerfAt_10 : decode cL_kerfAt 10 = .ok (.goto 15, 3) := by decide +kernel
theorem dL_kerfAt_13 : decode cL_kerfAt 13 = .ok (.astore 5, 2) := by decide +kernel
theorem dL_kerfAt_15 : decode cL_kerfAt 15 = .ok (.iconst 1, 1) := by decide +kernel
theorem dL_kerfAt_16 : decode cL_kerfAt 16 = .ok (.ireturn, 1) := by decide +kernel
theorem dL_kerfAt_17 : decode cL_kerfAt 17 = .ok (.astore 5, 2) := by decide +kernel
theorem dL_kerfAt_19 : decode cL_kerfAt 19 = .ok (.iconst 2, 1) := by decide +kernel
theorem dL_kerfAt_20 : decode cL_kerfAt 20 = .ok (.ireturn, 1) := by decide +kernel
theorem dL_kerfAt_21 : decode cL_kerfAt 21 = .ok (.astore 5, 2) := by decide +kernel
theorem dL_kerfAt_23 : decode cL_kerfAt 23 = .ok (.iconst 3, 1) := by decide +kernel
theorem dL_kerfAt_24 : decode cL_kerfAt 24 = .ok (.ireturn, 1) := by decide +kernel
theorem dL_kerfAt_25 : decode cL_kerfAt 25 = .ok (.iconst 0, 1) := by decide +kernel
theorem dL_kerfAt_26 : decode cL_kerfAt 26 = .ok (.ireturn, 1) := by decide +kernel
theorem dL_rest_0 : decode cL_rest 0 = .ok (.aload_n 1, 1) := by decide +kernel
theorem dL_rest_1 : decode cL_rest 1 = .ok (.iconst 0, 1) := by decide +kernel
theorem dL_rest_2 : decode cL_rest 2 = .ok (.aload_n 0, 1) := by decide +kernel
theorem dL_rest_3 : decode cL_rest 3 = .ok (.invokevirtual 59, 3) := by decide +kernel
theorem dL_rest_6 : decode cL_rest 6 = .ok (.dastore, 1) := by decide +kernel
theorem dL_rest_7 : decode cL_rest 7 = .ok (.goto 6, 3) := by decide +kernel
theorem dL_rest_10 : decode cL_rest 10 = .ok (.astore_n 2, 1) := by decide +kernel
theorem dL_rest_11 : decode cL_rest 11 = .ok (.iconst 1, 1) := by decide +kernel
theorem dL_rest_12 : decode cL_rest 12 = .ok (.ireturn, 1) := by decide +kernel
theorem dL_rest_13 : decode cL_rest 13 = .ok (.iconst 0, 1) := by decide +kernel
theorem dL_rest_14 : decode cL_rest 14 = .ok (.ireturn, 1) := by decide +kernel
theorem dL_broken_0 : decode cL_broken 0 = .ok (.aload 4, 2) := by decide +kernel
theorem dL_broken_2 : decode cL_broken 2 = .ok (.iconst 0, 1) := by decide +kernel
theorem dL_broken_3 : decode cL_broken 3 = .ok (.aload_n 0, 1) := by decide +kernel
theorem dL_broken_4 : decode cL_broken 4 = .ok (.iload_n 1, 1) := by decide +kernel
theorem dL_broken_5 : decode cL_broken 5 = .ok (.iload_n 2, 1) := by decide +kernel
theorem dL_broken_6 : decode cL_broken 6 = .ok (.iload_n 3, 1) := by decide +kernel
theorem dL_broken_7 : decode cL_broken 7 = .ok (.invokevirtual 63, 3) := by decide +kernel
theorem dL_broken_10 : decode cL_broken 10 = .ok (.lastore, 1) := by decide +kernel
theorem dL_broken_11 : decode cL_broken 11 = .ok (.goto 11, 3) := by decide +kernel
theorem dL_broken_14 : decode cL_broken 14 = .ok (.astore 5, 2) := by decide +kernel
theorem dL_broken_16 : decode cL_broken 16 = .ok (.iconst 1, 1) := by decide +kernel
theorem dL_broken_17 : decode cL_broken 17 = .ok (.ireturn, 1) := by decide +kernel
theorem dL_broken_18 : decode cL_broken 18 = .ok (.astore 5, 2) := by decide +kernel
theorem dL_broken_20 : decode cL_broken 20 = .ok (.iconst 2, 1) := by decide +kernel
theorem dL_broken_21 : decode cL_broken 21 = .ok (.ireturn, 1) := by decide +kernel
theorem dL_broken_22 : decode cL_broken 22 = .ok (.iconst 0, 1) := by decide +kernel
theorem dL_broken_23 : decode cL_broken 23 = .ok (.ireturn, 1) := by decide +kernel
theorem dL_relaxed_0 : decode cL_relaxed 0 = .ok (.aload_n 3, 1) := by decide +kernel
theorem dL_relaxed_1 : decode cL_relaxed 1 = .ok (.iconst 0, 1) := by decide +kernel
theorem dL_relaxed_2 : decode cL_relaxed 2 = .ok (.aload_n 0, 1) := by decide +kernel
theorem dL_relaxed_3 : decode cL_relaxed 3 = .ok (.iload_n 1, 1) := by decide +kernel
theorem dL_relaxed_4 : decode cL_relaxed 4 = .ok (.iload_n 2, 1) := by decide +kernel
theorem dL_relaxed_5 : decode cL_relaxed 5 = .ok (.invokevirtual 67, 3) := by decide +kernel
theorem dL_relaxed_8 : decode cL_relaxed 8 = .ok (.dastore, 1) := by decide +kernel
theorem dL_relaxed_9 : decode cL_relaxed 9 = .ok (.goto 11, 3) := by decide +kernel
theorem dL_relaxed_12 : decode cL_relaxed 12 = .ok (.astore 4, 2) := by decide +kernel
theorem dL_relaxed_14 : decode cL_relaxed 14 = .ok (.iconst 1, 1) := by decide +kernel
theorem dL_relaxed_15 : decode cL_relaxed 15 = .ok (.ireturn, 1) := by decide +kernel
theorem dL_relaxed_16 : decode cL_relaxed 16 = .ok (.astore 4, 2) := by decide +kernel
theorem dL_relaxed_18 : decode cL_relaxed 18 = .ok (.iconst 2, 1) := by decide +kernel
theorem dL_relaxed_19 : decode cL_relaxed 19 = .ok (.ireturn, 1) := by decide +kernel
theorem dL_relaxed_20 : decode cL_relaxed 20 = .ok (.iconst 0, 1) := by decide +kernel
theorem dL_relaxed_21 : decode cL_relaxed 21 = .ok (.ireturn, 1) := by decide +kernel
theorem dL_law_0 : decode cL_law 0 = .ok (.new 8, 3) := by decide +kernel
theorem dL_law_3 : decode cL_law 3 = .ok (.dup, 1) := by decide +kernel
theorem dL_law_4 : decode cL_law 4 = .ok (.invokespecial 70, 3) := by decide +kernel
theorem dL_law_7 : decode cL_law 7 = .ok (.astore_n 1, 1) := by decide +kernel
theorem dL_law_8 : decode cL_law 8 = .ok (.new 71, 3) := by decide +kernel
theorem dL_law_11 : decode cL_law 11 = .ok (.dup, 1) := by decide +kernel
theorem dL_law_12 : decode cL_law 12 = .ok (.invokespecial 73, 3) := by decide +kernel
theorem dL_law_15 : decode cL_law 15 = .ok (.astore_n 2, 1) := by decide +kernel
theorem dL_law_16 : decode cL_law 16 = .ok (.iconst 1, 1) := by decide +kernel
theorem dL_law_17 : decode cL_law 17 = .ok (.newarray .long, 2) := by decide +kernel
theorem dL_law_19 : decode cL_law 19 = .ok (.astore_n 3, 1) := by decide +kernel
theorem dL_law_20 : decode cL_law 20 = .ok (.iconst 1, 1) := by decide +kernel
theorem dL_law_21 : decode cL_law 21 = .ok (.newarray .double, 2) := by decide +kernel
theorem dL_law_23 : decode cL_law 23 = .ok (.astore 4, 2) := by decide +kernel
theorem dL_law_25 : decode cL_law 25 = .ok (.iconst 0, 1) := by decide +kernel
theorem dL_law_26 : decode cL_law 26 = .ok (.istore 5, 2) := by decide +kernel
theorem dL_law_28 : decode cL_law 28 = .ok (.iload 5, 2) := by decide +kernel
theorem dL_law_30 : decode cL_law 30 = .ok (.aload_n 0, 1) := by decide +kernel
theorem dL_law_31 : decode cL_law 31 = .ok (.arraylength, 1) := by decide +kernel
theorem dL_law_32 : decode cL_law 32 = .ok (.iconst 5, 1) := by decide +kernel
theorem dL_law_33 : decode cL_law 33 = .ok (.isub, 1) := by decide +kernel
theorem dL_law_34 : decode cL_law 34 = .ok (.if_icmp .gt 1516, 3) := by decide +kernel
theorem dL_law_37 : decode cL_law 37 = .ok (.aload_n 0, 1) := by decide +kernel
theorem dL_law_38 : decode cL_law 38 = .ok (.iload 5, 2) := by decide +kernel
theorem dL_law_40 : decode cL_law 40 = .ok (.iaload, 1) := by decide +kernel
theorem dL_law_41 : decode cL_law 41 = .ok (.bipush 15, 2) := by decide +kernel
theorem dL_law_43 : decode cL_law 43 = .ok (.iand, 1) := by decide +kernel
theorem dL_law_44 : decode cL_law 44 = .ok (.tableswitch 1500 0 15 #[80, 180, 279, 379, 479, 547, 636, 735, 822, 910, 921, 1036, 1168, 1267, 1332, 1411], 80) := by decide +kernel
theorem dL_law_124 : decode cL_law 124 = .ok (.aload_n 1, 1) := by decide +kernel
theorem dL_law_125 : decode cL_law 125 = .ok (.aload_n 0, 1) := by decide +kernel
theorem dL_law_126 : decode cL_law 126 = .ok (.iload 5, 2) := by decide +kernel
theorem dL_law_128 : decode cL_law 128 = .ok (.iconst 1, 1) := by decide +kernel
theorem dL_law_129 : decode cL_law 129 = .ok (.iadd, 1) := by decide +kernel
theorem dL_law_130 : decode cL_law 130 = .ok (.iaload, 1) := by decide +kernel
theorem dL_law_131 : decode cL_law 131 = .ok (.aload_n 0, 1) := by decide +kernel
theorem dL_law_132 : decode cL_law 132 = .ok (.iload 5, 2) := by decide +kernel
theorem dL_law_134 : decode cL_law 134 = .ok (.iconst 2, 1) := by decide +kernel
theorem dL_law_135 : decode cL_law 135 = .ok (.iadd, 1) := by decide +kernel
theorem dL_law_136 : decode cL_law 136 = .ok (.iaload, 1) := by decide +kernel
theorem dL_law_137 : decode cL_law 137 = .ok (.i2d, 1) := by decide +kernel
theorem dL_law_138 : decode cL_law 138 = .ok (.ldc2_w 74, 3) := by decide +kernel
theorem dL_law_141 : decode cL_law 141 = .ok (.dmul, 1) := by decide +kernel
theorem dL_law_142 : decode cL_law 142 = .ok (.aload_n 0, 1) := by decide +kernel
theorem dL_law_143 : decode cL_law 143 = .ok (.iload 5, 2) := by decide +kernel
theorem dL_law_145 : decode cL_law 145 = .ok (.iconst 3, 1) := by decide +kernel
theorem dL_law_146 : decode cL_law 146 = .ok (.iadd, 1) := by decide +kernel
theorem dL_law_147 : decode cL_law 147 = .ok (.iaload, 1) := by decide +kernel
theorem dL_law_148 : decode cL_law 148 = .ok (.i2d, 1) := by decide +kernel
theorem dL_law_149 : decode cL_law 149 = .ok (.ldc2_w 74, 3) := by decide +kernel
theorem dL_law_152 : decode cL_law 152 = .ok (.dmul, 1) := by decide +kernel
theorem dL_law_153 : decode cL_law 153 = .ok (.aload_n 3, 1) := by decide +kernel
theorem dL_law_154 : decode cL_law 154 = .ok (.invokestatic 76, 3) := by decide +kernel
theorem dL_law_157 : decode cL_law 157 = .ok (.istore 6, 2) := by decide +kernel
theorem dL_law_159 : decode cL_law 159 = .ok (.aload_n 2, 1) := by decide +kernel
theorem dL_law_160 : decode cL_law 160 = .ok (.aload_n 0, 1) := by decide +kernel
theorem dL_law_161 : decode cL_law 161 = .ok (.iload 5, 2) := by decide +kernel
theorem dL_law_163 : decode cL_law 163 = .ok (.iconst 1, 1) := by decide +kernel
theorem dL_law_164 : decode cL_law 164 = .ok (.iadd, 1) := by decide +kernel
theorem dL_law_165 : decode cL_law 165 = .ok (.iaload, 1) := by decide +kernel
theorem dL_law_166 : decode cL_law 166 = .ok (.aload_n 0, 1) := by decide +kernel
theorem dL_law_167 : decode cL_law 167 = .ok (.iload 5, 2) := by decide +kernel
theorem dL_law_169 : decode cL_law 169 = .ok (.iconst 2, 1) := by decide +kernel
theorem dL_law_170 : decode cL_law 170 = .ok (.iadd, 1) := by decide +kernel
theorem dL_law_171 : decode cL_law 171 = .ok (.iaload, 1) := by decide +kernel
theorem dL_law_172 : decode cL_law 172 = .ok (.i2d, 1) := by decide +kernel
theorem dL_law_173 : decode cL_law 173 = .ok (.ldc2_w 74, 3) := by decide +kernel
theorem dL_law_176 : decode cL_law 176 = .ok (.dmul, 1) := by decide +kernel
theorem dL_law_177 : decode cL_law 177 = .ok (.aload_n 0, 1) := by decide +kernel
theorem dL_law_178 : decode cL_law 178 = .ok (.iload 5, 2) := by decide +kernel
theorem dL_law_180 : decode cL_law 180 = .ok (.iconst 3, 1) := by decide +kernel
theorem dL_law_181 : decode cL_law 181 = .ok (.iadd, 1) := by decide +kernel
theorem dL_law_182 : decode cL_law 182 = .ok (.iaload, 1) := by decide +kernel
theorem dL_law_183 : decode cL_law 183 = .ok (.i2d, 1) := by decide +kernel
theorem dL_law_184 : decode cL_law 184 = .ok (.ldc2_w 74, 3) := by decide +kernel
theorem dL_law_187 : decode cL_law 187 = .ok (.dmul, 1) := by decide +kernel
theorem dL_law_188 : decode cL_law 188 = .ok (.invokevirtual 81, 3) := by decide +kernel
theorem dL_law_191 : decode cL_law 191 = .ok (.istore 7, 2) := by decide +kernel
theorem dL_law_193 : decode cL_law 193 = .ok (.aload_n 2, 1) := by decide +kernel
theorem dL_law_194 : decode cL_law 194 = .ok (.invokevirtual 82, 3) := by decide +kernel
theorem dL_law_197 : decode cL_law 197 = .ok (.iload 6, 2) := by decide +kernel
theorem dL_law_199 : decode cL_law 199 = .ok (.if_icmp .eq 5, 3) := by decide +kernel
theorem dL_law_202 : decode cL_law 202 = .ok (.iconst 0, 1) := by decide +kernel
theorem dL_law_203 : decode cL_law 203 = .ok (.ireturn, 1) := by decide +kernel
theorem dL_law_204 : decode cL_law 204 = .ok (.iload 6, 2) := by decide +kernel
theorem dL_law_206 : decode cL_law 206 = .ok (.ifCond .ne 15, 3) := by decide +kernel
theorem dL_law_209 : decode cL_law 209 = .ok (.aload_n 3, 1) := by decide +kernel
theorem dL_law_210 : decode cL_law 210 = .ok (.iconst 0, 1) := by decide +kernel
theorem dL_law_211 : decode cL_law 211 = .ok (.laload, 1) := by decide +kernel
theorem dL_law_212 : decode cL_law 212 = .ok (.iload 7, 2) := by decide +kernel
theorem dL_law_214 : decode cL_law 214 = .ok (.i2l, 1) := by decide +kernel
theorem dL_law_215 : decode cL_law 215 = .ok (.lcmp, 1) := by decide +kernel
theorem dL_law_216 : decode cL_law 216 = .ok (.ifCond .eq 5, 3) := by decide +kernel
theorem dL_law_219 : decode cL_law 219 = .ok (.iconst 0, 1) := by decide +kernel
theorem dL_law_220 : decode cL_law 220 = .ok (.ireturn, 1) := by decide +kernel
theorem dL_law_221 : decode cL_law 221 = .ok (.goto 1323, 3) := by decide +kernel
theorem dL_law_224 : decode cL_law 224 = .ok (.aload_n 1, 1) := by decide +kernel
theorem dL_law_225 : decode cL_law 225 = .ok (.aload_n 0, 1) := by decide +kernel
theorem dL_law_226 : decode cL_law 226 = .ok (.iload 5, 2) := by decide +kernel
theorem dL_law_228 : decode cL_law 228 = .ok (.iconst 1, 1) := by decide +kernel
theorem dL_law_229 : decode cL_law 229 = .ok (.iadd, 1) := by decide +kernel
theorem dL_law_230 : decode cL_law 230 = .ok (.iaload, 1) := by decide +kernel
theorem dL_law_231 : decode cL_law 231 = .ok (.aload_n 0, 1) := by decide +kernel
theorem dL_law_232 : decode cL_law 232 = .ok (.iload 5, 2) := by decide +kernel
theorem dL_law_234 : decode cL_law 234 = .ok (.iconst 2, 1) := by decide +kernel
theorem dL_law_235 : decode cL_law 235 = .ok (.iadd, 1) := by decide +kernel
theorem dL_law_236 : decode cL_law 236 = .ok (.iaload, 1) := by decide +kernel
theorem dL_law_237 : decode cL_law 237 = .ok (.i2d, 1) := by decide +kernel
theorem dL_law_238 : decode cL_law 238 = .ok (.ldc2_w 74, 3) := by decide +kernel
theorem dL_law_241 : decode cL_law 241 = .ok (.dmul, 1) := by decide +kernel
theorem dL_law_242 : decode cL_law 242 = .ok (.aload 4, 2) := by decide +kernel
theorem dL_law_244 : decode cL_law 244 = .ok (.invokestatic 86, 3) := by decide +kernel
theorem dL_law_247 : decode cL_law 247 = .ok (.istore 6, 2) := by decide +kernel
theorem dL_law_249 : decode cL_law 249 = .ok (.aload_n 2, 1) := by decide +kernel
theorem dL_law_250 : decode cL_law 250 = .ok (.aload_n 0, 1) := by decide +kernel
theorem dL_law_251 : decode cL_law 251 = .ok (.iload 5, 2) := by decide +kernel
theorem dL_law_253 : decode cL_law 253 = .ok (.iconst 1, 1) := by decide +kernel
theorem dL_law_254 : decode cL_law 254 = .ok (.iadd, 1) := by decide +kernel
theorem dL_law_255 : decode cL_law 255 = .ok (.iaload, 1) := by decide +kernel
theorem dL_law_256 : decode cL_law 256 = .ok (.aload_n 0, 1) := by decide +kernel
theorem dL_law_257 : decode cL_law 257 = .ok (.iload 5, 2) := by decide +kernel
theorem dL_law_259 : decode cL_law 259 = .ok (.iconst 2, 1) := by decide +kernel
theorem dL_law_260 : decode cL_law 260 = .ok (.iadd, 1) := by decide +kernel
theorem dL_law_261 : decode cL_law 261 = .ok (.iaload, 1) := by decide +kernel
theorem dL_law_262 : decode cL_law 262 = .ok (.i2d, 1) := by decide +kernel
theorem dL_law_263 : decode cL_law 263 = .ok (.ldc2_w 74, 3) := by decide +kernel
theorem dL_law_266 : decode cL_law 266 = .ok (.dmul, 1) := by decide +kernel
theorem dL_law_267 : decode cL_law 267 = .ok (.invokevirtual 89, 3) := by decide +kernel
theorem dL_law_270 : decode cL_law 270 = .ok (.dstore 7, 2) := by decide +kernel
theorem dL_law_272 : decode cL_law 272 = .ok (.aload_n 2, 1) := by decide +kernel
theorem dL_law_273 : decode cL_law 273 = .ok (.invokevirtual 82, 3) := by decide +kernel
theorem dL_law_276 : decode cL_law 276 = .ok (.iload 6, 2) := by decide +kernel
theorem dL_law_278 : decode cL_law 278 = .ok (.if_icmp .eq 5, 3) := by decide +kernel
theorem dL_law_281 : decode cL_law 281 = .ok (.iconst 0, 1) := by decide +kernel
theorem dL_law_282 : decode cL_law 282 = .ok (.ireturn, 1) := by decide +kernel
theorem dL_law_283 : decode cL_law 283 = .ok (.iload 6, 2) := by decide +kernel
theorem dL_law_285 : decode cL_law 285 = .ok (.ifCond .ne 35, 3) := by decide +kernel
theorem dL_law_288 : decode cL_law 288 = .ok (.aload 4, 2) := by decide +kernel
theorem dL_law_290 : decode cL_law 290 = .ok (.iconst 0, 1) := by decide +kernel
theorem dL_law_291 : decode cL_law 291 = .ok (.daload, 1) := by decide +kernel
theorem dL_law_292 : decode cL_law 292 = .ok (.dload 7, 2) := by decide +kernel
theorem dL_law_294 : decode cL_law 294 = .ok (.dcmp .l, 1) := by decide +kernel
theorem dL_law_295 : decode cL_law 295 = .ok (.ifCond .eq 25, 3) := by decide +kernel
theorem dL_law_298 : decode cL_law 298 = .ok (.aload 4, 2) := by decide +kernel
theorem dL_law_300 : decode cL_law 300 = .ok (.iconst 0, 1) := by decide +kernel
theorem dL_law_301 : decode cL_law 301 = .ok (.daload, 1) := by decide +kernel
theorem dL_law_302 : decode cL_law 302 = .ok (.aload 4, 2) := by decide +kernel
theorem dL_law_304 : decode cL_law 304 = .ok (.iconst 0, 1) := by decide +kernel
theorem dL_law_305 : decode cL_law 305 = .ok (.daload, 1) := by decide +kernel
theorem dL_law_306 : decode cL_law 306 = .ok (.dcmp .l, 1) := by decide +kernel
theorem dL_law_307 : decode cL_law 307 = .ok (.ifCond .eq 11, 3) := by decide +kernel
theorem dL_law_310 : decode cL_law 310 = .ok (.dload 7, 2) := by decide +kernel
theorem dL_law_312 : decode cL_law 312 = .ok (.dload 7, 2) := by decide +kernel
theorem dL_law_314 : decode cL_law 314 = .ok (.dcmp .l, 1) := by decide +kernel
theorem dL_law_315 : decode cL_law 315 = .ok (.ifCond .ne 5, 3) := by decide +kernel
theorem dL_law_318 : decode cL_law 318 = .ok (.iconst 0, 1) := by decide +kernel
theorem dL_law_319 : decode cL_law 319 = .ok (.ireturn, 1) := by decide +kernel
theorem dL_law_320 : decode cL_law 320 = .ok (.goto 1224, 3) := by decide +kernel
theorem dL_law_323 : decode cL_law 323 = .ok (.aload_n 1, 1) := by decide +kernel
theorem dL_law_324 : decode cL_law 324 = .ok (.aload_n 0, 1) := by decide +kernel
theorem dL_law_325 : decode cL_law 325 = .ok (.iload 5, 2) := by decide +kernel
theorem dL_law_327 : decode cL_law 327 = .ok (.iconst 1, 1) := by decide +kernel
theorem dL_law_328 : decode cL_law 328 = .ok (.iadd, 1) := by decide +kernel
theorem dL_law_329 : decode cL_law 329 = .ok (.iaload, 1) := by decide +kernel
theorem dL_law_330 : decode cL_law 330 = .ok (.aload_n 0, 1) := by decide +kernel
theorem dL_law_331 : decode cL_law 331 = .ok (.iload 5, 2) := by decide +kernel
theorem dL_law_333 : decode cL_law 333 = .ok (.iconst 2, 1) := by decide +kernel
theorem dL_law_334 : decode cL_law 334 = .ok (.iadd, 1) := by decide +kernel
theorem dL_law_335 : decode cL_law 335 = .ok (.iaload, 1) := by decide +kernel
theorem dL_law_336 : decode cL_law 336 = .ok (.i2d, 1) := by decide +kernel
theorem dL_law_337 : decode cL_law 337 = .ok (.ldc2_w 74, 3) := by decide +kernel
theorem dL_law_340 : decode cL_law 340 = .ok (.dmul, 1) := by decide +kernel
theorem dL_law_341 : decode cL_law 341 = .ok (.aload_n 0, 1) := by decide +kernel
theorem dL_law_342 : decode cL_law 342 = .ok (.iload 5, 2) := by decide +kernel
theorem dL_law_344 : decode cL_law 344 = .ok (.iconst 3, 1) := by decide +kernel
theorem dL_law_345 : decode cL_law 345 = .ok (.iadd, 1) := by decide +kernel
theorem dL_law_346 : decode cL_law 346 = .ok (.iaload, 1) := by decide +kernel
theorem dL_law_347 : decode cL_law 347 = .ok (.i2d, 1) := by decide +kernel
theorem dL_law_348 : decode cL_law 348 = .ok (.ldc2_w 74, 3) := by decide +kernel
theorem dL_law_351 : decode cL_law 351 = .ok (.dmul, 1) := by decide +kernel
theorem dL_law_352 : decode cL_law 352 = .ok (.aload_n 3, 1) := by decide +kernel
theorem dL_law_353 : decode cL_law 353 = .ok (.invokestatic 90, 3) := by decide +kernel
theorem dL_law_356 : decode cL_law 356 = .ok (.istore 6, 2) := by decide +kernel
theorem dL_law_358 : decode cL_law 358 = .ok (.aload_n 2, 1) := by decide +kernel
theorem dL_law_359 : decode cL_law 359 = .ok (.aload_n 0, 1) := by decide +kernel
theorem dL_law_360 : decode cL_law 360 = .ok (.iload 5, 2) := by decide +kernel
theorem dL_law_362 : decode cL_law 362 = .ok (.iconst 1, 1) := by decide +kernel
theorem dL_law_363 : decode cL_law 363 = .ok (.iadd, 1) := by decide +kernel
theorem dL_law_364 : decode cL_law 364 = .ok (.iaload, 1) := by decide +kernel
theorem dL_law_365 : decode cL_law 365 = .ok (.aload_n 0, 1) := by decide +kernel
theorem dL_law_366 : decode cL_law 366 = .ok (.iload 5, 2) := by decide +kernel
theorem dL_law_368 : decode cL_law 368 = .ok (.iconst 2, 1) := by decide +kernel
theorem dL_law_369 : decode cL_law 369 = .ok (.iadd, 1) := by decide +kernel
theorem dL_law_370 : decode cL_law 370 = .ok (.iaload, 1) := by decide +kernel
theorem dL_law_371 : decode cL_law 371 = .ok (.i2d, 1) := by decide +kernel
theorem dL_law_372 : decode cL_law 372 = .ok (.ldc2_w 74, 3) := by decide +kernel
theorem dL_law_375 : decode cL_law 375 = .ok (.dmul, 1) := by decide +kernel
theorem dL_law_376 : decode cL_law 376 = .ok (.aload_n 0, 1) := by decide +kernel
theorem dL_law_377 : decode cL_law 377 = .ok (.iload 5, 2) := by decide +kernel
theorem dL_law_379 : decode cL_law 379 = .ok (.iconst 3, 1) := by decide +kernel
theorem dL_law_380 : decode cL_law 380 = .ok (.iadd, 1) := by decide +kernel
theorem dL_law_381 : decode cL_law 381 = .ok (.iaload, 1) := by decide +kernel
theorem dL_law_382 : decode cL_law 382 = .ok (.i2d, 1) := by decide +kernel
theorem dL_law_383 : decode cL_law 383 = .ok (.ldc2_w 74, 3) := by decide +kernel
theorem dL_law_386 : decode cL_law 386 = .ok (.dmul, 1) := by decide +kernel
theorem dL_law_387 : decode cL_law 387 = .ok (.invokevirtual 92, 3) := by decide +kernel
theorem dL_law_390 : decode cL_law 390 = .ok (.istore 7, 2) := by decide +kernel
theorem dL_law_392 : decode cL_law 392 = .ok (.aload_n 2, 1) := by decide +kernel
theorem dL_law_393 : decode cL_law 393 = .ok (.invokevirtual 82, 3) := by decide +kernel
theorem dL_law_396 : decode cL_law 396 = .ok (.iload 6, 2) := by decide +kernel
theorem dL_law_398 : decode cL_law 398 = .ok (.if_icmp .eq 5, 3) := by decide +kernel
theorem dL_law_401 : decode cL_law 401 = .ok (.iconst 0, 1) := by decide +kernel
theorem dL_law_402 : decode cL_law 402 = .ok (.ireturn, 1) := by decide +kernel
theorem dL_law_403 : decode cL_law 403 = .ok (.iload 6, 2) := by decide +kernel
theorem dL_law_405 : decode cL_law 405 = .ok (.ifCond .ne 15, 3) := by decide +kernel
theorem dL_law_408 : decode cL_law 408 = .ok (.aload_n 3, 1) := by decide +kernel
theorem dL_law_409 : decode cL_law 409 = .ok (.iconst 0, 1) := by decide +kernel
theorem dL_law_410 : decode cL_law 410 = .ok (.laload, 1) := by decide +kernel
theorem dL_law_411 : decode cL_law 411 = .ok (.iload 7, 2) := by decide +kernel
theorem dL_law_413 : decode cL_law 413 = .ok (.i2l, 1) := by decide +kernel
theorem dL_law_414 : decode cL_law 414 = .ok (.lcmp, 1) := by decide +kernel
theorem dL_law_415 : decode cL_law 415 = .ok (.ifCond .eq 5, 3) := by decide +kernel
theorem dL_law_418 : decode cL_law 418 = .ok (.iconst 0, 1) := by decide +kernel
theorem dL_law_419 : decode cL_law 419 = .ok (.ireturn, 1) := by decide +kernel
theorem dL_law_420 : decode cL_law 420 = .ok (.goto 1124, 3) := by decide +kernel
theorem dL_law_423 : decode cL_law 423 = .ok (.aload_n 1, 1) := by decide +kernel
theorem dL_law_424 : decode cL_law 424 = .ok (.aload_n 0, 1) := by decide +kernel
theorem dL_law_425 : decode cL_law 425 = .ok (.iload 5, 2) := by decide +kernel
theorem dL_law_427 : decode cL_law 427 = .ok (.iconst 1, 1) := by decide +kernel
theorem dL_law_428 : decode cL_law 428 = .ok (.iadd, 1) := by decide +kernel
theorem dL_law_429 : decode cL_law 429 = .ok (.iaload, 1) := by decide +kernel
theorem dL_law_430 : decode cL_law 430 = .ok (.aload_n 0, 1) := by decide +kernel
theorem dL_law_431 : decode cL_law 431 = .ok (.iload 5, 2) := by decide +kernel
theorem dL_law_433 : decode cL_law 433 = .ok (.iconst 2, 1) := by decide +kernel
theorem dL_law_434 : decode cL_law 434 = .ok (.iadd, 1) := by decide +kernel
theorem dL_law_435 : decode cL_law 435 = .ok (.iaload, 1) := by decide +kernel
theorem dL_law_436 : decode cL_law 436 = .ok (.i2d, 1) := by decide +kernel
theorem dL_law_437 : decode cL_law 437 = .ok (.ldc2_w 74, 3) := by decide +kernel
theorem dL_law_440 : decode cL_law 440 = .ok (.dmul, 1) := by decide +kernel
theorem dL_law_441 : decode cL_law 441 = .ok (.aload_n 0, 1) := by decide +kernel
theorem dL_law_442 : decode cL_law 442 = .ok (.iload 5, 2) := by decide +kernel
theorem dL_law_444 : decode cL_law 444 = .ok (.iconst 3, 1) := by decide +kernel
theorem dL_law_445 : decode cL_law 445 = .ok (.iadd, 1) := by decide +kernel
theorem dL_law_446 : decode cL_law 446 = .ok (.iaload, 1) := by decide +kernel
theorem dL_law_447 : decode cL_law 447 = .ok (.i2d, 1) := by decide +kernel
theorem dL_law_448 : decode cL_law 448 = .ok (.ldc2_w 74, 3) := by decide +kernel
theorem dL_law_451 : decode cL_law 451 = .ok (.dmul, 1) := by decide +kernel
theorem dL_law_452 : decode cL_law 452 = .ok (.aload_n 3, 1) := by decide +kernel
theorem dL_law_453 : decode cL_law 453 = .ok (.invokestatic 93, 3) := by decide +kernel
theorem dL_law_456 : decode cL_law 456 = .ok (.istore 6, 2) := by decide +kernel
theorem dL_law_458 : decode cL_law 458 = .ok (.aload_n 2, 1) := by decide +kernel
theorem dL_law_459 : decode cL_law 459 = .ok (.aload_n 0, 1) := by decide +kernel
theorem dL_law_460 : decode cL_law 460 = .ok (.iload 5, 2) := by decide +kernel
theorem dL_law_462 : decode cL_law 462 = .ok (.iconst 1, 1) := by decide +kernel
theorem dL_law_463 : decode cL_law 463 = .ok (.iadd, 1) := by decide +kernel
theorem dL_law_464 : decode cL_law 464 = .ok (.iaload, 1) := by decide +kernel
theorem dL_law_465 : decode cL_law 465 = .ok (.aload_n 0, 1) := by decide +kernel
theorem dL_law_466 : decode cL_law 466 = .ok (.iload 5, 2) := by decide +kernel
theorem dL_law_468 : decode cL_law 468 = .ok (.iconst 2, 1) := by decide +kernel
theorem dL_law_469 : decode cL_law 469 = .ok (.iadd, 1) := by decide +kernel
theorem dL_law_470 : decode cL_law 470 = .ok (.iaload, 1) := by decide +kernel
theorem dL_law_471 : decode cL_law 471 = .ok (.i2d, 1) := by decide +kernel
theorem dL_law_472 : decode cL_law 472 = .ok (.ldc2_w 74, 3) := by decide +kernel
theorem dL_law_475 : decode cL_law 475 = .ok (.dmul, 1) := by decide +kernel
theorem dL_law_476 : decode cL_law 476 = .ok (.aload_n 0, 1) := by decide +kernel
theorem dL_law_477 : decode cL_law 477 = .ok (.iload 5, 2) := by decide +kernel
theorem dL_law_479 : decode cL_law 479 = .ok (.iconst 3, 1) := by decide +kernel
theorem dL_law_480 : decode cL_law 480 = .ok (.iadd, 1) := by decide +kernel
theorem dL_law_481 : decode cL_law 481 = .ok (.iaload, 1) := by decide +kernel
theorem dL_law_482 : decode cL_law 482 = .ok (.i2d, 1) := by decide +kernel
theorem dL_law_483 : decode cL_law 483 = .ok (.ldc2_w 74, 3) := by decide +kernel
theorem dL_law_486 : decode cL_law 486 = .ok (.dmul, 1) := by decide +kernel
theorem dL_law_487 : decode cL_law 487 = .ok (.invokevirtual 95, 3) := by decide +kernel
theorem dL_law_490 : decode cL_law 490 = .ok (.istore 7, 2) := by decide +kernel
theorem dL_law_492 : decode cL_law 492 = .ok (.aload_n 2, 1) := by decide +kernel
theorem dL_law_493 : decode cL_law 493 = .ok (.invokevirtual 82, 3) := by decide +kernel
theorem dL_law_496 : decode cL_law 496 = .ok (.iload 6, 2) := by decide +kernel
theorem dL_law_498 : decode cL_law 498 = .ok (.if_icmp .eq 5, 3) := by decide +kernel
theorem dL_law_501 : decode cL_law 501 = .ok (.iconst 0, 1) := by decide +kernel
theorem dL_law_502 : decode cL_law 502 = .ok (.ireturn, 1) := by decide +kernel
theorem dL_law_503 : decode cL_law 503 = .ok (.iload 6, 2) := by decide +kernel
theorem dL_law_505 : decode cL_law 505 = .ok (.ifCond .ne 15, 3) := by decide +kernel
theorem dL_law_508 : decode cL_law 508 = .ok (.aload_n 3, 1) := by decide +kernel
theorem dL_law_509 : decode cL_law 509 = .ok (.iconst 0, 1) := by decide +kernel
theorem dL_law_510 : decode cL_law 510 = .ok (.laload, 1) := by decide +kernel
theorem dL_law_511 : decode cL_law 511 = .ok (.iload 7, 2) := by decide +kernel
theorem dL_law_513 : decode cL_law 513 = .ok (.i2l, 1) := by decide +kernel
theorem dL_law_514 : decode cL_law 514 = .ok (.lcmp, 1) := by decide +kernel
theorem dL_law_515 : decode cL_law 515 = .ok (.ifCond .eq 5, 3) := by decide +kernel
theorem dL_law_518 : decode cL_law 518 = .ok (.iconst 0, 1) := by decide +kernel
theorem dL_law_519 : decode cL_law 519 = .ok (.ireturn, 1) := by decide +kernel
theorem dL_law_520 : decode cL_law 520 = .ok (.goto 1024, 3) := by decide +kernel
theorem dL_law_523 : decode cL_law 523 = .ok (.aload_n 1, 1) := by decide +kernel
theorem dL_law_524 : decode cL_law 524 = .ok (.aload_n 0, 1) := by decide +kernel
theorem dL_law_525 : decode cL_law 525 = .ok (.iload 5, 2) := by decide +kernel
theorem dL_law_527 : decode cL_law 527 = .ok (.iconst 1, 1) := by decide +kernel
theorem dL_law_528 : decode cL_law 528 = .ok (.iadd, 1) := by decide +kernel
theorem dL_law_529 : decode cL_law 529 = .ok (.iaload, 1) := by decide +kernel
theorem dL_law_530 : decode cL_law 530 = .ok (.aload_n 0, 1) := by decide +kernel
theorem dL_law_531 : decode cL_law 531 = .ok (.iload 5, 2) := by decide +kernel
theorem dL_law_533 : decode cL_law 533 = .ok (.iconst 2, 1) := by decide +kernel
theorem dL_law_534 : decode cL_law 534 = .ok (.iadd, 1) := by decide +kernel
theorem dL_law_535 : decode cL_law 535 = .ok (.iaload, 1) := by decide +kernel
theorem dL_law_536 : decode cL_law 536 = .ok (.aload_n 3, 1) := by decide +kernel
theorem dL_law_537 : decode cL_law 537 = .ok (.invokestatic 96, 3) := by decide +kernel
theorem dL_law_540 : decode cL_law 540 = .ok (.istore 6, 2) := by decide +kernel
theorem dL_law_542 : decode cL_law 542 = .ok (.aload_n 2, 1) := by decide +kernel
theorem dL_law_543 : decode cL_law 543 = .ok (.aload_n 0, 1) := by decide +kernel
theorem dL_law_544 : decode cL_law 544 = .ok (.iload 5, 2) := by decide +kernel
theorem dL_law_546 : decode cL_law 546 = .ok (.iconst 1, 1) := by decide +kernel
theorem dL_law_547 : decode cL_law 547 = .ok (.iadd, 1) := by decide +kernel
theorem dL_law_548 : decode cL_law 548 = .ok (.iaload, 1) := by decide +kernel
theorem dL_law_549 : decode cL_law 549 = .ok (.aload_n 0, 1) := by decide +kernel
theorem dL_law_550 : decode cL_law 550 = .ok (.iload 5, 2) := by decide +kernel
theorem dL_law_552 : decode cL_law 552 = .ok (.iconst 2, 1) := by decide +kernel
theorem dL_law_553 : decode cL_law 553 = .ok (.iadd, 1) := by decide +kernel
theorem dL_law_554 : decode cL_law 554 = .ok (.iaload, 1) := by decide +kernel
theorem dL_law_555 : decode cL_law 555 = .ok (.invokevirtual 99, 3) := by decide +kernel
theorem dL_law_558 : decode cL_law 558 = .ok (.istore 7, 2) := by decide +kernel
theorem dL_law_560 : decode cL_law 560 = .ok (.aload_n 2, 1) := by decide +kernel
theorem dL_law_561 : decode cL_law 561 = .ok (.invokevirtual 82, 3) := by decide +kernel
theorem dL_law_564 : decode cL_law 564 = .ok (.iload 6, 2) := by decide +kernel
theorem dL_law_566 : decode cL_law 566 = .ok (.if_icmp .eq 5, 3) := by decide +kernel
theorem dL_law_569 : decode cL_law 569 = .ok (.iconst 0, 1) := by decide +kernel
theorem dL_law_570 : decode cL_law 570 = .ok (.ireturn, 1) := by decide +kernel
theorem dL_law_571 : decode cL_law 571 = .ok (.iload 6, 2) := by decide +kernel
theorem dL_law_573 : decode cL_law 573 = .ok (.ifCond .ne 15, 3) := by decide +kernel
theorem dL_law_576 : decode cL_law 576 = .ok (.aload_n 3, 1) := by decide +kernel
theorem dL_law_577 : decode cL_law 577 = .ok (.iconst 0, 1) := by decide +kernel
theorem dL_law_578 : decode cL_law 578 = .ok (.laload, 1) := by decide +kernel
theorem dL_law_579 : decode cL_law 579 = .ok (.iload 7, 2) := by decide +kernel
theorem dL_law_581 : decode cL_law 581 = .ok (.i2l, 1) := by decide +kernel
theorem dL_law_582 : decode cL_law 582 = .ok (.lcmp, 1) := by decide +kernel
theorem dL_law_583 : decode cL_law 583 = .ok (.ifCond .eq 5, 3) := by decide +kernel
theorem dL_law_586 : decode cL_law 586 = .ok (.iconst 0, 1) := by decide +kernel
theorem dL_law_587 : decode cL_law 587 = .ok (.ireturn, 1) := by decide +kernel
theorem dL_law_588 : decode cL_law 588 = .ok (.goto 956, 3) := by decide +kernel
theorem dL_law_591 : decode cL_law 591 = .ok (.aload_n 1, 1) := by decide +kernel
theorem dL_law_592 : decode cL_law 592 = .ok (.aload_n 0, 1) := by decide +kernel
theorem dL_law_593 : decode cL_law 593 = .ok (.iload 5, 2) := by decide +kernel
theorem dL_law_595 : decode cL_law 595 = .ok (.iconst 1, 1) := by decide +kernel
theorem dL_law_596 : decode cL_law 596 = .ok (.iadd, 1) := by decide +kernel
theorem dL_law_597 : decode cL_law 597 = .ok (.iaload, 1) := by decide +kernel
theorem dL_law_598 : decode cL_law 598 = .ok (.aload_n 0, 1) := by decide +kernel
theorem dL_law_599 : decode cL_law 599 = .ok (.iload 5, 2) := by decide +kernel
theorem dL_law_601 : decode cL_law 601 = .ok (.iconst 2, 1) := by decide +kernel
theorem dL_law_602 : decode cL_law 602 = .ok (.iadd, 1) := by decide +kernel
end
section
theorem dL_law_603 : decode cL_law 603 = .ok (.iaload, 1) := by decide +kernel
theorem dL_law_604 : decode cL_law 604 = .ok (.aload 4, 2) := by decide +kernel
theorem dL_law_606 : decode cL_law 606 = .ok (.invokestatic 100, 3) := by decide +kernel
theorem dL_law_609 : decode cL_law 609 = .ok (.istore 6, 2) := by decide +kernel
theorem dL_law_611 : decode cL_law 611 = .ok (.aload_n 2, 1) := by decide +kernel
theorem dL_law_612 : decode cL_law 612 = .ok (.aload_n 0, 1) := by decide +kernel
theorem dL_law_613 : decode cL_law 613 = .ok (.iload 5, 2) := by decide +kernel
theorem dL_law_615 : decode cL_law 615 = .ok (.iconst 1, 1) := by decide +kernel
theorem dL_law_616 : decode cL_law 616 = .ok (.iadd, 1) := by decide +kernel
theorem dL_law_617 : decode cL_law 617 = .ok (.iaload, 1) := by decide +kernel
theorem dL_law_618 : decode cL_law 618 = .ok (.aload_n 0, 1) := by decide +kernel
theorem dL_law_619 : decode cL_law 619 = .ok (.iload 5, 2) := by decide +kernel
theorem dL_law_621 : decode cL_law 621 = .ok (.iconst 2, 1) := by decide +kernel
theorem dL_law_622 : decode cL_law 622 = .ok (.iadd, 1) := by decide +kernel
theorem dL_law_623 : decode cL_law 623 = .ok (.iaload, 1) := by decide +kernel
theorem dL_law_624 : decode cL_law 624 = .ok (.invokevirtual 103, 3) := by decide +kernel
theorem dL_law_627 : decode cL_law 627 = .ok (.dstore 7, 2) := by decide +kernel
theorem dL_law_629 : decode cL_law 629 = .ok (.aload_n 2, 1) := by decide +kernel
theorem dL_law_630 : decode cL_law 630 = .ok (.invokevirtual 82, 3) := by decide +kernel
theorem dL_law_633 : decode cL_law 633 = .ok (.iload 6, 2) := by decide +kernel
theorem dL_law_635 : decode cL_law 635 = .ok (.if_icmp .eq 5, 3) := by decide +kernel
theorem dL_law_638 : decode cL_law 638 = .ok (.iconst 0, 1) := by decide +kernel
theorem dL_law_639 : decode cL_law 639 = .ok (.ireturn, 1) := by decide +kernel
theorem dL_law_640 : decode cL_law 640 = .ok (.iload 6, 2) := by decide +kernel
theorem dL_law_642 : decode cL_law 642 = .ok (.ifCond .ne 35, 3) := by decide +kernel
theorem dL_law_645 : decode cL_law 645 = .ok (.aload 4, 2) := by decide +kernel
theorem dL_law_647 : decode cL_law 647 = .ok (.iconst 0, 1) := by decide +kernel
theorem dL_law_648 : decode cL_law 648 = .ok (.daload, 1) := by decide +kernel
theorem dL_law_649 : decode cL_law 649 = .ok (.dload 7, 2) := by decide +kernel
theorem dL_law_651 : decode cL_law 651 = .ok (.dcmp .l, 1) := by decide +kernel
theorem dL_law_652 : decode cL_law 652 = .ok (.ifCond .eq 25, 3) := by decide +kernel
theorem dL_law_655 : decode cL_law 655 = .ok (.aload 4, 2) := by decide +kernel
theorem dL_law_657 : decode cL_law 657 = .ok (.iconst 0, 1) := by decide +kernel
theorem dL_law_658 : decode cL_law 658 = .ok (.daload, 1) := by decide +kernel
theorem dL_law_659 : decode cL_law 659 = .ok (.aload 4, 2) := by decide +kernel
theorem dL_law_661 : decode cL_law 661 = .ok (.iconst 0, 1) := by decide +kernel
theorem dL_law_662 : decode cL_law 662 = .ok (.daload, 1) := by decide +kernel
theorem dL_law_663 : decode cL_law 663 = .ok (.dcmp .l, 1) := by decide +kernel
theorem dL_law_664 : decode cL_law 664 = .ok (.ifCond .eq 11, 3) := by decide +kernel
theorem dL_law_667 : decode cL_law 667 = .ok (.dload 7, 2) := by decide +kernel
theorem dL_law_669 : decode cL_law 669 = .ok (.dload 7, 2) := by decide +kernel
theorem dL_law_671 : decode cL_law 671 = .ok (.dcmp .l, 1) := by decide +kernel
theorem dL_law_672 : decode cL_law 672 = .ok (.ifCond .ne 5, 3) := by decide +kernel
theorem dL_law_675 : decode cL_law 675 = .ok (.iconst 0, 1) := by decide +kernel
theorem dL_law_676 : decode cL_law 676 = .ok (.ireturn, 1) := by decide +kernel
theorem dL_law_677 : decode cL_law 677 = .ok (.goto 867, 3) := by decide +kernel
theorem dL_law_680 : decode cL_law 680 = .ok (.aload_n 1, 1) := by decide +kernel
theorem dL_law_681 : decode cL_law 681 = .ok (.aload_n 0, 1) := by decide +kernel
theorem dL_law_682 : decode cL_law 682 = .ok (.iload 5, 2) := by decide +kernel
theorem dL_law_684 : decode cL_law 684 = .ok (.iconst 1, 1) := by decide +kernel
theorem dL_law_685 : decode cL_law 685 = .ok (.iadd, 1) := by decide +kernel
theorem dL_law_686 : decode cL_law 686 = .ok (.iaload, 1) := by decide +kernel
theorem dL_law_687 : decode cL_law 687 = .ok (.aload_n 0, 1) := by decide +kernel
theorem dL_law_688 : decode cL_law 688 = .ok (.iload 5, 2) := by decide +kernel
theorem dL_law_690 : decode cL_law 690 = .ok (.iconst 2, 1) := by decide +kernel
theorem dL_law_691 : decode cL_law 691 = .ok (.iadd, 1) := by decide +kernel
theorem dL_law_692 : decode cL_law 692 = .ok (.iaload, 1) := by decide +kernel
theorem dL_law_693 : decode cL_law 693 = .ok (.i2d, 1) := by decide +kernel
theorem dL_law_694 : decode cL_law 694 = .ok (.ldc2_w 74, 3) := by decide +kernel
theorem dL_law_697 : decode cL_law 697 = .ok (.dmul, 1) := by decide +kernel
theorem dL_law_698 : decode cL_law 698 = .ok (.aload 4, 2) := by decide +kernel
theorem dL_law_700 : decode cL_law 700 = .ok (.invokestatic 104, 3) := by decide +kernel
theorem dL_law_703 : decode cL_law 703 = .ok (.istore 6, 2) := by decide +kernel
theorem dL_law_705 : decode cL_law 705 = .ok (.aload_n 2, 1) := by decide +kernel
theorem dL_law_706 : decode cL_law 706 = .ok (.aload_n 0, 1) := by decide +kernel
theorem dL_law_707 : decode cL_law 707 = .ok (.iload 5, 2) := by decide +kernel
theorem dL_law_709 : decode cL_law 709 = .ok (.iconst 1, 1) := by decide +kernel
theorem dL_law_710 : decode cL_law 710 = .ok (.iadd, 1) := by decide +kernel
theorem dL_law_711 : decode cL_law 711 = .ok (.iaload, 1) := by decide +kernel
theorem dL_law_712 : decode cL_law 712 = .ok (.aload_n 0, 1) := by decide +kernel
theorem dL_law_713 : decode cL_law 713 = .ok (.iload 5, 2) := by decide +kernel
theorem dL_law_715 : decode cL_law 715 = .ok (.iconst 2, 1) := by decide +kernel
theorem dL_law_716 : decode cL_law 716 = .ok (.iadd, 1) := by decide +kernel
theorem dL_law_717 : decode cL_law 717 = .ok (.iaload, 1) := by decide +kernel
theorem dL_law_718 : decode cL_law 718 = .ok (.i2d, 1) := by decide +kernel
theorem dL_law_719 : decode cL_law 719 = .ok (.ldc2_w 74, 3) := by decide +kernel
theorem dL_law_722 : decode cL_law 722 = .ok (.dmul, 1) := by decide +kernel
theorem dL_law_723 : decode cL_law 723 = .ok (.invokevirtual 106, 3) := by decide +kernel
theorem dL_law_726 : decode cL_law 726 = .ok (.dstore 7, 2) := by decide +kernel
theorem dL_law_728 : decode cL_law 728 = .ok (.aload_n 2, 1) := by decide +kernel
theorem dL_law_729 : decode cL_law 729 = .ok (.invokevirtual 82, 3) := by decide +kernel
theorem dL_law_732 : decode cL_law 732 = .ok (.iload 6, 2) := by decide +kernel
theorem dL_law_734 : decode cL_law 734 = .ok (.if_icmp .eq 5, 3) := by decide +kernel
theorem dL_law_737 : decode cL_law 737 = .ok (.iconst 0, 1) := by decide +kernel
theorem dL_law_738 : decode cL_law 738 = .ok (.ireturn, 1) := by decide +kernel
theorem dL_law_739 : decode cL_law 739 = .ok (.iload 6, 2) := by decide +kernel
theorem dL_law_741 : decode cL_law 741 = .ok (.ifCond .ne 35, 3) := by decide +kernel
theorem dL_law_744 : decode cL_law 744 = .ok (.aload 4, 2) := by decide +kernel
theorem dL_law_746 : decode cL_law 746 = .ok (.iconst 0, 1) := by decide +kernel
theorem dL_law_747 : decode cL_law 747 = .ok (.daload, 1) := by decide +kernel
theorem dL_law_748 : decode cL_law 748 = .ok (.dload 7, 2) := by decide +kernel
theorem dL_law_750 : decode cL_law 750 = .ok (.dcmp .l, 1) := by decide +kernel
theorem dL_law_751 : decode cL_law 751 = .ok (.ifCond .eq 25, 3) := by decide +kernel
theorem dL_law_754 : decode cL_law 754 = .ok (.aload 4, 2) := by decide +kernel
theorem dL_law_756 : decode cL_law 756 = .ok (.iconst 0, 1) := by decide +kernel
theorem dL_law_757 : decode cL_law 757 = .ok (.daload, 1) := by decide +kernel
theorem dL_law_758 : decode cL_law 758 = .ok (.aload 4, 2) := by decide +kernel
theorem dL_law_760 : decode cL_law 760 = .ok (.iconst 0, 1) := by decide +kernel
theorem dL_law_761 : decode cL_law 761 = .ok (.daload, 1) := by decide +kernel
theorem dL_law_762 : decode cL_law 762 = .ok (.dcmp .l, 1) := by decide +kernel
theorem dL_law_763 : decode cL_law 763 = .ok (.ifCond .eq 11, 3) := by decide +kernel
theorem dL_law_766 : decode cL_law 766 = .ok (.dload 7, 2) := by decide +kernel
theorem dL_law_768 : decode cL_law 768 = .ok (.dload 7, 2) := by decide +kernel
theorem dL_law_770 : decode cL_law 770 = .ok (.dcmp .l, 1) := by decide +kernel
theorem dL_law_771 : decode cL_law 771 = .ok (.ifCond .ne 5, 3) := by decide +kernel
theorem dL_law_774 : decode cL_law 774 = .ok (.iconst 0, 1) := by decide +kernel
theorem dL_law_775 : decode cL_law 775 = .ok (.ireturn, 1) := by decide +kernel
theorem dL_law_776 : decode cL_law 776 = .ok (.goto 768, 3) := by decide +kernel
theorem dL_law_779 : decode cL_law 779 = .ok (.aload_n 1, 1) := by decide +kernel
theorem dL_law_780 : decode cL_law 780 = .ok (.aload_n 0, 1) := by decide +kernel
theorem dL_law_781 : decode cL_law 781 = .ok (.iload 5, 2) := by decide +kernel
theorem dL_law_783 : decode cL_law 783 = .ok (.iconst 1, 1) := by decide +kernel
theorem dL_law_784 : decode cL_law 784 = .ok (.iadd, 1) := by decide +kernel
theorem dL_law_785 : decode cL_law 785 = .ok (.iaload, 1) := by decide +kernel
theorem dL_law_786 : decode cL_law 786 = .ok (.i2d, 1) := by decide +kernel
theorem dL_law_787 : decode cL_law 787 = .ok (.ldc2_w 74, 3) := by decide +kernel
theorem dL_law_790 : decode cL_law 790 = .ok (.dmul, 1) := by decide +kernel
theorem dL_law_791 : decode cL_law 791 = .ok (.aload 4, 2) := by decide +kernel
theorem dL_law_793 : decode cL_law 793 = .ok (.invokestatic 107, 3) := by decide +kernel
theorem dL_law_796 : decode cL_law 796 = .ok (.istore 6, 2) := by decide +kernel
theorem dL_law_798 : decode cL_law 798 = .ok (.aload_n 2, 1) := by decide +kernel
theorem dL_law_799 : decode cL_law 799 = .ok (.aload_n 0, 1) := by decide +kernel
theorem dL_law_800 : decode cL_law 800 = .ok (.iload 5, 2) := by decide +kernel
theorem dL_law_802 : decode cL_law 802 = .ok (.iconst 1, 1) := by decide +kernel
theorem dL_law_803 : decode cL_law 803 = .ok (.iadd, 1) := by decide +kernel
theorem dL_law_804 : decode cL_law 804 = .ok (.iaload, 1) := by decide +kernel
theorem dL_law_805 : decode cL_law 805 = .ok (.i2d, 1) := by decide +kernel
theorem dL_law_806 : decode cL_law 806 = .ok (.ldc2_w 74, 3) := by decide +kernel
theorem dL_law_809 : decode cL_law 809 = .ok (.dmul, 1) := by decide +kernel
theorem dL_law_810 : decode cL_law 810 = .ok (.invokevirtual 110, 3) := by decide +kernel
theorem dL_law_813 : decode cL_law 813 = .ok (.dstore 7, 2) := by decide +kernel
theorem dL_law_815 : decode cL_law 815 = .ok (.aload_n 2, 1) := by decide +kernel
theorem dL_law_816 : decode cL_law 816 = .ok (.invokevirtual 82, 3) := by decide +kernel
theorem dL_law_819 : decode cL_law 819 = .ok (.iload 6, 2) := by decide +kernel
theorem dL_law_821 : decode cL_law 821 = .ok (.if_icmp .eq 5, 3) := by decide +kernel
theorem dL_law_824 : decode cL_law 824 = .ok (.iconst 0, 1) := by decide +kernel
theorem dL_law_825 : decode cL_law 825 = .ok (.ireturn, 1) := by decide +kernel
theorem dL_law_826 : decode cL_law 826 = .ok (.iload 6, 2) := by decide +kernel
theorem dL_law_828 : decode cL_law 828 = .ok (.ifCond .ne 35, 3) := by decide +kernel
theorem dL_law_831 : decode cL_law 831 = .ok (.aload 4, 2) := by decide +kernel
theorem dL_law_833 : decode cL_law 833 = .ok (.iconst 0, 1) := by decide +kernel
theorem dL_law_834 : decode cL_law 834 = .ok (.daload, 1) := by decide +kernel
theorem dL_law_835 : decode cL_law 835 = .ok (.dload 7, 2) := by decide +kernel
theorem dL_law_837 : decode cL_law 837 = .ok (.dcmp .l, 1) := by decide +kernel
theorem dL_law_838 : decode cL_law 838 = .ok (.ifCond .eq 25, 3) := by decide +kernel
theorem dL_law_841 : decode cL_law 841 = .ok (.aload 4, 2) := by decide +kernel
theorem dL_law_843 : decode cL_law 843 = .ok (.iconst 0, 1) := by decide +kernel
theorem dL_law_844 : decode cL_law 844 = .ok (.daload, 1) := by decide +kernel
theorem dL_law_845 : decode cL_law 845 = .ok (.aload 4, 2) := by decide +kernel
theorem dL_law_847 : decode cL_law 847 = .ok (.iconst 0, 1) := by decide +kernel
theorem dL_law_848 : decode cL_law 848 = .ok (.daload, 1) := by decide +kernel
theorem dL_law_849 : decode cL_law 849 = .ok (.dcmp .l, 1) := by decide +kernel
theorem dL_law_850 : decode cL_law 850 = .ok (.ifCond .eq 11, 3) := by decide +kernel
theorem dL_law_853 : decode cL_law 853 = .ok (.dload 7, 2) := by decide +kernel
theorem dL_law_855 : decode cL_law 855 = .ok (.dload 7, 2) := by decide +kernel
theorem dL_law_857 : decode cL_law 857 = .ok (.dcmp .l, 1) := by decide +kernel
theorem dL_law_858 : decode cL_law 858 = .ok (.ifCond .ne 5, 3) := by decide +kernel
theorem dL_law_861 : decode cL_law 861 = .ok (.iconst 0, 1) := by decide +kernel
theorem dL_law_862 : decode cL_law 862 = .ok (.ireturn, 1) := by decide +kernel
theorem dL_law_863 : decode cL_law 863 = .ok (.goto 681, 3) := by decide +kernel
theorem dL_law_866 : decode cL_law 866 = .ok (.aload_n 1, 1) := by decide +kernel
theorem dL_law_867 : decode cL_law 867 = .ok (.aload_n 0, 1) := by decide +kernel
theorem dL_law_868 : decode cL_law 868 = .ok (.iload 5, 2) := by decide +kernel
theorem dL_law_870 : decode cL_law 870 = .ok (.iconst 1, 1) := by decide +kernel
theorem dL_law_871 : decode cL_law 871 = .ok (.iadd, 1) := by decide +kernel
theorem dL_law_872 : decode cL_law 872 = .ok (.iaload, 1) := by decide +kernel
theorem dL_law_873 : decode cL_law 873 = .ok (.i2d, 1) := by decide +kernel
theorem dL_law_874 : decode cL_law 874 = .ok (.ldc2_w 74, 3) := by decide +kernel
theorem dL_law_877 : decode cL_law 877 = .ok (.dmul, 1) := by decide +kernel
theorem dL_law_878 : decode cL_law 878 = .ok (.aload_n 0, 1) := by decide +kernel
theorem dL_law_879 : decode cL_law 879 = .ok (.iload 5, 2) := by decide +kernel
theorem dL_law_881 : decode cL_law 881 = .ok (.iconst 2, 1) := by decide +kernel
theorem dL_law_882 : decode cL_law 882 = .ok (.iadd, 1) := by decide +kernel
theorem dL_law_883 : decode cL_law 883 = .ok (.iaload, 1) := by decide +kernel
theorem dL_law_884 : decode cL_law 884 = .ok (.i2d, 1) := by decide +kernel
theorem dL_law_885 : decode cL_law 885 = .ok (.ldc2_w 74, 3) := by decide +kernel
theorem dL_law_888 : decode cL_law 888 = .ok (.dmul, 1) := by decide +kernel
theorem dL_law_889 : decode cL_law 889 = .ok (.aload_n 3, 1) := by decide +kernel
theorem dL_law_890 : decode cL_law 890 = .ok (.invokestatic 111, 3) := by decide +kernel
theorem dL_law_893 : decode cL_law 893 = .ok (.istore 6, 2) := by decide +kernel
theorem dL_law_895 : decode cL_law 895 = .ok (.aload_n 2, 1) := by decide +kernel
theorem dL_law_896 : decode cL_law 896 = .ok (.aload_n 0, 1) := by decide +kernel
theorem dL_law_897 : decode cL_law 897 = .ok (.iload 5, 2) := by decide +kernel
theorem dL_law_899 : decode cL_law 899 = .ok (.iconst 1, 1) := by decide +kernel
theorem dL_law_900 : decode cL_law 900 = .ok (.iadd, 1) := by decide +kernel
theorem dL_law_901 : decode cL_law 901 = .ok (.iaload, 1) := by decide +kernel
theorem dL_law_902 : decode cL_law 902 = .ok (.i2d, 1) := by decide +kernel
theorem dL_law_903 : decode cL_law 903 = .ok (.ldc2_w 74, 3) := by decide +kernel
theorem dL_law_906 : decode cL_law 906 = .ok (.dmul, 1) := by decide +kernel
theorem dL_law_907 : decode cL_law 907 = .ok (.aload_n 0, 1) := by decide +kernel
theorem dL_law_908 : decode cL_law 908 = .ok (.iload 5, 2) := by decide +kernel
theorem dL_law_910 : decode cL_law 910 = .ok (.iconst 2, 1) := by decide +kernel
theorem dL_law_911 : decode cL_law 911 = .ok (.iadd, 1) := by decide +kernel
theorem dL_law_912 : decode cL_law 912 = .ok (.iaload, 1) := by decide +kernel
theorem dL_law_913 : decode cL_law 913 = .ok (.i2d, 1) := by decide +kernel
theorem dL_law_914 : decode cL_law 914 = .ok (.ldc2_w 74, 3) := by decide +kernel
theorem dL_law_917 : decode cL_law 917 = .ok (.dmul, 1) := by decide +kernel
theorem dL_law_918 : decode cL_law 918 = .ok (.invokevirtual 114, 3) := by decide +kernel
theorem dL_law_921 : decode cL_law 921 = .ok (.istore 7, 2) := by decide +kernel
theorem dL_law_923 : decode cL_law 923 = .ok (.aload_n 2, 1) := by decide +kernel
theorem dL_law_924 : decode cL_law 924 = .ok (.invokevirtual 82, 3) := by decide +kernel
theorem dL_law_927 : decode cL_law 927 = .ok (.iload 6, 2) := by decide +kernel
theorem dL_law_929 : decode cL_law 929 = .ok (.if_icmp .eq 5, 3) := by decide +kernel
theorem dL_law_932 : decode cL_law 932 = .ok (.iconst 0, 1) := by decide +kernel
theorem dL_law_933 : decode cL_law 933 = .ok (.ireturn, 1) := by decide +kernel
theorem dL_law_934 : decode cL_law 934 = .ok (.iload 6, 2) := by decide +kernel
theorem dL_law_936 : decode cL_law 936 = .ok (.ifCond .ne 15, 3) := by decide +kernel
theorem dL_law_939 : decode cL_law 939 = .ok (.aload_n 3, 1) := by decide +kernel
theorem dL_law_940 : decode cL_law 940 = .ok (.iconst 0, 1) := by decide +kernel
theorem dL_law_941 : decode cL_law 941 = .ok (.laload, 1) := by decide +kernel
theorem dL_law_942 : decode cL_law 942 = .ok (.iload 7, 2) := by decide +kernel
theorem dL_law_944 : decode cL_law 944 = .ok (.i2l, 1) := by decide +kernel
theorem dL_law_945 : decode cL_law 945 = .ok (.lcmp, 1) := by decide +kernel
theorem dL_law_946 : decode cL_law 946 = .ok (.ifCond .eq 5, 3) := by decide +kernel
theorem dL_law_949 : decode cL_law 949 = .ok (.iconst 0, 1) := by decide +kernel
theorem dL_law_950 : decode cL_law 950 = .ok (.ireturn, 1) := by decide +kernel
theorem dL_law_951 : decode cL_law 951 = .ok (.goto 593, 3) := by decide +kernel
theorem dL_law_954 : decode cL_law 954 = .ok (.aload_n 1, 1) := by decide +kernel
theorem dL_law_955 : decode cL_law 955 = .ok (.invokevirtual 115, 3) := by decide +kernel
theorem dL_law_958 : decode cL_law 958 = .ok (.aload_n 2, 1) := by decide +kernel
theorem dL_law_959 : decode cL_law 959 = .ok (.invokevirtual 118, 3) := by decide +kernel
theorem dL_law_962 : decode cL_law 962 = .ok (.goto 582, 3) := by decide +kernel
theorem dL_law_965 : decode cL_law 965 = .ok (.aload_n 1, 1) := by decide +kernel
theorem dL_law_966 : decode cL_law 966 = .ok (.aload_n 0, 1) := by decide +kernel
theorem dL_law_967 : decode cL_law 967 = .ok (.iload 5, 2) := by decide +kernel
theorem dL_law_969 : decode cL_law 969 = .ok (.iconst 1, 1) := by decide +kernel
theorem dL_law_970 : decode cL_law 970 = .ok (.iadd, 1) := by decide +kernel
theorem dL_law_971 : decode cL_law 971 = .ok (.iaload, 1) := by decide +kernel
theorem dL_law_972 : decode cL_law 972 = .ok (.ifCond .eq 7, 3) := by decide +kernel
theorem dL_law_975 : decode cL_law 975 = .ok (.iconst 1, 1) := by decide +kernel
theorem dL_law_976 : decode cL_law 976 = .ok (.goto 4, 3) := by decide +kernel
theorem dL_law_979 : decode cL_law 979 = .ok (.iconst 0, 1) := by decide +kernel
theorem dL_law_980 : decode cL_law 980 = .ok (.aload_n 0, 1) := by decide +kernel
theorem dL_law_981 : decode cL_law 981 = .ok (.iload 5, 2) := by decide +kernel
theorem dL_law_983 : decode cL_law 983 = .ok (.iconst 2, 1) := by decide +kernel
theorem dL_law_984 : decode cL_law 984 = .ok (.iadd, 1) := by decide +kernel
theorem dL_law_985 : decode cL_law 985 = .ok (.iaload, 1) := by decide +kernel
theorem dL_law_986 : decode cL_law 986 = .ok (.i2d, 1) := by decide +kernel
theorem dL_law_987 : decode cL_law 987 = .ok (.ldc2_w 74, 3) := by decide +kernel
theorem dL_law_990 : decode cL_law 990 = .ok (.dmul, 1) := by decide +kernel
theorem dL_law_991 : decode cL_law 991 = .ok (.aload 4, 2) := by decide +kernel
theorem dL_law_993 : decode cL_law 993 = .ok (.invokestatic 119, 3) := by decide +kernel
theorem dL_law_996 : decode cL_law 996 = .ok (.istore 6, 2) := by decide +kernel
theorem dL_law_998 : decode cL_law 998 = .ok (.aload_n 2, 1) := by decide +kernel
theorem dL_law_999 : decode cL_law 999 = .ok (.aload_n 0, 1) := by decide +kernel
theorem dL_law_1000 : decode cL_law 1000 = .ok (.iload 5, 2) := by decide +kernel
theorem dL_law_1002 : decode cL_law 1002 = .ok (.iconst 1, 1) := by decide +kernel
theorem dL_law_1003 : decode cL_law 1003 = .ok (.iadd, 1) := by decide +kernel
theorem dL_law_1004 : decode cL_law 1004 = .ok (.iaload, 1) := by decide +kernel
theorem dL_law_1005 : decode cL_law 1005 = .ok (.ifCond .eq 7, 3) := by decide +kernel
theorem dL_law_1008 : decode cL_law 1008 = .ok (.iconst 1, 1) := by decide +kernel
theorem dL_law_1009 : decode cL_law 1009 = .ok (.goto 4, 3) := by decide +kernel
theorem dL_law_1012 : decode cL_law 1012 = .ok (.iconst 0, 1) := by decide +kernel
theorem dL_law_1013 : decode cL_law 1013 = .ok (.aload_n 0, 1) := by decide +kernel
theorem dL_law_1014 : decode cL_law 1014 = .ok (.iload 5, 2) := by decide +kernel
theorem dL_law_1016 : decode cL_law 1016 = .ok (.iconst 2, 1) := by decide +kernel
theorem dL_law_1017 : decode cL_law 1017 = .ok (.iadd, 1) := by decide +kernel
theorem dL_law_1018 : decode cL_law 1018 = .ok (.iaload, 1) := by decide +kernel
theorem dL_law_1019 : decode cL_law 1019 = .ok (.i2d, 1) := by decide +kernel
theorem dL_law_1020 : decode cL_law 1020 = .ok (.ldc2_w 74, 3) := by decide +kernel
theorem dL_law_1023 : decode cL_law 1023 = .ok (.dmul, 1) := by decide +kernel
theorem dL_law_1024 : decode cL_law 1024 = .ok (.invokevirtual 122, 3) := by decide +kernel
theorem dL_law_1027 : decode cL_law 1027 = .ok (.dstore 7, 2) := by decide +kernel
theorem dL_law_1029 : decode cL_law 1029 = .ok (.aload_n 2, 1) := by decide +kernel
theorem dL_law_1030 : decode cL_law 1030 = .ok (.invokevirtual 82, 3) := by decide +kernel
theorem dL_law_1033 : decode cL_law 1033 = .ok (.iload 6, 2) := by decide +kernel
theorem dL_law_1035 : decode cL_law 1035 = .ok (.if_icmp .eq 5, 3) := by decide +kernel
theorem dL_law_1038 : decode cL_law 1038 = .ok (.iconst 0, 1) := by decide +kernel
theorem dL_law_1039 : decode cL_law 1039 = .ok (.ireturn, 1) := by decide +kernel
theorem dL_law_1040 : decode cL_law 1040 = .ok (.iload 6, 2) := by decide +kernel
theorem dL_law_1042 : decode cL_law 1042 = .ok (.ifCond .ne 35, 3) := by decide +kernel
theorem dL_law_1045 : decode cL_law 1045 = .ok (.aload 4, 2) := by decide +kernel
theorem dL_law_1047 : decode cL_law 1047 = .ok (.iconst 0, 1) := by decide +kernel
theorem dL_law_1048 : decode cL_law 1048 = .ok (.daload, 1) := by decide +kernel
theorem dL_law_1049 : decode cL_law 1049 = .ok (.dload 7, 2) := by decide +kernel
theorem dL_law_1051 : decode cL_law 1051 = .ok (.dcmp .l, 1) := by decide +kernel
theorem dL_law_1052 : decode cL_law 1052 = .ok (.ifCond .eq 25, 3) := by decide +kernel
theorem dL_law_1055 : decode cL_law 1055 = .ok (.aload 4, 2) := by decide +kernel
theorem dL_law_1057 : decode cL_law 1057 = .ok (.iconst 0, 1) := by decide +kernel
theorem dL_law_1058 : decode cL_law 1058 = .ok (.daload, 1) := by decide +kernel
theorem dL_law_1059 : decode cL_law 1059 = .ok (.aload 4, 2) := by decide +kernel
theorem dL_law_1061 : decode cL_law 1061 = .ok (.iconst 0, 1) := by decide +kernel
theorem dL_law_1062 : decode cL_law 1062 = .ok (.daload, 1) := by decide +kernel
theorem dL_law_1063 : decode cL_law 1063 = .ok (.dcmp .l, 1) := by decide +kernel
theorem dL_law_1064 : decode cL_law 1064 = .ok (.ifCond .eq 11, 3) := by decide +kernel
theorem dL_law_1067 : decode cL_law 1067 = .ok (.dload 7, 2) := by decide +kernel
theorem dL_law_1069 : decode cL_law 1069 = .ok (.dload 7, 2) := by decide +kernel
theorem dL_law_1071 : decode cL_law 1071 = .ok (.dcmp .l, 1) := by decide +kernel
theorem dL_law_1072 : decode cL_law 1072 = .ok (.ifCond .ne 5, 3) := by decide +kernel
theorem dL_law_1075 : decode cL_law 1075 = .ok (.iconst 0, 1) := by decide +kernel
theorem dL_law_1076 : decode cL_law 1076 = .ok (.ireturn, 1) := by decide +kernel
theorem dL_law_1077 : decode cL_law 1077 = .ok (.goto 467, 3) := by decide +kernel
theorem dL_law_1080 : decode cL_law 1080 = .ok (.aload_n 1, 1) := by decide +kernel
theorem dL_law_1081 : decode cL_law 1081 = .ok (.aload_n 0, 1) := by decide +kernel
theorem dL_law_1082 : decode cL_law 1082 = .ok (.iload 5, 2) := by decide +kernel
theorem dL_law_1084 : decode cL_law 1084 = .ok (.iconst 1, 1) := by decide +kernel
theorem dL_law_1085 : decode cL_law 1085 = .ok (.iadd, 1) := by decide +kernel
theorem dL_law_1086 : decode cL_law 1086 = .ok (.iaload, 1) := by decide +kernel
theorem dL_law_1087 : decode cL_law 1087 = .ok (.i2d, 1) := by decide +kernel
theorem dL_law_1088 : decode cL_law 1088 = .ok (.ldc2_w 74, 3) := by decide +kernel
theorem dL_law_1091 : decode cL_law 1091 = .ok (.dmul, 1) := by decide +kernel
theorem dL_law_1092 : decode cL_law 1092 = .ok (.aload_n 0, 1) := by decide +kernel
theorem dL_law_1093 : decode cL_law 1093 = .ok (.iload 5, 2) := by decide +kernel
theorem dL_law_1095 : decode cL_law 1095 = .ok (.iconst 2, 1) := by decide +kernel
theorem dL_law_1096 : decode cL_law 1096 = .ok (.iadd, 1) := by decide +kernel
theorem dL_law_1097 : decode cL_law 1097 = .ok (.iaload, 1) := by decide +kernel
theorem dL_law_1098 : decode cL_law 1098 = .ok (.i2d, 1) := by decide +kernel
theorem dL_law_1099 : decode cL_law 1099 = .ok (.ldc2_w 74, 3) := by decide +kernel
theorem dL_law_1102 : decode cL_law 1102 = .ok (.dmul, 1) := by decide +kernel
theorem dL_law_1103 : decode cL_law 1103 = .ok (.aload_n 0, 1) := by decide +kernel
theorem dL_law_1104 : decode cL_law 1104 = .ok (.iload 5, 2) := by decide +kernel
theorem dL_law_1106 : decode cL_law 1106 = .ok (.iconst 3, 1) := by decide +kernel
theorem dL_law_1107 : decode cL_law 1107 = .ok (.iadd, 1) := by decide +kernel
theorem dL_law_1108 : decode cL_law 1108 = .ok (.iaload, 1) := by decide +kernel
theorem dL_law_1109 : decode cL_law 1109 = .ok (.i2d, 1) := by decide +kernel
theorem dL_law_1110 : decode cL_law 1110 = .ok (.ldc2_w 74, 3) := by decide +kernel
theorem dL_law_1113 : decode cL_law 1113 = .ok (.dmul, 1) := by decide +kernel
theorem dL_law_1114 : decode cL_law 1114 = .ok (.aload_n 0, 1) := by decide +kernel
theorem dL_law_1115 : decode cL_law 1115 = .ok (.iload 5, 2) := by decide +kernel
theorem dL_law_1117 : decode cL_law 1117 = .ok (.iconst 4, 1) := by decide +kernel
theorem dL_law_1118 : decode cL_law 1118 = .ok (.iadd, 1) := by decide +kernel
theorem dL_law_1119 : decode cL_law 1119 = .ok (.iaload, 1) := by decide +kernel
theorem dL_law_1120 : decode cL_law 1120 = .ok (.i2d, 1) := by decide +kernel
theorem dL_law_1121 : decode cL_law 1121 = .ok (.ldc2_w 74, 3) := by decide +kernel
theorem dL_law_1124 : decode cL_law 1124 = .ok (.dmul, 1) := by decide +kernel
theorem dL_law_1125 : decode cL_law 1125 = .ok (.aload_n 3, 1) := by decide +kernel
theorem dL_law_1126 : decode cL_law 1126 = .ok (.invokestatic 123, 3) := by decide +kernel
theorem dL_law_1129 : decode cL_law 1129 = .ok (.istore 6, 2) := by decide +kernel
theorem dL_law_1131 : decode cL_law 1131 = .ok (.aload_n 2, 1) := by decide +kernel
theorem dL_law_1132 : decode cL_law 1132 = .ok (.aload_n 0, 1) := by decide +kernel
theorem dL_law_1133 : decode cL_law 1133 = .ok (.iload 5, 2) := by decide +kernel
theorem dL_law_1135 : decode cL_law 1135 = .ok (.iconst 1, 1) := by decide +kernel
theorem dL_law_1136 : decode cL_law 1136 = .ok (.iadd, 1) := by decide +kernel
theorem dL_law_1137 : decode cL_law 1137 = .ok (.iaload, 1) := by decide +kernel
theorem dL_law_1138 : decode cL_law 1138 = .ok (.i2d, 1) := by decide +kernel
theorem dL_law_1139 : decode cL_law 1139 = .ok (.ldc2_w 74, 3) := by decide +kernel
theorem dL_law_1142 : decode cL_law 1142 = .ok (.dmul, 1) := by decide +kernel
theorem dL_law_1143 : decode cL_law 1143 = .ok (.aload_n 0, 1) := by decide +kernel
theorem dL_law_1144 : decode cL_law 1144 = .ok (.iload 5, 2) := by decide +kernel
theorem dL_law_1146 : decode cL_law 1146 = .ok (.iconst 2, 1) := by decide +kernel
theorem dL_law_1147 : decode cL_law 1147 = .ok (.iadd, 1) := by decide +kernel
theorem dL_law_1148 : decode cL_law 1148 = .ok (.iaload, 1) := by decide +kernel
theorem dL_law_1149 : decode cL_law 1149 = .ok (.i2d, 1) := by decide +kernel
theorem dL_law_1150 : decode cL_law 1150 = .ok (.ldc2_w 74, 3) := by decide +kernel
theorem dL_law_1153 : decode cL_law 1153 = .ok (.dmul, 1) := by decide +kernel
theorem dL_law_1154 : decode cL_law 1154 = .ok (.aload_n 0, 1) := by decide +kernel
theorem dL_law_1155 : decode cL_law 1155 = .ok (.iload 5, 2) := by decide +kernel
theorem dL_law_1157 : decode cL_law 1157 = .ok (.iconst 3, 1) := by decide +kernel
theorem dL_law_1158 : decode cL_law 1158 = .ok (.iadd, 1) := by decide +kernel
theorem dL_law_1159 : decode cL_law 1159 = .ok (.iaload, 1) := by decide +kernel
theorem dL_law_1160 : decode cL_law 1160 = .ok (.i2d, 1) := by decide +kernel
theorem dL_law_1161 : decode cL_law 1161 = .ok (.ldc2_w 74, 3) := by decide +kernel
theorem dL_law_1164 : decode cL_law 1164 = .ok (.dmul, 1) := by decide +kernel
theorem dL_law_1165 : decode cL_law 1165 = .ok (.aload_n 0, 1) := by decide +kernel
theorem dL_law_1166 : decode cL_law 1166 = .ok (.iload 5, 2) := by decide +kernel
theorem dL_law_1168 : decode cL_law 1168 = .ok (.iconst 4, 1) := by decide +kernel
theorem dL_law_1169 : decode cL_law 1169 = .ok (.iadd, 1) := by decide +kernel
theorem dL_law_1170 : decode cL_law 1170 = .ok (.iaload, 1) := by decide +kernel
theorem dL_law_1171 : decode cL_law 1171 = .ok (.i2d, 1) := by decide +kernel
theorem dL_law_1172 : decode cL_law 1172 = .ok (.ldc2_w 74, 3) := by decide +kernel
theorem dL_law_1175 : decode cL_law 1175 = .ok (.dmul, 1) := by decide +kernel
theorem dL_law_1176 : decode cL_law 1176 = .ok (.invokevirtual 126, 3) := by decide +kernel
theorem dL_law_1179 : decode cL_law 1179 = .ok (.istore 7, 2) := by decide +kernel
theorem dL_law_1181 : decode cL_law 1181 = .ok (.aload_n 2, 1) := by decide +kernel
theorem dL_law_1182 : decode cL_law 1182 = .ok (.invokevirtual 82, 3) := by decide +kernel
theorem dL_law_1185 : decode cL_law 1185 = .ok (.iload 6, 2) := by decide +kernel
theorem dL_law_1187 : decode cL_law 1187 = .ok (.if_icmp .eq 5, 3) := by decide +kernel
theorem dL_law_1190 : decode cL_law 1190 = .ok (.iconst 0, 1) := by decide +kernel
theorem dL_law_1191 : decode cL_law 1191 = .ok (.ireturn, 1) := by decide +kernel
theorem dL_law_1192 : decode cL_law 1192 = .ok (.iload 6, 2) := by decide +kernel
theorem dL_law_1194 : decode cL_law 1194 = .ok (.ifCond .ne 15, 3) := by decide +kernel
theorem dL_law_1197 : decode cL_law 1197 = .ok (.aload_n 3, 1) := by decide +kernel
theorem dL_law_1198 : decode cL_law 1198 = .ok (.iconst 0, 1) := by decide +kernel
theorem dL_law_1199 : decode cL_law 1199 = .ok (.laload, 1) := by decide +kernel
theorem dL_law_1200 : decode cL_law 1200 = .ok (.iload 7, 2) := by decide +kernel
theorem dL_law_1202 : decode cL_law 1202 = .ok (.i2l, 1) := by decide +kernel
theorem dL_law_1203 : decode cL_law 1203 = .ok (.lcmp, 1) := by decide +kernel
theorem dL_law_1204 : decode cL_law 1204 = .ok (.ifCond .eq 5, 3) := by decide +kernel
theorem dL_law_1207 : decode cL_law 1207 = .ok (.iconst 0, 1) := by decide +kernel
theorem dL_law_1208 : decode cL_law 1208 = .ok (.ireturn, 1) := by decide +kernel
theorem dL_law_1209 : decode cL_law 1209 = .ok (.goto 335, 3) := by decide +kernel
theorem dL_law_1212 : decode cL_law 1212 = .ok (.aload_n 1, 1) := by decide +kernel
theorem dL_law_1213 : decode cL_law 1213 = .ok (.aload_n 0, 1) := by decide +kernel
theorem dL_law_1214 : decode cL_law 1214 = .ok (.iload 5, 2) := by decide +kernel
theorem dL_law_1216 : decode cL_law 1216 = .ok (.iconst 1, 1) := by decide +kernel
theorem dL_law_1217 : decode cL_law 1217 = .ok (.iadd, 1) := by decide +kernel
theorem dL_law_1218 : decode cL_law 1218 = .ok (.iaload, 1) := by decide +kernel
theorem dL_law_1219 : decode cL_law 1219 = .ok (.aload_n 0, 1) := by decide +kernel
theorem dL_law_1220 : decode cL_law 1220 = .ok (.iload 5, 2) := by decide +kernel
theorem dL_law_1222 : decode cL_law 1222 = .ok (.iconst 2, 1) := by decide +kernel
theorem dL_law_1223 : decode cL_law 1223 = .ok (.iadd, 1) := by decide +kernel
theorem dL_law_1224 : decode cL_law 1224 = .ok (.iaload, 1) := by decide +kernel
theorem dL_law_1225 : decode cL_law 1225 = .ok (.i2d, 1) := by decide +kernel
theorem dL_law_1226 : decode cL_law 1226 = .ok (.ldc2_w 74, 3) := by decide +kernel
theorem dL_law_1229 : decode cL_law 1229 = .ok (.dmul, 1) := by decide +kernel
theorem dL_law_1230 : decode cL_law 1230 = .ok (.aload 4, 2) := by decide +kernel
theorem dL_law_1232 : decode cL_law 1232 = .ok (.invokestatic 127, 3) := by decide +kernel
theorem dL_law_1235 : decode cL_law 1235 = .ok (.istore 6, 2) := by decide +kernel
theorem dL_law_1237 : decode cL_law 1237 = .ok (.aload_n 2, 1) := by decide +kernel
theorem dL_law_1238 : decode cL_law 1238 = .ok (.aload_n 0, 1) := by decide +kernel
theorem dL_law_1239 : decode cL_law 1239 = .ok (.iload 5, 2) := by decide +kernel
theorem dL_law_1241 : decode cL_law 1241 = .ok (.iconst 1, 1) := by decide +kernel
theorem dL_law_1242 : decode cL_law 1242 = .ok (.iadd, 1) := by decide +kernel
theorem dL_law_1243 : decode cL_law 1243 = .ok (.iaload, 1) := by decide +kernel
theorem dL_law_1244 : decode cL_law 1244 = .ok (.aload_n 0, 1) := by decide +kernel
theorem dL_law_1245 : decode cL_law 1245 = .ok (.iload 5, 2) := by decide +kernel
theorem dL_law_1247 : decode cL_law 1247 = .ok (.iconst 2, 1) := by decide +kernel
theorem dL_law_1248 : decode cL_law 1248 = .ok (.iadd, 1) := by decide +kernel
theorem dL_law_1249 : decode cL_law 1249 = .ok (.iaload, 1) := by decide +kernel
theorem dL_law_1250 : decode cL_law 1250 = .ok (.i2d, 1) := by decide +kernel
theorem dL_law_1251 : decode cL_law 1251 = .ok (.ldc2_w 74, 3) := by decide +kernel
theorem dL_law_1254 : decode cL_law 1254 = .ok (.dmul, 1) := by decide +kernel
theorem dL_law_1255 : decode cL_law 1255 = .ok (.invokevirtual 129, 3) := by decide +kernel
theorem dL_law_1258 : decode cL_law 1258 = .ok (.dstore 7, 2) := by decide +kernel
theorem dL_law_1260 : decode cL_law 1260 = .ok (.aload_n 2, 1) := by decide +kernel
theorem dL_law_1261 : decode cL_law 1261 = .ok (.invokevirtual 82, 3) := by decide +kernel
theorem dL_law_1264 : decode cL_law 1264 = .ok (.iload 6, 2) := by decide +kernel
theorem dL_law_1266 : decode cL_law 1266 = .ok (.if_icmp .eq 5, 3) := by decide +kernel
theorem dL_law_1269 : decode cL_law 1269 = .ok (.iconst 0, 1) := by decide +kernel
theorem dL_law_1270 : decode cL_law 1270 = .ok (.ireturn, 1) := by decide +kernel
theorem dL_law_1271 : decode cL_law 1271 = .ok (.iload 6, 2) := by decide +kernel
theorem dL_law_1273 : decode cL_law 1273 = .ok (.ifCond .ne 35, 3) := by decide +kernel
theorem dL_law_1276 : decode cL_law 1276 = .ok (.aload 4, 2) := by decide +kernel
theorem dL_law_1278 : decode cL_law 1278 = .ok (.iconst 0, 1) := by decide +kernel
theorem dL_law_1279 : decode cL_law 1279 = .ok (.daload, 1) := by decide +kernel
theorem dL_law_1280 : decode cL_law 1280 = .ok (.dload 7, 2) := by decide +kernel
theorem dL_law_1282 : decode cL_law 1282 = .ok (.dcmp .l, 1) := by decide +kernel
theorem dL_law_1283 : decode cL_law 1283 = .ok (.ifCond .eq 25, 3) := by decide +kernel
theorem dL_law_1286 : decode cL_law 1286 = .ok (.aload 4, 2) := by decide +kernel
theorem dL_law_1288 : decode cL_law 1288 = .ok (.iconst 0, 1) := by decide +kernel
theorem dL_law_1289 : decode cL_law 1289 = .ok (.daload, 1) := by decide +kernel
theorem dL_law_1290 : decode cL_law 1290 = .ok (.aload 4, 2) := by decide +kernel
theorem dL_law_1292 : decode cL_law 1292 = .ok (.iconst 0, 1) := by decide +kernel
theorem dL_law_1293 : decode cL_law 1293 = .ok (.daload, 1) := by decide +kernel
theorem dL_law_1294 : decode cL_law 1294 = .ok (.dcmp .l, 1) := by decide +kernel
theorem dL_law_1295 : decode cL_law 1295 = .ok (.ifCond .eq 11, 3) := by decide +kernel
theorem dL_law_1298 : decode cL_law 1298 = .ok (.dload 7, 2) := by decide +kernel
theorem dL_law_1300 : decode cL_law 1300 = .ok (.dload 7, 2) := by decide +kernel
theorem dL_law_1302 : decode cL_law 1302 = .ok (.dcmp .l, 1) := by decide +kernel
theorem dL_law_1303 : decode cL_law 1303 = .ok (.ifCond .ne 5, 3) := by decide +kernel
theorem dL_law_1306 : decode cL_law 1306 = .ok (.iconst 0, 1) := by decide +kernel
theorem dL_law_1307 : decode cL_law 1307 = .ok (.ireturn, 1) := by decide +kernel
theorem dL_law_1308 : decode cL_law 1308 = .ok (.goto 236, 3) := by decide +kernel
theorem dL_law_1311 : decode cL_law 1311 = .ok (.aload_n 1, 1) := by decide +kernel
theorem dL_law_1312 : decode cL_law 1312 = .ok (.aload 4, 2) := by decide +kernel
theorem dL_law_1314 : decode cL_law 1314 = .ok (.invokestatic 130, 3) := by decide +kernel
theorem dL_law_1317 : decode cL_law 1317 = .ok (.istore 6, 2) := by decide +kernel
theorem dL_law_1319 : decode cL_law 1319 = .ok (.aload_n 2, 1) := by decide +kernel
theorem dL_law_1320 : decode cL_law 1320 = .ok (.invokevirtual 133, 3) := by decide +kernel
theorem dL_law_1323 : decode cL_law 1323 = .ok (.dstore 7, 2) := by decide +kernel
theorem dL_law_1325 : decode cL_law 1325 = .ok (.aload_n 2, 1) := by decide +kernel
theorem dL_law_1326 : decode cL_law 1326 = .ok (.invokevirtual 82, 3) := by decide +kernel
theorem dL_law_1329 : decode cL_law 1329 = .ok (.iload 6, 2) := by decide +kernel
theorem dL_law_1331 : decode cL_law 1331 = .ok (.if_icmp .eq 5, 3) := by decide +kernel
theorem dL_law_1334 : decode cL_law 1334 = .ok (.iconst 0, 1) := by decide +kernel
theorem dL_law_1335 : decode cL_law 1335 = .ok (.ireturn, 1) := by decide +kernel
theorem dL_law_1336 : decode cL_law 1336 = .ok (.iload 6, 2) := by decide +kernel
theorem dL_law_1338 : decode cL_law 1338 = .ok (.ifCond .ne 35, 3) := by decide +kernel
theorem dL_law_1341 : decode cL_law 1341 = .ok (.aload 4, 2) := by decide +kernel
theorem dL_law_1343 : decode cL_law 1343 = .ok (.iconst 0, 1) := by decide +kernel
theorem dL_law_1344 : decode cL_law 1344 = .ok (.daload, 1) := by decide +kernel
theorem dL_law_1345 : decode cL_law 1345 = .ok (.dload 7, 2) := by decide +kernel
theorem dL_law_1347 : decode cL_law 1347 = .ok (.dcmp .l, 1) := by decide +kernel
theorem dL_law_1348 : decode cL_law 1348 = .ok (.ifCond .eq 25, 3) := by decide +kernel
theorem dL_law_1351 : decode cL_law 1351 = .ok (.aload 4, 2) := by decide +kernel
theorem dL_law_1353 : decode cL_law 1353 = .ok (.iconst 0, 1) := by decide +kernel
theorem dL_law_1354 : decode cL_law 1354 = .ok (.daload, 1) := by decide +kernel
theorem dL_law_1355 : decode cL_law 1355 = .ok (.aload 4, 2) := by decide +kernel
theorem dL_law_1357 : decode cL_law 1357 = .ok (.iconst 0, 1) := by decide +kernel
theorem dL_law_1358 : decode cL_law 1358 = .ok (.daload, 1) := by decide +kernel
theorem dL_law_1359 : decode cL_law 1359 = .ok (.dcmp .l, 1) := by decide +kernel
theorem dL_law_1360 : decode cL_law 1360 = .ok (.ifCond .eq 11, 3) := by decide +kernel
theorem dL_law_1363 : decode cL_law 1363 = .ok (.dload 7, 2) := by decide +kernel
theorem dL_law_1365 : decode cL_law 1365 = .ok (.dload 7, 2) := by decide +kernel
theorem dL_law_1367 : decode cL_law 1367 = .ok (.dcmp .l, 1) := by decide +kernel
theorem dL_law_1368 : decode cL_law 1368 = .ok (.ifCond .ne 5, 3) := by decide +kernel
theorem dL_law_1371 : decode cL_law 1371 = .ok (.iconst 0, 1) := by decide +kernel
theorem dL_law_1372 : decode cL_law 1372 = .ok (.ireturn, 1) := by decide +kernel
theorem dL_law_1373 : decode cL_law 1373 = .ok (.goto 171, 3) := by decide +kernel
theorem dL_law_1376 : decode cL_law 1376 = .ok (.aload_n 1, 1) := by decide +kernel
theorem dL_law_1377 : decode cL_law 1377 = .ok (.aload_n 0, 1) := by decide +kernel
theorem dL_law_1378 : decode cL_law 1378 = .ok (.iload 5, 2) := by decide +kernel
theorem dL_law_1380 : decode cL_law 1380 = .ok (.iconst 1, 1) := by decide +kernel
theorem dL_law_1381 : decode cL_law 1381 = .ok (.iadd, 1) := by decide +kernel
theorem dL_law_1382 : decode cL_law 1382 = .ok (.iaload, 1) := by decide +kernel
theorem dL_law_1383 : decode cL_law 1383 = .ok (.aload_n 0, 1) := by decide +kernel
theorem dL_law_1384 : decode cL_law 1384 = .ok (.iload 5, 2) := by decide +kernel
theorem dL_law_1386 : decode cL_law 1386 = .ok (.iconst 2, 1) := by decide +kernel
theorem dL_law_1387 : decode cL_law 1387 = .ok (.iadd, 1) := by decide +kernel
theorem dL_law_1388 : decode cL_law 1388 = .ok (.iaload, 1) := by decide +kernel
theorem dL_law_1389 : decode cL_law 1389 = .ok (.aload_n 0, 1) := by decide +kernel
theorem dL_law_1390 : decode cL_law 1390 = .ok (.iload 5, 2) := by decide +kernel
theorem dL_law_1392 : decode cL_law 1392 = .ok (.iconst 3, 1) := by decide +kernel
theorem dL_law_1393 : decode cL_law 1393 = .ok (.iadd, 1) := by decide +kernel
theorem dL_law_1394 : decode cL_law 1394 = .ok (.iaload, 1) := by decide +kernel
theorem dL_law_1395 : decode cL_law 1395 = .ok (.aload_n 3, 1) := by decide +kernel
theorem dL_law_1396 : decode cL_law 1396 = .ok (.invokestatic 134, 3) := by decide +kernel
theorem dL_law_1399 : decode cL_law 1399 = .ok (.istore 6, 2) := by decide +kernel
theorem dL_law_1401 : decode cL_law 1401 = .ok (.aload_n 2, 1) := by decide +kernel
theorem dL_law_1402 : decode cL_law 1402 = .ok (.aload_n 0, 1) := by decide +kernel
theorem dL_law_1403 : decode cL_law 1403 = .ok (.iload 5, 2) := by decide +kernel
theorem dL_law_1405 : decode cL_law 1405 = .ok (.iconst 1, 1) := by decide +kernel
theorem dL_law_1406 : decode cL_law 1406 = .ok (.iadd, 1) := by decide +kernel
theorem dL_law_1407 : decode cL_law 1407 = .ok (.iaload, 1) := by decide +kernel
theorem dL_law_1408 : decode cL_law 1408 = .ok (.aload_n 0, 1) := by decide +kernel
theorem dL_law_1409 : decode cL_law 1409 = .ok (.iload 5, 2) := by decide +kernel
theorem dL_law_1411 : decode cL_law 1411 = .ok (.iconst 2, 1) := by decide +kernel
theorem dL_law_1412 : decode cL_law 1412 = .ok (.iadd, 1) := by decide +kernel
theorem dL_law_1413 : decode cL_law 1413 = .ok (.iaload, 1) := by decide +kernel
theorem dL_law_1414 : decode cL_law 1414 = .ok (.aload_n 0, 1) := by decide +kernel
theorem dL_law_1415 : decode cL_law 1415 = .ok (.iload 5, 2) := by decide +kernel
theorem dL_law_1417 : decode cL_law 1417 = .ok (.iconst 3, 1) := by decide +kernel
theorem dL_law_1418 : decode cL_law 1418 = .ok (.iadd, 1) := by decide +kernel
theorem dL_law_1419 : decode cL_law 1419 = .ok (.iaload, 1) := by decide +kernel
theorem dL_law_1420 : decode cL_law 1420 = .ok (.invokevirtual 137, 3) := by decide +kernel
theorem dL_law_1423 : decode cL_law 1423 = .ok (.lstore 7, 2) := by decide +kernel
theorem dL_law_1425 : decode cL_law 1425 = .ok (.aload_n 2, 1) := by decide +kernel
theorem dL_law_1426 : decode cL_law 1426 = .ok (.invokevirtual 82, 3) := by decide +kernel
theorem dL_law_1429 : decode cL_law 1429 = .ok (.iload 6, 2) := by decide +kernel
theorem dL_law_1431 : decode cL_law 1431 = .ok (.if_icmp .eq 5, 3) := by decide +kernel
theorem dL_law_1434 : decode cL_law 1434 = .ok (.iconst 0, 1) := by decide +kernel
theorem dL_law_1435 : decode cL_law 1435 = .ok (.ireturn, 1) := by decide +kernel
theorem dL_law_1436 : decode cL_law 1436 = .ok (.iload 6, 2) := by decide +kernel
theorem dL_law_1438 : decode cL_law 1438 = .ok (.ifCond .ne 14, 3) := by decide +kernel
theorem dL_law_1441 : decode cL_law 1441 = .ok (.aload_n 3, 1) := by decide +kernel
theorem dL_law_1442 : decode cL_law 1442 = .ok (.iconst 0, 1) := by decide +kernel
theorem dL_law_1443 : decode cL_law 1443 = .ok (.laload, 1) := by decide +kernel
theorem dL_law_1444 : decode cL_law 1444 = .ok (.lload 7, 2) := by decide +kernel
theorem dL_law_1446 : decode cL_law 1446 = .ok (.lcmp, 1) := by decide +kernel
theorem dL_law_1447 : decode cL_law 1447 = .ok (.ifCond .eq 5, 3) := by decide +kernel
theorem dL_law_1450 : decode cL_law 1450 = .ok (.iconst 0, 1) := by decide +kernel
theorem dL_law_1451 : decode cL_law 1451 = .ok (.ireturn, 1) := by decide +kernel
theorem dL_law_1452 : decode cL_law 1452 = .ok (.goto 92, 3) := by decide +kernel
theorem dL_law_1455 : decode cL_law 1455 = .ok (.aload_n 1, 1) := by decide +kernel
theorem dL_law_1456 : decode cL_law 1456 = .ok (.aload_n 0, 1) := by decide +kernel
theorem dL_law_1457 : decode cL_law 1457 = .ok (.iload 5, 2) := by decide +kernel
theorem dL_law_1459 : decode cL_law 1459 = .ok (.iconst 1, 1) := by decide +kernel
theorem dL_law_1460 : decode cL_law 1460 = .ok (.iadd, 1) := by decide +kernel
theorem dL_law_1461 : decode cL_law 1461 = .ok (.iaload, 1) := by decide +kernel
theorem dL_law_1462 : decode cL_law 1462 = .ok (.aload_n 0, 1) := by decide +kernel
theorem dL_law_1463 : decode cL_law 1463 = .ok (.iload 5, 2) := by decide +kernel
theorem dL_law_1465 : decode cL_law 1465 = .ok (.iconst 2, 1) := by decide +kernel
theorem dL_law_1466 : decode cL_law 1466 = .ok (.iadd, 1) := by decide +kernel
theorem dL_law_1467 : decode cL_law 1467 = .ok (.iaload, 1) := by decide +kernel
theorem dL_law_1468 : decode cL_law 1468 = .ok (.aload 4, 2) := by decide +kernel
theorem dL_law_1470 : decode cL_law 1470 = .ok (.invokestatic 138, 3) := by decide +kernel
theorem dL_law_1473 : decode cL_law 1473 = .ok (.istore 6, 2) := by decide +kernel
theorem dL_law_1475 : decode cL_law 1475 = .ok (.aload_n 2, 1) := by decide +kernel
theorem dL_law_1476 : decode cL_law 1476 = .ok (.aload_n 0, 1) := by decide +kernel
theorem dL_law_1477 : decode cL_law 1477 = .ok (.iload 5, 2) := by decide +kernel
theorem dL_law_1479 : decode cL_law 1479 = .ok (.iconst 1, 1) := by decide +kernel
theorem dL_law_1480 : decode cL_law 1480 = .ok (.iadd, 1) := by decide +kernel
theorem dL_law_1481 : decode cL_law 1481 = .ok (.iaload, 1) := by decide +kernel
theorem dL_law_1482 : decode cL_law 1482 = .ok (.aload_n 0, 1) := by decide +kernel
theorem dL_law_1483 : decode cL_law 1483 = .ok (.iload 5, 2) := by decide +kernel
theorem dL_law_1485 : decode cL_law 1485 = .ok (.iconst 2, 1) := by decide +kernel
theorem dL_law_1486 : decode cL_law 1486 = .ok (.iadd, 1) := by decide +kernel
theorem dL_law_1487 : decode cL_law 1487 = .ok (.iaload, 1) := by decide +kernel
theorem dL_law_1488 : decode cL_law 1488 = .ok (.invokevirtual 140, 3) := by decide +kernel
theorem dL_law_1491 : decode cL_law 1491 = .ok (.dstore 7, 2) := by decide +kernel
theorem dL_law_1493 : decode cL_law 1493 = .ok (.aload_n 2, 1) := by decide +kernel
theorem dL_law_1494 : decode cL_law 1494 = .ok (.invokevirtual 82, 3) := by decide +kernel
theorem dL_law_1497 : decode cL_law 1497 = .ok (.iload 6, 2) := by decide +kernel
theorem dL_law_1499 : decode cL_law 1499 = .ok (.if_icmp .eq 5, 3) := by decide +kernel
theorem dL_law_1502 : decode cL_law 1502 = .ok (.iconst 0, 1) := by decide +kernel
theorem dL_law_1503 : decode cL_law 1503 = .ok (.ireturn, 1) := by decide +kernel
theorem dL_law_1504 : decode cL_law 1504 = .ok (.iload 6, 2) := by decide +kernel
theorem dL_law_1506 : decode cL_law 1506 = .ok (.ifCond .ne 35, 3) := by decide +kernel
theorem dL_law_1509 : decode cL_law 1509 = .ok (.aload 4, 2) := by decide +kernel
theorem dL_law_1511 : decode cL_law 1511 = .ok (.iconst 0, 1) := by decide +kernel
theorem dL_law_1512 : decode cL_law 1512 = .ok (.daload, 1) := by decide +kernel
theorem dL_law_1513 : decode cL_law 1513 = .ok (.dload 7, 2) := by decide +kernel
theorem dL_law_1515 : decode cL_law 1515 = .ok (.dcmp .l, 1) := by decide +kernel
theorem dL_law_1516 : decode cL_law 1516 = .ok (.ifCond .eq 25, 3) := by decide +kernel
theorem dL_law_1519 : decode cL_law 1519 = .ok (.aload 4, 2) := by decide +kernel
theorem dL_law_1521 : decode cL_law 1521 = .ok (.iconst 0, 1) := by decide +kernel
theorem dL_law_1522 : decode cL_law 1522 = .ok (.daload, 1) := by decide +kernel
theorem dL_law_1523 : decode cL_law 1523 = .ok (.aload 4, 2) := by decide +kernel
theorem dL_law_1525 : decode cL_law 1525 = .ok (.iconst 0, 1) := by decide +kernel
theorem dL_law_1526 : decode cL_law 1526 = .ok (.daload, 1) := by decide +kernel
theorem dL_law_1527 : decode cL_law 1527 = .ok (.dcmp .l, 1) := by decide +kernel
theorem dL_law_1528 : decode cL_law 1528 = .ok (.ifCond .eq 11, 3) := by decide +kernel
theorem dL_law_1531 : decode cL_law 1531 = .ok (.dload 7, 2) := by decide +kernel
theorem dL_law_1533 : decode cL_law 1533 = .ok (.dload 7, 2) := by decide +kernel
theorem dL_law_1535 : decode cL_law 1535 = .ok (.dcmp .l, 1) := by decide +kernel
theorem dL_law_1536 : decode cL_law 1536 = .ok (.ifCond .ne 5, 3) := by decide +kernel
theorem dL_law_1539 : decode cL_law 1539 = .ok (.iconst 0, 1) := by decide +kernel
theorem dL_law_1540 : decode cL_law 1540 = .ok (.ireturn, 1) := by decide +kernel
theorem dL_law_1541 : decode cL_law 1541 = .ok (.goto 3, 3) := by decide +kernel
theorem dL_law_1544 : decode cL_law 1544 = .ok (.iinc 5 5, 3) := by decide +kernel
theorem dL_law_1547 : decode cL_law 1547 = .ok (.goto (-1519), 3) := by decide +kernel
theorem dL_law_1550 : decode cL_law 1550 = .ok (.iconst 1, 1) := by decide +kernel
theorem dL_law_1551 : decode cL_law 1551 = .ok (.ireturn, 1) := by decide +kernel
end
section
/-! doubles: values in units of 2^-1074, magnitudes, exact results, products that grow with their factors -/
def dv (a : UInt64) : Int := FP.Core.zval FP.Core.b64 (FP.Core.val64 a)
def nn (a : UInt64) : Prop := FP.Core.val64 a ≠ .nan
def dB (K : Nat) (a : UInt64) : Prop := a.toNat % 2 ^ 63 < K * 2 ^ 52
def U1 : Int := ((2 ^ 1074 : Nat) : Int)
def U8 : Int := ((2 ^ 1071 : Nat) : Int)
theorem U1_pos : 0 < U1 := by decide +kernel
theorem U8_pos : 0 < U8 := by decide +kernel
theorem U1_8 : U1 = 8 * U8 := by decide +kernel
theorem nn.ok {a : UInt64} (h : nn a) : vf_n64 a := by
  have h1 : a.toNat % 2 ^ 63 ≤ 9218868437227405312 := (FP.Core.ne_nan a).mp h
  show a &&& 0x7fffffffffffffff ≤ 0x7ff0000000000000
  rw [UInt64.le_iff_toNat_le, FP.Core.mask_toNat]
  exact Nat.le_trans h1 (by decide)
theorem dB.mono {K J : Nat} {a : UInt64} (h : dB K a) (hk : K ≤ J) : dB J a := Nat.lt_of_lt_of_le h (Nat.mul_le_mul_right _ hk)
theorem dB.fin {K : Nat} {a : UInt64} (h : dB K a) (hK : K ≤ 2047) : FP.Core.DFin a := FP.Core.fin_of_lt h hK
theorem dB.nn {K : Nat} {a : UInt64} (h : dB K a) (hK : K ≤ 2047) : nn a := (h.fin hK).ne_nan
theorem dB.ok {K : Nat} {a : UInt64} (h : dB K a) (hK : K ≤ 2047) : vf_n64 a := nn.ok (h.nn hK)
theorem dB.add {K J M : Nat} {a b : UInt64} (ha : dB K a) (hb : dB J b) (h1 : K ≤ M) (h2 : J ≤ M) (hM : M ≤ 2047) : dB (M + 2) (FP.dadd a b) := FP.Core.dadd_mag (ha.mono h1) (hb.mono h2) hM
theorem dB.sub {K J M : Nat} {a b : UInt64} (ha : dB K a) (hb : dB J b) (h1 : K ≤ M) (h2 : J ≤ M) (hM : M ≤ 2047) : dB (M + 2) (FP.dsub a b) := FP.Core.dsub_mag (ha.mono h1) (hb.mono h2) hM
theorem dB.mul {K J M : Nat} {a b : UInt64} (ha : dB K a) (hb : dB J b) (hK : K ≤ 2047) (hJ : J ≤ 2047) (hM : K + J - 1025 + 3 ≤ M) : dB M (FP.dmul a b) := dB.mono (FP.Core.dmul_mag ha hb hK hJ) hM
/-- a divisor: at least 2^(L-1023) -/
def dL (L : Nat) (b : UInt64) : Prop := L * 2 ^ 52 ≤ b.toNat % 2 ^ 63
theorem dB.div {K J L M : Nat} {a b : UInt64} (ha : dB K a) (hb : dL L b) (hb2 : dB J b) (hK : K ≤ 2047) (hJ : J ≤ 2047) (hL : 1 ≤ L) (hM : K + (1074 - 52 - 1) - L + 3 ≤ M) : dB M (FP.ddiv a b) := dB.mono (FP.Core.ddiv_mag ha hb (hb2.mono hJ) hK hL) hM
theorem i2d_dB (x : Int32) : dB 1056 (FP.i2d x) := FP.Core.i2d_mag x
theorem cv {x y : UInt64} (op : CmpOp) (hx : nn x) (hy : nn y) : (dv x < dv y ∧ Op.cmpValue (FP.dcmp x y) op = -1) ∨ (dv x = dv y ∧ Op.cmpValue (FP.dcmp x y) op = 0) ∨ (dv y < dv x ∧ Op.cmpValue (FP.dcmp x y) op = 1) := by
  have h : FP.dcmp x y = some (compare (dv x) (dv y)) := FP.Core.dcmp_zval hx hy
  rw [h]
  rcases Int.lt_trichotomy (dv x) (dv y) with q | q | q
  · exact Or.inl ⟨q, by rw [(FP.Core.compare_lt_iff _ _).mpr q]; rfl⟩
  · exact Or.inr (Or.inl ⟨q, by rw [(FP.Core.compare_eq_iff _ _).mpr q]; rfl⟩)
  · exact Or.inr (Or.inr ⟨q, by rw [(FP.Core.compare_gt_iff _ _).mpr q]; rfl⟩)
theorem cv_lt {x y : UInt64} {op : CmpOp} (hx : nn x) (hy : nn y) : Op.cmpValue (FP.dcmp x y) op < 0 ↔ dv x < dv y := by
  rcases cv op hx hy with ⟨q, h⟩ | ⟨q, h⟩ | ⟨q, h⟩ <;> rw [h] <;> constructor <;> intro h9 <;> first | omega | exact absurd h9 (by decide) | decide
theorem cv_le {x y : UInt64} {op : CmpOp} (hx : nn x) (hy : nn y) : Op.cmpValue (FP.dcmp x y) op ≤ 0 ↔ dv x ≤ dv y := by
  rcases cv op hx hy with ⟨q, h⟩ | ⟨q, h⟩ | ⟨q, h⟩ <;> rw [h] <;> constructor <;> intro h9 <;> first | omega | exact absurd h9 (by decide) | decide
theorem cv_gt {x y : UInt64} {op : CmpOp} (hx : nn x) (hy : nn y) : 0 < Op.cmpValue (FP.dcmp x y) op ↔ dv y < dv x := by
  rcases cv op hx hy with ⟨q, h⟩ | ⟨q, h⟩ | ⟨q, h⟩ <;> rw [h] <;> constructor <;> intro h9 <;> first | omega | exact absurd h9 (by decide) | decide
theorem cv_ge {x y : UInt64} {op : CmpOp} (hx : nn x) (hy : nn y) : 0 ≤ Op.cmpValue (FP.dcmp x y) op ↔ dv y ≤ dv x := by
  rcases cv op hx hy with ⟨q, h⟩ | ⟨q, h⟩ | ⟨q, h⟩ <;> rw [h] <;> constructor <;> intro h9 <;> first | omega | exact absurd h9 (by decide) | decide
theorem cv_eq {x y : UInt64} {op : CmpOp} (hx : nn x) (hy : nn y) : Op.cmpValue (FP.dcmp x y) op = 0 ↔ dv x = dv y := by
  rcases cv op hx hy with ⟨q, h⟩ | ⟨q, h⟩ | ⟨q, h⟩ <;> rw [h] <;> constructor <;> intro h9 <;> first | omega | exact absurd h9 (by decide) | decide
/-! sums, differences -/
theorem dv_add_le {a b V : UInt64} (ha : FP.Core.DFin a) (hb : FP.Core.DFin b) (hV : nn V) (h : dv a + dv b ≤ dv V) : dv (FP.dadd a b) ≤ dv V := by
  show FP.Core.zval FP.Core.b64 (FP.Core.val64 (FP.Core.dadd a b)) ≤ _
  rw [FP.Core.val64_dadd]
  exact FP.Core.sum_le FP.Core.good_b64 ha hb (FP.Core.val64_fits a) (FP.Core.val64_fits b) (FP.Core.val64_fits V) hV h
theorem dv_add_ge {a b V : UInt64} (ha : FP.Core.DFin a) (hb : FP.Core.DFin b) (hV : nn V) (h : dv V ≤ dv a + dv b) : dv V ≤ dv (FP.dadd a b) := by
  show _ ≤ FP.Core.zval FP.Core.b64 (FP.Core.val64 (FP.Core.dadd a b))
  rw [FP.Core.val64_dadd]
  exact FP.Core.sum_ge FP.Core.good_b64 ha hb (FP.Core.val64_fits a) (FP.Core.val64_fits b) (FP.Core.val64_fits V) hV h
theorem neg_fin {b : UInt64} (hb : FP.Core.DFin b) : ∃ s c q, FP.Core.negate (FP.Core.val64 b) = .fin s c q := by
  obtain ⟨s, c, q, h⟩ := hb
  exact ⟨!s, c, q, by rw [h]; rfl⟩
theorem dv_sub_le {a b V : UInt64} (ha : FP.Core.DFin a) (hb : FP.Core.DFin b) (hV : nn V) (h : dv a - dv b ≤ dv V) : dv (FP.dsub a b) ≤ dv V := by
  show FP.Core.zval FP.Core.b64 (FP.Core.val64 (FP.Core.dsub a b)) ≤ _
  rw [FP.Core.val64_dsub]
  exact FP.Core.sum_le FP.Core.good_b64 ha (neg_fin hb) (FP.Core.val64_fits a) (FP.Core.negate_fits (FP.Core.val64_fits b)) (FP.Core.val64_fits V) hV (by rw [FP.Core.zval_negate]; exact h)
theorem dv_sub_ge {a b V : UInt64} (ha : FP.Core.DFin a) (hb : FP.Core.DFin b) (hV : nn V) (h : dv V ≤ dv a - dv b) : dv V ≤ dv (FP.dsub a b) := by
  show _ ≤ FP.Core.zval FP.Core.b64 (FP.Core.val64 (FP.Core.dsub a b))
  rw [FP.Core.val64_dsub]
  exact FP.Core.sum_ge FP.Core.good_b64 ha (neg_fin hb) (FP.Core.val64_fits a) (FP.Core.negate_fits (FP.Core.val64_fits b)) (FP.Core.val64_fits V) hV (by rw [FP.Core.zval_negate]; exact h)
/-! products -/
theorem U1_q : ((2 ^ (FP.Core.b64.qmin - 2 * FP.Core.b64.qmin).toNat : Nat) : Int) = U1 := by
  rw [FP.Core.qmin_b64]; rfl
theorem prod_bits {a b : UInt64} (ha : FP.Core.DFin a) (hb : FP.Core.DFin b) : ∃ sg n e, FP.Core.exactProduct (FP.Core.val64 a) (FP.Core.val64 b) = .fin sg n e ∧ 2 * FP.Core.b64.qmin ≤ e ∧ FP.Core.signed sg (FP.Core.inUnits n e (2 * FP.Core.b64.qmin)) = dv a * dv b := by
  obtain ⟨s, c, q, h1⟩ := ha
  obtain ⟨t, d, r, h2⟩ := hb
  have fa := FP.Core.val64_fits a
  have fb := FP.Core.val64_fits b
  unfold dv
  rw [h1] at fa ⊢
  rw [h2] at fb ⊢
  obtain ⟨e1, e2, e3⟩ := FP.Core.product_units fa fb
  exact ⟨_, _, _, e1, e2, by rw [e3, FP.Core.signed_xor]; rfl⟩
theorem dv_mul_le {a b V : UInt64} (ha : FP.Core.DFin a) (hb : FP.Core.DFin b) (hV : nn V) (h : dv a * dv b ≤ dv V * U1) : dv (FP.dmul a b) ≤ dv V := by
  obtain ⟨sg, n, e, e1, e2, e3⟩ := prod_bits ha hb
  show FP.Core.zval FP.Core.b64 (FP.Core.val64 (FP.Core.dmul a b)) ≤ _
  rw [FP.Core.val64_dmul, e1]
  refine FP.Core.zval_round_le FP.Core.good_b64 (FP.Core.val64_fits V) hV (e0 := 2 * FP.Core.b64.qmin) (by rw [FP.Core.qmin_b64]; decide) e2 ?_
  rw [e3, U1_q]
  exact h
theorem dv_mul_ge {a b V : UInt64} (ha : FP.Core.DFin a) (hb : FP.Core.DFin b) (hV : nn V) (h : dv V * U1 ≤ dv a * dv b) : dv V ≤ dv (FP.dmul a b) := by
  obtain ⟨sg, n, e, e1, e2, e3⟩ := prod_bits ha hb
  show _ ≤ FP.Core.zval FP.Core.b64 (FP.Core.val64 (FP.Core.dmul a b))
  rw [FP.Core.val64_dmul, e1]
  refine FP.Core.zval_round_ge FP.Core.good_b64 (FP.Core.val64_fits V) hV (e0 := 2 * FP.Core.b64.qmin) (by rw [FP.Core.qmin_b64]; decide) e2 ?_
  rw [e3, U1_q]
  exact h
/-! quotients -/
theorem q_signed {s t : Bool} {N x v P : Nat} (hP : 0 < P) (hle : N ≤ v * P → x ≤ v) (hge : v * P ≤ N → v ≤ x) : (FP.Core.signed s N ≤ FP.Core.signed t (v * P) → FP.Core.signed s x ≤ FP.Core.signed t v) ∧ (FP.Core.signed t (v * P) ≤ FP.Core.signed s N → FP.Core.signed t v ≤ FP.Core.signed s x) := by
  have hz : v * P = 0 → v = 0 := by
    intro h
    rcases Nat.mul_eq_zero.mp h with h | h <;> omega
  generalize v * P = w at *
  cases s <;> cases t <;> simp only [FP.Core.signed, if_true, Bool.false_eq_true, if_false] <;> constructor <;> intro h
  · have := hle (by omega); omega
  · have := hge (by omega); omega
  · have := hle (by omega); have := hz (by omega); omega
  · omega
  · omega
  · have := hle (by omega); have := hz (by omega); omega
  · have := hge (by omega); omega
  · have := hle (by omega); omega
theorem quot_bits {a b V : UInt64} (ha : FP.Core.DFin a) (hb : FP.Core.DFin b) (hb0 : 0 < dv b) (hV : nn V) : (dv a * U1 ≤ dv V * dv b → dv (FP.ddiv a b) ≤ dv V) ∧ (dv V * dv b ≤ dv a * U1 → dv V ≤ dv (FP.ddiv a b)) := by
  obtain ⟨s, c, q, h1⟩ := ha
  obtain ⟨t, d, r, h2⟩ := hb
  have fa := FP.Core.val64_fits a
  have fb := FP.Core.val64_fits b
  have fV := FP.Core.val64_fits V
  show (_ → FP.Core.zval FP.Core.b64 (FP.Core.val64 (FP.Core.ddiv a b)) ≤ _) ∧ (_ → _ ≤ FP.Core.zval FP.Core.b64 (FP.Core.val64 (FP.Core.ddiv a b)))
  unfold dv nn at *
  rw [FP.Core.val64_ddiv]
  rw [h1] at fa ⊢
  rw [h2] at fb hb0 ⊢
  generalize FP.Core.val64 V = W at *
  have hq := fa.2.1
  have hr := fb.2.1
  have hqm := FP.Core.qmin_b64
  have ht : t = false ∧ 0 < d := by
    cases t with
    | false =>
      refine ⟨rfl, Nat.pos_of_ne_zero fun h0 => ?_⟩
      subst h0
      simp [FP.Core.zval, FP.Core.zmag, FP.Core.sgn, FP.Core.signed, FP.Core.inUnits] at hb0
    | true =>
      exfalso
      simp only [FP.Core.zval, FP.Core.zmag, FP.Core.sgn, FP.Core.signed, if_true] at hb0
      omega
  obtain ⟨rfl, hd⟩ := ht
  have hdne : ¬ d = 0 := by omega
  simp only [FP.Core.quotient, if_neg hdne]
  have hsx : (s != false) = s := by cases s <;> rfl
  rw [hsx]
  have hsg : FP.Core.zval FP.Core.b64 (FP.Core.roundRatio FP.Core.b64 s c d (q - r)) = FP.Core.signed s (FP.Core.zmag FP.Core.b64 (FP.Core.roundRatio FP.Core.b64 s c d (q - r))) := by
    unfold FP.Core.zval
    rw [FP.Core.sgn_roundRatio]
  rw [hsg]
  have hle := FP.Core.zmag_roundRatio_le FP.Core.good_b64 (s := s) (A := c) (B := d) (e := q - r) (e0 := 2 * FP.Core.b64.qmin - r) hd fV hV (by omega) (by omega)
  have hge := FP.Core.zmag_roundRatio_ge FP.Core.good_b64 (s := s) (A := c) (B := d) (e := q - r) (e0 := 2 * FP.Core.b64.qmin - r) hd fV (by omega) (by omega)
  have eN : FP.Core.inUnits c (q - r) (2 * FP.Core.b64.qmin - r) = FP.Core.inUnits c q FP.Core.b64.qmin * 2 ^ 1074 := by
    unfold FP.Core.inUnits
    rw [Nat.mul_assoc, ← Nat.pow_add]
    congr 2
    omega
  have eP : ∀ v : Nat, v * 2 ^ (FP.Core.b64.qmin - (2 * FP.Core.b64.qmin - r)).toNat * d = v * FP.Core.inUnits d r FP.Core.b64.qmin := by
    intro v
    unfold FP.Core.inUnits
    rw [Nat.mul_assoc, Nat.mul_comm _ d]
    congr 3
    omega
  rw [eN, eP] at hle hge
  have hP : 0 < FP.Core.inUnits d r FP.Core.b64.qmin := Nat.mul_pos hd (Nat.two_pow_pos _)
  have key := q_signed (s := s) (t := FP.Core.sgn W) hP hle hge
  have l1 : FP.Core.zval FP.Core.b64 (.fin s c q) * U1 = FP.Core.signed s (FP.Core.inUnits c q FP.Core.b64.qmin * 2 ^ 1074) := by
    rw [FP.Core.signed_mul]; rfl
  have l2 : FP.Core.zval FP.Core.b64 W * FP.Core.zval FP.Core.b64 (.fin false d r) = FP.Core.signed (FP.Core.sgn W) (FP.Core.zmag FP.Core.b64 W * FP.Core.inUnits d r FP.Core.b64.qmin) := by
    rw [FP.Core.signed_mul]; rfl
  rw [l1, l2]
  exact key
theorem dv_div_le {a b V : UInt64} (ha : FP.Core.DFin a) (hb : FP.Core.DFin b) (hb0 : 0 < dv b) (hV : nn V) (h : dv a * U1 ≤ dv V * dv b) : dv (FP.ddiv a b) ≤ dv V := (quot_bits ha hb hb0 hV).1 h
theorem dv_div_ge {a b V : UInt64} (ha : FP.Core.DFin a) (hb : FP.Core.DFin b) (hb0 : 0 < dv b) (hV : nn V) (h : dv V * dv b ≤ dv a * U1) : dv V ≤ dv (FP.ddiv a b) := (quot_bits ha hb hb0 hV).2 h
/-! a double of a given value -/
theorem mk_V (n : Int) (k : Nat) (hn : n.natAbs < 2 ^ 53) (hk : k ≤ 2000) : ∃ V : UInt64, FP.Core.DFin V ∧ dv V = n * ((2 ^ k : Nat) : Int) := by
  have hqm := FP.Core.qmin_b64
  have hqx : FP.Core.b64.qmax = 971 := by decide
  obtain ⟨c', q', h1, h2⟩ := FP.Core.round_exact FP.Core.good_b64 (decide (n < 0)) (c := n.natAbs) (q := (k : Int) - 1074) hn (by omega) (by omega)
  have hf := FP.Core.round_fits FP.Core.good_b64 (.fin (decide (n < 0)) n.natAbs ((k : Int) - 1074))
  refine ⟨FP.Core.of64 (FP.Core.round FP.Core.b64 (.fin (decide (n < 0)) n.natAbs ((k : Int) - 1074))), ?_, ?_⟩
  · exact ⟨_, c', q', by rw [FP.Core.val64_of64 hf, h1]⟩
  · unfold dv
    rw [FP.Core.val64_of64 hf, h1]
    show FP.Core.signed (decide (n < 0)) (FP.Core.inUnits c' q' FP.Core.b64.qmin) = _
    rw [h2]
    unfold FP.Core.inUnits
    rw [FP.Core.signed_mul, show ((k : Int) - 1074 - FP.Core.b64.qmin).toNat = k by omega]
    congr 1
    by_cases h0 : n < 0
    · rw [decide_eq_true h0]; simp only [FP.Core.signed, if_true]; omega
    · rw [decide_eq_false h0]; simp only [FP.Core.signed, Bool.false_eq_true, if_false]; omega
theorem dv_0 : dv 0 = 0 := FP.Core.zval64_zero
theorem dv_d0 : dv FP.dconst0 = 0 := FP.Core.zval64_zero
theorem nn_0 : nn 0 := by show FP.Core.val64 0 ≠ .nan; rw [FP.Core.val64_zero]; exact FP.Core.Datum.noConfusion
theorem dv_mul_nonneg {a b : UInt64} (ha : FP.Core.DFin a) (hb : FP.Core.DFin b) (ha0 : 0 ≤ dv a) (hb0 : 0 ≤ dv b) : 0 ≤ dv (FP.dmul a b) := by
  have h := dv_mul_ge ha hb nn_0 (by rw [dv_0, Int.zero_mul]; exact Int.mul_nonneg ha0 hb0)
  rwa [dv_0] at h
theorem dv_add_nonneg {a b : UInt64} (ha : FP.Core.DFin a) (hb : FP.Core.DFin b) (ha0 : 0 ≤ dv a) (hb0 : 0 ≤ dv b) : 0 ≤ dv (FP.dadd a b) := by
  have h := dv_add_ge ha hb nn_0 (by rw [dv_0]; omega)
  rwa [dv_0] at h
theorem dv_div_nonneg {a b : UInt64} (ha : FP.Core.DFin a) (hb : FP.Core.DFin b) (ha0 : 0 ≤ dv a) (hb0 : 0 < dv b) : 0 ≤ dv (FP.ddiv a b) := by
  have h := dv_div_ge ha hb hb0 nn_0 (by rw [dv_0, Int.zero_mul]; exact Int.mul_nonneg ha0 (Int.le_of_lt U1_pos))
  rwa [dv_0] at h
theorem pos_bits {a : UInt64} (ha : FP.Core.DFin a) (h0 : 0 < dv a) : ∃ c q, FP.Core.val64 a = .fin false c q ∧ dv a = (FP.Core.inUnits c q FP.Core.b64.qmin : Int) := by
  obtain ⟨s, c, q, h⟩ := ha
  unfold dv at h0 ⊢
  rw [h] at h0 ⊢
  cases s with
  | false => exact ⟨c, q, rfl, rfl⟩
  | true =>
    exfalso
    simp only [FP.Core.zval, FP.Core.zmag, FP.Core.sgn, FP.Core.signed, if_true] at h0
    omega
theorem mul_near {a b V : UInt64} (ha : FP.Core.DFin a) (hb : FP.Core.DFin b) (ha0 : 0 < dv a) (hb0 : 0 < dv b) (hR : FP.Core.DFin (FP.dmul a b)) (hV : FP.Core.DFin V) (hV0 : 0 ≤ dv V) :
    (dv a * dv b - dv (FP.dmul a b) * U1).natAbs ≤ (dv a * dv b - dv V * U1).natAbs := by
  obtain ⟨c, q, h1, e1⟩ := pos_bits ha ha0
  obtain ⟨d, r, h2, e2⟩ := pos_bits hb hb0
  have fa := FP.Core.val64_fits a
  have fb := FP.Core.val64_fits b
  have fV := FP.Core.val64_fits V
  have fR := FP.Core.val64_fits (FP.dmul a b)
  have hqm := FP.Core.qmin_b64
  rw [h1] at fa
  rw [h2] at fb
  obtain ⟨g1, g2, g3⟩ := FP.Core.product_units fa fb
  have hm : FP.Core.val64 (FP.dmul a b) = FP.Core.roundRatio FP.Core.b64 false (c * d) 1 (q + r) := by
    show FP.Core.val64 (FP.Core.dmul a b) = _
    rw [FP.Core.val64_dmul, h1, h2, g1]
    rfl
  obtain ⟨t, cR, qR, h3⟩ := hR
  obtain ⟨u, cV, qV, h4⟩ := hV
  have hsR : t = false := by
    have := FP.Core.sgn_roundRatio FP.Core.b64 false (c * d) 1 (q + r)
    rw [← hm, h3] at this
    exact this
  subst hsR
  rw [h4] at fV
  rw [h3] at fR
  have hd := FP.Core.roundRatio_nearest FP.Core.good_b64 (by decide) (hm.symm.trans h3) fV.1 fV.2.1 (e0 := 2 * FP.Core.b64.qmin) (by omega) g2
  unfold FP.Core.distance at hd
  rw [g3, FP.Core.units_fin fR (by omega), FP.Core.units_fin fV (by omega)] at hd
  have eR : dv (FP.dmul a b) = (FP.Core.zmag FP.Core.b64 (.fin false cR qR) : Int) := by unfold dv; rw [h3]; rfl
  have eV : dv V = (FP.Core.zmag FP.Core.b64 (.fin u cV qV) : Int) := by
    unfold dv at hV0 ⊢
    rw [h4] at hV0 ⊢
    cases u with
    | false => rfl
    | true =>
      simp only [FP.Core.zval, FP.Core.sgn, FP.Core.signed, if_true] at hV0 ⊢
      omega
  rw [eR, eV, e1, e2, ← U1_q]
  rw [Int.natCast_mul, Int.natCast_mul, Int.natCast_mul] at hd
  simp only [FP.Core.zmag] at hd ⊢
  simpa using hd
/-- a greater exact product, and no smaller a rounded one -/
theorem mul_mono {a b x y : UInt64} (ha : FP.Core.DFin a) (hb : FP.Core.DFin b) (ha0 : 0 < dv a) (hb0 : 0 < dv b) (hx : FP.Core.DFin x) (hy : FP.Core.DFin y) (hx0 : 0 < dv x) (hy0 : 0 < dv y) (hR : FP.Core.DFin (FP.dmul a b)) (hQ : FP.Core.DFin (FP.dmul x y)) (h : dv a * dv b < dv x * dv y) : dv (FP.dmul a b) ≤ dv (FP.dmul x y) := by
  refine Int.not_lt.mp (fun hlt => ?_)
  have n1 := mul_near ha hb ha0 hb0 hR hQ (dv_mul_nonneg hx hy (by omega) (by omega))
  have n2 := mul_near hx hy hx0 hy0 hQ hR (dv_mul_nonneg ha hb (by omega) (by omega))
  by_cases c1 : dv a * dv b ≤ dv (FP.dmul x y) * U1
  · have := dv_mul_le ha hb hQ.ne_nan c1; omega
  by_cases c2 : dv (FP.dmul a b) * U1 ≤ dv x * dv y
  · have := dv_mul_ge hx hy hR.ne_nan c2; omega
  generalize dv a * dv b = P at *
  generalize dv x * dv y = P2 at *
  generalize dv (FP.dmul x y) * U1 = X at *
  generalize dv (FP.dmul a b) * U1 = Y at *
  omega
/-! eighths: what the script's numbers are -/
def d8 (n : Int) (a : UInt64) : Prop := dB 1060 a ∧ dv a = n * U8
theorem dv_8th : dv 4593671619917905920 = U8 := by decide +kernel
theorem dB_8th : dB 1021 4593671619917905920 := by unfold dB; decide +kernel
theorem dv_i2d (x : Int32) : dv (FP.i2d x) = x.toInt * U1 := FP.Core.DInt_zval (FP.Core.i2d_int x)
theorem d8.fin {n : Int} {a : UInt64} (h : d8 n a) : FP.Core.DFin a := h.1.fin (by decide)
theorem d8.nn {n : Int} {a : UInt64} (h : d8 n a) : nn a := h.1.nn (by decide)
theorem d8_arg (x : Int32) : d8 x.toInt (FP.dmul (FP.i2d x) 4593671619917905920) := by
  refine ⟨dB.mul (i2d_dB x) dB_8th (by decide) (by decide) (by decide), ?_⟩
  have hx := FP.Core.int32_abs x
  obtain ⟨V, hV, eV⟩ := mk_V x.toInt 1071 (by omega) (by decide)
  have eV : dv V = x.toInt * U8 := eV
  have e : dv (FP.i2d x) * dv 4593671619917905920 = dv V * U1 := by
    rw [dv_i2d, dv_8th, eV, Int.mul_assoc, Int.mul_assoc, Int.mul_comm U1 U8]
  have h1 := dv_mul_le ((i2d_dB x).fin (by decide)) (dB_8th.fin (by decide)) hV.ne_nan (Int.le_of_eq e)
  have h2 := dv_mul_ge ((i2d_dB x).fin (by decide)) (dB_8th.fin (by decide)) hV.ne_nan (Int.le_of_eq e.symm)
  omega
theorem d8_sub {n k : Int} {a b : UInt64} (ha : d8 n a) (hb : d8 k b) (h : (n - k).natAbs < 2 ^ 53) : dB 1062 (FP.dsub a b) ∧ dv (FP.dsub a b) = (n - k) * U8 := by
  refine ⟨dB.sub ha.1 hb.1 (by decide) (by decide) (by decide), ?_⟩
  obtain ⟨V, hV, eV⟩ := mk_V (n - k) 1071 h (by decide)
  have eV : dv V = (n - k) * U8 := eV
  have e : dv a - dv b = dv V := by rw [ha.2, hb.2, eV, Int.sub_mul]
  have h1 := dv_sub_le ha.fin hb.fin hV.ne_nan (Int.le_of_eq e)
  have h2 := dv_sub_ge ha.fin hb.fin hV.ne_nan (Int.le_of_eq e.symm)
  omega
theorem d8_lt {n k : Int} {a b : UInt64} (ha : d8 n a) (hb : d8 k b) : dv a < dv b ↔ n < k := by
  rw [ha.2, hb.2]
  exact Int.mul_lt_mul_right U8_pos
theorem d8_le {n k : Int} {a b : UInt64} (ha : d8 n a) (hb : d8 k b) : dv a ≤ dv b ↔ n ≤ k := by
  rw [ha.2, hb.2]
  exact Int.mul_le_mul_right U8_pos
/-! magnitudes out of values -/
theorem dv_key {a b : UInt64} (ha : nn a) (hb : nn b) : dv a ≤ dv b ↔ FP.Core.dkey a ≤ FP.Core.dkey b := by
  have h1 := FP.Core.dcmp_lt_key hb ha
  have h2 : FP.Core.dcmp b a = some .lt ↔ dv b < dv a := ⟨fun h => (FP.Core.dcmp_lt.mp h).2.2, fun h => FP.Core.dcmp_lt.mpr ⟨hb, ha, h⟩⟩
  rw [h2] at h1
  omega
/-- at least a positive constant -/
theorem dL_of {a c : UInt64} (L : Nat) (ha : nn a) (hc : nn c) (h0 : c.toNat < 2 ^ 63) (hL : L * 2 ^ 52 ≤ c.toNat) (h : dv c ≤ dv a) : dL L a := by
  have h1 := (dv_key hc ha).mp h
  have h2 := a.toNat_lt
  unfold dL
  unfold FP.Core.dkey at h1
  rw [if_neg (by omega)] at h1
  split at h1 <;> omega
/-- not below zero, and at most a constant -/
theorem dB_of {a c : UInt64} (K : Nat) (ha : nn a) (hc : nn c) (h0 : c.toNat < K * 2 ^ 52) (hK : K ≤ 2047) (hp : 0 ≤ dv a) (h : dv a ≤ dv c) : dB K a := by
  have h1 := (dv_key ha hc).mp h
  have h2 := a.toNat_lt
  have h3 := (dv_key nn_0 ha).mp (by rw [dv_0]; exact hp)
  unfold dB
  unfold FP.Core.dkey at h1 h3
  rw [if_neg (show ¬ 2 ^ 63 ≤ c.toNat by omega)] at h1
  rw [if_neg (show ¬ 2 ^ 63 ≤ (0 : UInt64).toNat by decide)] at h3
  have h4 : (0 : UInt64).toNat = 0 := rfl
  rw [h4] at h3
  split at h1 <;> split at h3 <;> omega
end
section
/-! what every contract of this claim takes: the nest's links, the worlds; rows over numbers that are naturals; a loop -/
abbrev DD (dC : Nat → ClassId) (dI : Nat → Nat → Nat) : va_G := (dC, dI)
def nwL : List Cond := [.fieldLinkNest "SteamBends" 102 "SteamBends$Kind" "spring" "D" "SteamBends", .fieldLinkNest "SteamBends" 105 "SteamBends$Kind" "step" "D" "SteamBends", .fieldLinkNest "SteamBends" 129 "SteamBends$Shape" "pieces" "LSteamBends$Pairs;" "SteamBends", .fieldLinkNest "SteamBends" 56 "SteamBends$Kind" "rows" "LSteamBends$Pairs;" "SteamBends", .fieldLinkNest "SteamBends" 91 "SteamBends$Kind" "readings" "LSteamBends$Pairs;" "SteamBends", .fieldLinkNest "SteamBends$Kind" 32 "SteamBends$Pairs" "count" "I" "SteamBends", .fieldLinkNest "SteamBends$Shape" 20 "SteamBends$Pairs" "count" "I" "SteamBends"]
def nwM : List Cond := [.methodLinkNest "SteamBends" 17 yX2_init "SteamBends", .methodLinkNest "SteamBends" 30 yX0_init "SteamBends", .methodLinkNest "SteamBends$Kind" 53 yX3_isNone "SteamBends"]
def nwC : List Cond := [.castable "java/lang/IllegalArgumentException" "java/lang/IllegalArgumentException", .castable "java/lang/IllegalStateException" "java/lang/IllegalStateException", .castable "java/lang/IndexOutOfBoundsException" "java/lang/IndexOutOfBoundsException"]
/-- words that are no good words: links between nest mates, casts -/
def NW (U : State) : Prop := (∀ w ∈ nwL, va_Nw w U) ∧ (∀ w ∈ nwM, va_Nw w U) ∧ ∀ w ∈ nwC, va_Nw w U
theorem nwL_on : ∀ w ∈ nwL, w.onTables = true := by decide +kernel
theorem nwM_on : ∀ w ∈ nwM, w.onTables = true := by decide +kernel
theorem nwC_on : ∀ w ∈ nwC, w.onTables = true := by decide +kernel
theorem NW.call {U : State} {g : JFrame} {mk : MethodId} {a : Array Value} (h : NW U) : NW (U.calling g mk a) :=
  ⟨fun w hw => va_Nw.same (u := U) (nwL_on w hw) rfl (h.1 w hw), fun w hw => va_Nw.same (u := U) (nwM_on w hw) rfl (h.2.1 w hw), fun w hw => va_Nw.same (u := U) (nwC_on w hw) rfl (h.2.2 w hw)⟩
theorem NW.warm {s U : State} (hW : s.WarmedH U.vm) (h : NW s) : NW U := by
  refine ⟨fun w hw => ?_, fun w hw => ?_, fun w hw => ?_⟩
  · have h1 := h.1 w hw
    simp only [nwL, List.mem_cons, List.not_mem_nil, or_false] at hw
    rcases hw with rfl | rfl | rfl | rfl | rfl | rfl | rfl <;> exact va_Nw.warmF hW h1
  · have h1 := h.2.1 w hw
    simp only [nwM, List.mem_cons, List.not_mem_nil, or_false] at hw
    rcases hw with rfl | rfl | rfl <;> exact va_Nw.warmM hW h1
  · have h1 := h.2.2 w hw
    simp only [nwC, List.mem_cons, List.not_mem_nil, or_false] at hw
    rcases hw with rfl | rfl | rfl <;> exact va_Nw.warmC hW h1
/-- by their places -/
theorem NW.f {U : State} (h : NW U) (i : Nat) {w : Cond} (hw : nwL[i]? = some w) : va_Nw w U := h.1 w (List.mem_of_getElem? hw)
theorem NW.m {U : State} (h : NW U) (i : Nat) {w : Cond} (hw : nwM[i]? = some w) : va_Nw w U := h.2.1 w (List.mem_of_getElem? hw)
theorem NW.c {U : State} (h : NW U) (i : Nat) {w : Cond} (hw : nwC[i]? = some w) : va_Nw w U := h.2.2 w (List.mem_of_getElem? hw)
/-- a start that only reads -/
def PK (D : va_G) (tys : List (ClassId × FieldType)) (ws : va_W) (U : State) : Prop := va_P D vwCl ws U.heap ∧ va_K D vwCl tys U ∧ NW U
theorem PK.blind {args : List Value} {D : va_G} {tys : List (ClassId × FieldType)} {ws : va_W} : FrameBlind (va_Pc args (PK D tys ws)) :=
  fun a U g mk q => ⟨q.1, q.2.1, va_K.moved (u := U) (U := U.calling g mk a) (Vm.Alike.refl U.vm) q.2.2.1, q.2.2.2.call⟩
theorem PK.at {D : va_G} {tys : List (ClassId × FieldType)} {ws : va_W} {H : Heap} {s U : State} (hP : va_P D vwCl ws H) (hK : va_K D vwCl tys s) (hN : NW s) (hU : U.heap = H) (hW : s.WarmedH U.vm) : PK D tys ws U := ⟨by rw [hU]; exact hP, va_K.moved hW.alike hK, hN.warm hW⟩
/-- a start that writes: its cells are apart -/
def PW (D : va_G) (tys : List (ClassId × FieldType)) (ws : va_W) (sz : Nat) (U : State) : Prop := U.heap.size = sz ∧ va_P D vwCl ws U.heap ∧ va_K D vwCl tys U ∧ va_D (fun _ => True) ws ∧ NW U
theorem PW.blind {args : List Value} {D : va_G} {tys : List (ClassId × FieldType)} {ws : va_W} {sz : Nat} : FrameBlind (va_Pc args (PW D tys ws sz)) :=
  fun a U g mk q => ⟨q.1, q.2.1, q.2.2.1, va_K.moved (u := U) (U := U.calling g mk a) (Vm.Alike.refl U.vm) q.2.2.2.1, q.2.2.2.2.1, q.2.2.2.2.2.call⟩
theorem PW.at {D : va_G} {tys : List (ClassId × FieldType)} {ws : va_W} {A : Nat → Prop} {H : Heap} {s U : State} (hP : va_P D vwCl ws H) (hK : va_K D vwCl tys s) (hD : va_D A ws) (hN : NW s) (hU : U.heap = H) (hW : s.WarmedH U.vm) : PW D tys ws H.size U := ⟨by rw [hU], by rw [hU]; exact hP, va_K.moved hW.alike hK, hD.weaken (fun _ _ _ _ => trivial), hN.warm hW⟩
/-- the end of one that writes -/
def QW (D : va_G) (ws : va_W) (A : Nat → Prop) (t : State) : Prop := va_P D vwCl ws t.heap ∧ va_D A ws
/-- behind a call that changes nothing old -/
theorem va_still {D : va_G} {ws : va_W} {H H1 : Heap} (h : va_P D vwCl ws H) (hk : ∀ q : Nat, q < H.size → ¬ False → H1[q]? = H[q]?) : va_P D vwCl ws H1 := h.kept (fun k q hq => hk q.1 (h k q hq).lt (fun z => z))
theorem va_S.up {A B : Nat → Prop} {H0 H : Heap} {locs : List Loc} (h : va_S A H0 H locs) (hAB : ∀ q, A q → B q) : va_S B H0 H locs := ⟨h.1, fun q h1 h2 => h.2.1 q h1 (fun z => h2 (hAB q z)), fun l hl => hAB _ (h.2.2 l hl)⟩
theorem noA {P : Addr → Prop} : ∀ q : Addr, (fun _ : Addr => False) q → P q := fun _ h => h.elim
theorem noL {P : Nat → Addr → Prop} {n : Nat} : ∀ q : Nat, q < n → (fun _ : Nat => False) q → P n q := fun _ _ h => h.elim
/-- an answer that is a truth -/
theorem b01 {P : Prop} [Decidable P] {r : Int32} (h : r = if P then 1 else 0) : r = 0 ↔ ¬ P := by
  rw [h]
  by_cases hP : P
  · rw [if_pos hP]; exact ⟨fun h => absurd h (by decide), fun h => absurd hP h⟩
  · rw [if_neg hP]; exact ⟨fun _ => hP, fun _ => rfl⟩
theorem b01n {P : Prop} [Decidable P] {r : Int32} (h : r = if P then 1 else 0) : ¬ r = 0 ↔ P := by
  rw [b01 h]; exact Decidable.not_not
theorem b01_nar {P : Prop} [Decidable P] {r : Int32} (h : r = if P then 1 else 0) : narrow .boolean (.int r) = .int r := by
  rw [h]; by_cases hP : P
  · rw [if_pos hP]; decide
  · rw [if_neg hP]; decide
section BR
variable {p : Program} {l : Launch} {e : Env} {R : Room} {s : State} {m : MethodId} {args : Array Value} {below : List Frame} {meth : Method} {c : Code} {H : Heap} {locs : List Loc} {cells slots : Nat} {Q : State → Prop}
variable {cc : ByteArray} {pc : Nat} {ls : Array Slot} {rest st : List Value} {D : va_G} {A : Nat → Prop} {a : Nat} {tys : List (ClassId × FieldType)} {ws : va_W} {H0 : Heap}
theorem lv_iaddN (hexec : p.tables.exec = Jvm.exec) (hb : c.code = cc) {x y : Nat} (hdg : decode cc pc = .ok (.iadd, 1))
    (k : W p l e R s m args below meth c H locs cells slots Q (F0 m (pc + 1) ls (.int (nI (x + y)) :: rest))) : W p l e R s m args below meth c H locs cells slots Q (F0 m pc ls (.int (nI y) :: .int (nI x) :: rest)) := by
  refine lv_iadd hexec hb hdg ?_
  rw [nI_add]
  exact k
theorem lv_isubN (hexec : p.tables.exec = Jvm.exec) (hb : c.code = cc) {x y : Nat} (hdg : decode cc pc = .ok (.isub, 1)) (h : y ≤ x)
    (k : W p l e R s m args below meth c H locs cells slots Q (F0 m (pc + 1) ls (.int (nI (x - y)) :: rest))) : W p l e R s m args below meth c H locs cells slots Q (F0 m pc ls (.int (nI y) :: .int (nI x) :: rest)) := by
  refine lv_isub hexec hb hdg ?_
  rw [pk_sub h]
  exact k
theorem lv_imulN (hexec : p.tables.exec = Jvm.exec) (hb : c.code = cc) {x y : Nat} (hdg : decode cc pc = .ok (.imul, 1))
    (k : W p l e R s m args below meth c H locs cells slots Q (F0 m (pc + 1) ls (.int (nI (x * y)) :: rest))) : W p l e R s m args below meth c H locs cells slots Q (F0 m pc ls (.int (nI y) :: .int (nI x) :: rest)) := by
  refine lv_imul hexec hb hdg ?_
  rw [pk_mul]
  exact k
theorem va_daldN (hexec : p.tables.exec = Jvm.exec) (hb : c.code = cc) (hK : va_K D vwCl tys s) (hP : va_P D vwCl ws H) (q0 t0 : Nat) {cA : ClassId} {n : Nat} {f : Nat → UInt64} (ha : ws[q0]? = some (a, .inl (cA, n, .inr (.inr (.inr (.inl f)))))) (ht : tys[t0]? = some (cA, .double)) {j : Nat} (hj : j < n) (hn : n < 2 ^ 31) (hdg : decode cc pc = .ok (.daload, 1))
    (kk : W p l e R s m args below meth c H locs cells slots Q (F0 m (pc + 1) ls (.double (f j) :: rest))) : W p l e R s m args below meth c H locs cells slots Q (F0 m pc ls (.int (nI j) :: .ref a :: rest)) := by
  refine va_dald hexec hb hK hP q0 t0 ha ht (vp_in_nI hj hn) hdg ?_
  rw [nI_clamp (Nat.lt_trans hj hn)]
  exact kk
theorem va_ialdN (hexec : p.tables.exec = Jvm.exec) (hb : c.code = cc) (hK : va_K D vwCl tys s) (hP : va_P D vwCl ws H) (q0 t0 : Nat) {cA : ClassId} {n : Nat} {f : Nat → Int32} (ha : ws[q0]? = some (a, .inl (cA, n, .inl f))) (ht : tys[t0]? = some (cA, .int)) {j : Nat} (hj : j < n) (hn : n < 2 ^ 31) (hdg : decode cc pc = .ok (.iaload, 1))
    (kk : W p l e R s m args below meth c H locs cells slots Q (F0 m (pc + 1) ls (.int (f j) :: rest))) : W p l e R s m args below meth c H locs cells slots Q (F0 m pc ls (.int (nI j) :: .ref a :: rest)) := by
  refine va_iald hexec hb hK hP q0 t0 ha ht (vp_in_nI hj hn) hdg ?_
  rw [nI_clamp (Nat.lt_trans hj hn)]
  exact kk
theorem va_dastN (hexec : p.tables.exec = Jvm.exec) (hb : c.code = cc) (hK : va_K D vwCl tys s) (hP : va_P D vwCl ws H) (hD : va_D A ws) (hS : va_S A H0 H locs) (q0 t0 : Nat) {cA : ClassId} {n : Nat} {f : Nat → UInt64} (ha : ws[q0]? = some (a, .inl (cA, n, .inr (.inr (.inr (.inl f)))))) (ht : tys[t0]? = some (cA, .double)) {j : Nat} {x : UInt64} (hj : j < n) (hn : n < 2 ^ 31) (hdg : decode cc pc = .ok (.dastore, 1))
    (kk : ∀ (H1 : Heap) (locs1 : List Loc), va_P D vwCl (ws.set q0 (a, .inl (cA, n, .inr (.inr (.inr (.inl (vf_upd f j x))))))) H1 → va_D A (ws.set q0 (a, .inl (cA, n, .inr (.inr (.inr (.inl (vf_upd f j x))))))) → va_S A H0 H1 locs1 → W p l e R s m args below meth c H1 locs1 cells slots Q (F0 m (pc + 1) ls rest)) : W p l e R s m args below meth c H locs cells slots Q (F0 m pc ls (.double x :: .int (nI j) :: .ref a :: rest)) := by
  refine va_dast hexec hb hK hP hD hS q0 t0 ha ht (vp_in_nI hj hn) hdg ?_
  rw [nI_clamp (Nat.lt_trans hj hn)]
  exact kk
theorem va_iastN (hexec : p.tables.exec = Jvm.exec) (hb : c.code = cc) (hK : va_K D vwCl tys s) (hP : va_P D vwCl ws H) (hD : va_D A ws) (hS : va_S A H0 H locs) (q0 t0 : Nat) {cA : ClassId} {n : Nat} {f : Nat → Int32} (ha : ws[q0]? = some (a, .inl (cA, n, .inl f))) (ht : tys[t0]? = some (cA, .int)) {j : Nat} {x : Int32} (hj : j < n) (hn : n < 2 ^ 31) (hdg : decode cc pc = .ok (.iastore, 1))
    (kk : ∀ (H1 : Heap) (locs1 : List Loc), va_P D vwCl (ws.set q0 (a, .inl (cA, n, .inl (upd f j x)))) H1 → va_D A (ws.set q0 (a, .inl (cA, n, .inl (upd f j x)))) → va_S A H0 H1 locs1 → W p l e R s m args below meth c H1 locs1 cells slots Q (F0 m (pc + 1) ls rest)) : W p l e R s m args below meth c H locs cells slots Q (F0 m pc ls (.int x :: .int (nI j) :: .ref a :: rest)) := by
  refine va_iast hexec hb hK hP hD hS q0 t0 ha ht (vp_in_nI hj hn) hdg ?_
  rw [nI_clamp (Nat.lt_trans hj hn)]
  exact kk
/-- a loop: I n x H locs ls holds at its head, n falls; the way out is within the step -/
theorem w_loop {σ : Type} (I : Nat → σ → Heap → List Loc → Array Slot → Prop) {n0 : Nat} {x0 : σ} (h0 : I n0 x0 H locs ls)
    (step : ∀ (n : Nat) (x : σ) (H : Heap) (locs : List Loc) (ls : Array Slot), I n x H locs ls → (∀ (k : Nat), k < n → ∀ (x : σ) (H : Heap) (locs : List Loc) (ls : Array Slot), I k x H locs ls → W p l e R s m args below meth c H locs cells slots Q (F0 m pc ls st)) → W p l e R s m args below meth c H locs cells slots Q (F0 m pc ls st)) :
    W p l e R s m args below meth c H locs cells slots Q (F0 m pc ls st) := by
  have key : ∀ (N n : Nat), n < N → ∀ (x : σ) (H : Heap) (locs : List Loc) (ls : Array Slot), I n x H locs ls → W p l e R s m args below meth c H locs cells slots Q (F0 m pc ls st) := by
    intro N
    induction N with
    | zero => exact fun n h => absurd h (Nat.not_lt_zero n)
    | succ N ih => exact fun n hn x H locs ls hI => step n x H locs ls hI (fun k hk => ih k (by omega))
  exact key (n0 + 1) n0 (Nat.lt_succ_self _) x0 H locs ls h0
end BR
section BR2
variable {p : Program} {l : Launch} {e : Env} {R : Room} {s : State} {m : MethodId} {args : Array Value} {below : List Frame} {meth : Method} {c : Code} {H : Heap} {locs : List Loc} {cells slots : Nat} {Q : State → Prop}
variable {cc : ByteArray} {pc : Nat} {ls : Array Slot} {rest : List Value}
theorem lv_idivN (hexec : p.tables.exec = Jvm.exec) (hb : c.code = cc) {x y : Nat} (hdg : decode cc pc = .ok (.idiv, 1)) (hx : x < 2 ^ 31) (h0 : 0 < y) (hy : y < 2 ^ 31)
    (k : W p l e R s m args below meth c H locs cells slots Q (F0 m (pc + 1) ls (.int (nI (x / y)) :: rest))) : W p l e R s m args below meth c H locs cells slots Q (F0 m pc ls (.int (nI y) :: .int (nI x) :: rest)) := by
  refine lv_idiv hexec hb hdg (nI_ne0 h0 hy) ?_
  rw [pk_div hx h0 hy]
  exact k
theorem lv_iremN (hexec : p.tables.exec = Jvm.exec) (hb : c.code = cc) {x y : Nat} (hdg : decode cc pc = .ok (.irem, 1)) (hx : x < 2 ^ 31) (h0 : 0 < y) (hy : y < 2 ^ 31)
    (k : W p l e R s m args below meth c H locs cells slots Q (F0 m (pc + 1) ls (.int (nI (x % y)) :: rest))) : W p l e R s m args below meth c H locs cells slots Q (F0 m pc ls (.int (nI y) :: .int (nI x) :: rest)) := by
  refine lv_irem hexec hb hdg (nI_ne0 h0 hy) ?_
  rw [pk_rem hx h0 hy]
  exact k
end BR2
end
section
/-! what the calls answer, as numbers: both classes are tied to these -/
theorem dB_d0 : dB 1 FP.dconst0 := by unfold dB; decide +kernel
theorem dB_d1 : dB 1024 FP.dconst1 := by unfold dB; decide +kernel
theorem dB_0 : dB 1 (0 : UInt64) := by unfold dB; decide +kernel
theorem nn_of {a : UInt64} (h : a.toNat % 2 ^ 63 ≤ 9218868437227405312) : nn a := (FP.Core.ne_nan a).mpr h
theorem nn_d1 : nn FP.dconst1 := dB_d1.nn (by decide)
theorem dv_d1 : dv FP.dconst1 = 8 * U8 := by decide +kernel
theorem dv_2 : dv 4611686018427387904 = 2 * U1 := by decide +kernel
abbrev noR : UInt64 := 13830554455654793216
theorem dB_noR : dB 1024 noR := by unfold dB; decide +kernel
theorem dv_noR : dv noR = -(8 * U8) := by decide +kernel
/-- the radius between the rows k - 1 and k -/
def interp (T R : Nat → UInt64) (k : Nat) (t : UInt64) : UInt64 := FP.dadd (R (k - 1)) (FP.ddiv (FP.dmul (FP.dsub t (T (k - 1))) (FP.dsub (R k) (R (k - 1)))) (FP.dsub (T k) (T (k - 1))))
/-- RADIUS, over the first rows: the latest that says one -/
def rRad (T R : Nat → UInt64) (t : UInt64) : Nat → Option UInt64
  | 0 => none
  | k + 1 => if dv t = dv (T k) then some (R k) else if 0 < k ∧ dv (T (k - 1)) < dv t ∧ dv t < dv (T k) then some (interp T R k t) else rRad T R t k
/-- rows as they can be -/
def rowsOK (T R : Nat → UInt64) (n : Nat) : Prop := n ≤ 12 ∧ (∀ i, i < n → ∃ a b : Int, d8 a (T i) ∧ d8 b (R i) ∧ 1 ≤ a ∧ a ≤ 8000 ∧ 1 ≤ b ∧ b ≤ 80000) ∧ ∀ i j, i < j → j < n → dv (T i) < dv (T j)
theorem rowsOK.T {T R : Nat → UInt64} {n i : Nat} (h : rowsOK T R n) (hi : i < n) : dB 1060 (T i) := by obtain ⟨a, b, ha, -⟩ := h.2.1 i hi; exact ha.1
theorem rowsOK.R {T R : Nat → UInt64} {n i : Nat} (h : rowsOK T R n) (hi : i < n) : dB 1060 (R i) := by obtain ⟨a, b, -, hb, -⟩ := h.2.1 i hi; exact hb.1
theorem rowsOK.le {T R : Nat → UInt64} {n i j : Nat} (h : rowsOK T R n) (hij : i ≤ j) (hj : j < n) : dv (T i) ≤ dv (T j) := by
  rcases Nat.lt_or_ge i j with q | q
  · exact Int.le_of_lt (h.2.2 i j q hj)
  · rw [show i = j by omega]; exact Int.le_refl _
/-- the rows' distance is a divisor, and exact -/
theorem rowsOK.gap {T R : Nat → UInt64} {n i j : Nat} (h : rowsOK T R n) (hij : i < j) (hj : j < n) : ∃ k : Int, 1 ≤ k ∧ k ≤ 8000 ∧ dB 1062 (FP.dsub (T j) (T i)) ∧ dv (FP.dsub (T j) (T i)) = k * U8 ∧ dL 1020 (FP.dsub (T j) (T i)) := by
  obtain ⟨a, -, ha, -, a1, a2, -⟩ := h.2.1 i (by omega)
  obtain ⟨b, -, hb, -, b1, b2, -⟩ := h.2.1 j hj
  have hlt := (d8_lt ha hb).mp (h.2.2 i j hij hj)
  obtain ⟨h1, h2⟩ := d8_sub hb ha (by omega)
  refine ⟨b - a, by omega, by omega, h1, h2, dL_of (c := 4593671619917905920) 1020 (h1.nn (by decide)) (dB_8th.nn (by decide)) (by decide) (by decide) ?_⟩
  rw [dv_8th, h2]
  have := Int.mul_le_mul_of_nonneg_right (show (1 : Int) ≤ b - a by omega) (Int.le_of_lt U8_pos)
  omega
theorem rowsOK.dL {T R : Nat → UInt64} {n i j : Nat} (h : rowsOK T R n) (hij : i < j) (hj : j < n) : dL 1020 (FP.dsub (T j) (T i)) := (h.gap hij hj).choose_spec.2.2.2.2
theorem interp_dB {T R : Nat → UInt64} {n k : Nat} {t : UInt64} (h : rowsOK T R n) (h0 : 0 < k) (hk : k < n) (ht : dB 1064 t) : dB 1112 (interp T R k t) := by
  have a1 := dB.sub ht (h.T (show k - 1 < n by omega)) (M := 1064) (by omega) (by omega) (by omega)
  have a2 := dB.sub (h.R hk) (h.R (show k - 1 < n by omega)) (M := 1060) (by omega) (by omega) (by omega)
  have a3 := dB.mul (M := 1106) a1 a2 (by omega) (by omega) (by omega)
  have a4 := dB.sub (h.T hk) (h.T (show k - 1 < n by omega)) (M := 1060) (by omega) (by omega) (by omega)
  have a5 := dB.div (M := 1110) a3 (h.dL (show k - 1 < k by omega) hk) a4 (by omega) (by omega) (by omega) (by omega)
  exact dB.add (M := 1110) (h.R (show k - 1 < n by omega)) a5 (by omega) (by omega) (by omega)
/-- no radius between two rows is below zero -/
theorem interp_pos {T R : Nat → UInt64} {n k : Nat} {t : UInt64} (h : rowsOK T R n) (h0 : 0 < k) (hk : k < n) (ht : dB 1064 t) (h1 : dv (T (k - 1)) < dv t) (h2 : dv t < dv (T k)) : 0 ≤ dv (interp T R k t) := by
  obtain ⟨g, g1, g2, g3, g4, g5⟩ := h.gap (show k - 1 < k by omega) hk
  obtain ⟨a0, b0, ha0, hb0, -, -, r1, r2⟩ := h.2.1 (k - 1) (by omega)
  obtain ⟨a1, b1, ha1, hb1, -, -, r3, r4⟩ := h.2.1 k hk
  have c1 := dB.sub ht ha0.1 (M := 1064) (by omega) (by omega) (by omega)
  obtain ⟨c2, c3⟩ := d8_sub hb1 hb0 (by omega)
  have c4 := dB.mul (M := 1106) c1 c2 (by omega) (by omega) (by omega)
  have c5 := dB.div (M := 1110) c4 g5 g3 (by omega) (by omega) (by omega) (by omega)
  have hgp : 0 < dv (FP.dsub (T k) (T (k - 1))) := by
    rw [g4]
    exact Int.mul_pos (by omega) U8_pos
  -- the way from the row below: not below zero, at most the rows' distance
  have w1 : 0 ≤ dv (FP.dsub t (T (k - 1))) := by
    have := dv_sub_ge (ht.fin (by decide)) ha0.fin nn_0 (by rw [dv_0]; omega)
    rwa [dv_0] at this
  have w2 : dv (FP.dsub t (T (k - 1))) ≤ dv (FP.dsub (T k) (T (k - 1))) := by
    refine dv_sub_le (ht.fin (by decide)) ha0.fin (g3.nn (by decide)) ?_
    have e : dv (FP.dsub (T k) (T (k - 1))) = dv (T k) - dv (T (k - 1)) := by
      have hh := h.gap (show k - 1 < k by omega) hk
      obtain ⟨q1, q2⟩ := d8_sub ha1 ha0 (by
        obtain ⟨x1, x2, x3, -, x5, x6, -⟩ := h.2.1 (k - 1) (by omega)
        obtain ⟨y1, y2, y3, -, y5, y6, -⟩ := h.2.1 k hk
        have z1 := (d8_le x3 ha0).mp (Int.le_refl _)
        have z2 := (d8_le ha0 x3).mp (Int.le_refl _)
        have z3 := (d8_le y3 ha1).mp (Int.le_refl _)
        have z4 := (d8_le ha1 y3).mp (Int.le_refl _)
        omega)
      rw [q2, ha1.2, ha0.2, Int.sub_mul]
    omega
  have hR0 : 0 ≤ dv (R (k - 1)) := by rw [hb0.2]; exact Int.mul_nonneg (by omega) (Int.le_of_lt U8_pos)
  have hR1 : 0 ≤ dv (R k) := by rw [hb1.2]; exact Int.mul_nonneg (by omega) (Int.le_of_lt U8_pos)
  unfold interp
  rcases Int.le_total b0 b1 with q | q
  · have p1 : 0 ≤ dv (FP.dsub (R k) (R (k - 1))) := by rw [c3]; exact Int.mul_nonneg (by omega) (Int.le_of_lt U8_pos)
    have p2 := dv_mul_nonneg (c1.fin (by decide)) (c2.fin (by decide)) w1 p1
    have p3 := dv_div_nonneg (c4.fin (by decide)) (g3.fin (by decide)) p2 hgp
    exact dv_add_nonneg hb0.fin (c5.fin (by decide)) hR0 p3
  · -- the product of the whole way and the fall is exact
    obtain ⟨V, hV, eV⟩ := mk_V (g * (b1 - b0)) 1068 (by
      have : (g * (b1 - b0)).natAbs = g.natAbs * (b1 - b0).natAbs := Int.natAbs_mul _ _
      rw [this]
      have u1 : g.natAbs ≤ 8000 := by omega
      have u2 : (b1 - b0).natAbs ≤ 80000 := by omega
      exact Nat.lt_of_le_of_lt (Nat.mul_le_mul u1 u2) (by decide)) (by decide)
    have eU : U8 * U8 = ((2 ^ 1068 : Nat) : Int) * U1 := by decide +kernel
    have eVP : dv V * U1 = dv (FP.dsub (T k) (T (k - 1))) * dv (FP.dsub (R k) (R (k - 1))) := by
      rw [eV, g4, c3]
      calc g * (b1 - b0) * ((2 ^ 1068 : Nat) : Int) * U1 = g * (b1 - b0) * (((2 ^ 1068 : Nat) : Int) * U1) := by rw [Int.mul_assoc]
        _ = g * (b1 - b0) * (U8 * U8) := by rw [eU]
        _ = g * U8 * ((b1 - b0) * U8) := by
          rw [Int.mul_assoc, Int.mul_assoc, Int.mul_left_comm (b1 - b0) U8 U8]
    have p1 : dv (FP.dsub (R k) (R (k - 1))) ≤ 0 := by
      rw [c3]
      exact Int.mul_nonpos_of_nonpos_of_nonneg (by omega) (Int.le_of_lt U8_pos)
    have p2 : dv V ≤ dv (FP.dmul (FP.dsub t (T (k - 1))) (FP.dsub (R k) (R (k - 1)))) := by
      refine dv_mul_ge (c1.fin (by decide)) (c2.fin (by decide)) hV.ne_nan ?_
      rw [eVP]
      exact Int.mul_le_mul_of_nonpos_right w2 p1
    have p3 : dv (FP.dsub (R k) (R (k - 1))) ≤ dv (FP.ddiv (FP.dmul (FP.dsub t (T (k - 1))) (FP.dsub (R k) (R (k - 1)))) (FP.dsub (T k) (T (k - 1)))) := by
      refine dv_div_ge (c4.fin (by decide)) (g3.fin (by decide)) hgp (c2.nn (by decide)) ?_
      rw [Int.mul_comm, ← eVP]
      exact Int.mul_le_mul_of_nonneg_right p2 (Int.le_of_lt U1_pos)
    have p4 := dv_add_ge hb0.fin (c5.fin (by decide)) hb1.nn (V := R k) (by
      have : dv (R k) = dv (R (k - 1)) + dv (FP.dsub (R k) (R (k - 1))) := by rw [c3, hb0.2, hb1.2, ← Int.add_mul]; congr 1; omega
      omega)
    omega
/-! which row says the radius -/
theorem rRad_above {T R : Nat → UInt64} {t : UInt64} {n i : Nat} (h : rowsOK T R n) (hi : i < n) (ht : dv t ≤ dv (T i)) : ∀ m, i + 1 ≤ m → m ≤ n → rRad T R t m = rRad T R t (i + 1) := by
  intro m h1 h2
  induction m with
  | zero => omega
  | succ m ih =>
    rcases Nat.lt_or_ge i m with q | q
    · have e1 := h.2.2 i m q (by omega)
      have e2 := h.le (show i ≤ m - 1 by omega) (show m - 1 < n by omega)
      rw [rRad, if_neg (by omega), if_neg (by omega)]
      exact ih (by omega) (by omega)
    · rw [show m = i by omega]
theorem rRad_below {T R : Nat → UInt64} {t : UInt64} {n : Nat} (m : Nat) (hm : m ≤ n) (ht : ∀ j, j < m → dv (T j) < dv t) : rRad T R t m = none := by
  induction m with
  | zero => rfl
  | succ m ih =>
    have := ht m (by omega)
    rw [rRad, if_neg (by omega), if_neg (by omega)]
    exact ih (by omega) (fun j hj => ht j (by omega))
theorem rRad_eq {T R : Nat → UInt64} {t : UInt64} {n i : Nat} (h : rowsOK T R n) (hi : i < n) (ht : dv (T i) = dv t) : rRad T R t n = some (R i) := by
  rw [rRad_above h hi (by omega) n (by omega) (Nat.le_refl n), rRad, if_pos ht.symm]
theorem rRad_mid {T R : Nat → UInt64} {t : UInt64} {n i : Nat} (h : rowsOK T R n) (h0 : 0 < i) (hi : i < n) (h1 : dv (T (i - 1)) < dv t) (h2 : dv t < dv (T i)) : rRad T R t n = some (interp T R i t) := by
  rw [rRad_above h hi (by omega) n (by omega) (Nat.le_refl n), rRad, if_neg (by omega), if_pos ⟨h0, h1, h2⟩]
theorem rRad_first {T R : Nat → UInt64} {t : UInt64} {n : Nat} (h : rowsOK T R n) (hn : 0 < n) (h2 : dv t < dv (T 0)) : rRad T R t n = none := by
  rw [rRad_above h hn (by omega) n (by omega) (Nat.le_refl n), rRad, if_neg (by omega), if_neg (by omega)]
  rfl
theorem rRad_some {T R : Nat → UInt64} {t r : UInt64} {n : Nat} (h : rowsOK T R n) (ht : dB 1064 t) : ∀ m, m ≤ n → rRad T R t m = some r → dB 1112 r ∧ 0 ≤ dv r := by
  intro m
  induction m with
  | zero => intro _ e; cases e
  | succ m ih =>
    intro hm e
    rw [rRad] at e
    split at e
    · cases e
      obtain ⟨a, b, -, hb, -, -, r1, -⟩ := h.2.1 m (by omega)
      refine ⟨hb.1.mono (by omega), ?_⟩
      rw [hb.2]
      exact Int.mul_nonneg (by omega) (Int.le_of_lt U8_pos)
    · split at e
      · rename_i q
        cases e
        exact ⟨interp_dB h q.1 (by omega) ht, interp_pos h q.1 (by omega) ht q.2.1 q.2.2⟩
      · exact ih (by omega) e
theorem rRad_dB {T R : Nat → UInt64} {t : UInt64} {n : Nat} (h : rowsOK T R n) (ht : dB 1064 t) : dB 1112 ((rRad T R t n).getD noR) := by
  cases e : rRad T R t n with
  | none => exact dB_noR.mono (by omega)
  | some r => exact (rRad_some h ht n (Nat.le_refl n) e).1
theorem rRad_neg {T R : Nat → UInt64} {t : UInt64} {n : Nat} (h : rowsOK T R n) (ht : dB 1064 t) : dv ((rRad T R t n).getD noR) < 0 ↔ rRad T R t n = none := by
  cases e : rRad T R t n with
  | none => exact ⟨fun _ => rfl, fun _ => by show dv noR < 0; rw [dv_noR]; have := U8_pos; omega⟩
  | some r =>
    have := (rRad_some h ht n (Nat.le_refl n) e).2
    exact ⟨fun q => absurd q (by show ¬ dv r < 0; omega), fun q => by cases q⟩
/-! strips -/
def strp (T R : Nat → UInt64) (n : Nat) (t w : UInt64) : Nat → Nat → Int32
  | 0, _ => -1
  | f + 1, k => match rRad T R (FP.ddiv t (FP.i2d (nI k))) n with
    | some r => if dv r ≤ dv w then nI k else strp T R n t w f (k + 1)
    | none => strp T R n t w f (k + 1)
theorem nI_toInt' {k : Nat} (h : k < 2 ^ 31) : (nI k).toInt = (k : Int) := nI_toInt h
theorem dv_i2dN {k : Nat} (h : k < 2 ^ 31) : dv (FP.i2d (nI k)) = (k : Int) * U1 := by rw [dv_i2d, nI_toInt h]
theorem i2d_dL {k : Nat} (h1 : 1 ≤ k) (h : k < 2 ^ 31) : dL 1023 (FP.i2d (nI k)) := by
  have h2 := (FP.Core.i2d_big (v := nI k) (by rw [nI_toInt h]; omega)).1
  exact h2
theorem i2d_pos {k : Nat} (h1 : 1 ≤ k) (h : k < 2 ^ 31) : 0 < dv (FP.i2d (nI k)) := by
  rw [dv_i2dN h]; exact Int.mul_pos (by omega) U1_pos
theorem part_dB {t : UInt64} {k : Nat} (ht : dB 1060 t) (h1 : 1 ≤ k) (h : k < 2 ^ 31) : dB 1064 (FP.ddiv t (FP.i2d (nI k))) := dB.div ht (i2d_dL h1 h) (i2d_dB (nI k)) (by omega) (by omega) (by omega) (by omega)
theorem strp_no {T R : Nat → UInt64} {n f k : Nat} {t w : UInt64} (h : rRad T R (FP.ddiv t (FP.i2d (nI k))) n = none) : strp T R n t w (f + 1) k = strp T R n t w f (k + 1) := by
  rw [strp, h]
theorem strp_more {T R : Nat → UInt64} {n f k : Nat} {t w r : UInt64} (h : rRad T R (FP.ddiv t (FP.i2d (nI k))) n = some r) (hr : ¬ dv r ≤ dv w) : strp T R n t w (f + 1) k = strp T R n t w f (k + 1) := by
  rw [strp, h]; exact if_neg hr
theorem strp_yes {T R : Nat → UInt64} {n f k : Nat} {t w r : UInt64} (h : rRad T R (FP.ddiv t (FP.i2d (nI k))) n = some r) (hr : dv r ≤ dv w) : strp T R n t w (f + 1) k = nI k := by
  rw [strp, h]; exact if_pos hr
/-! readings -/
def rsd (B K : Nat → UInt64) (s : UInt64) : Nat → UInt64
  | 0 => FP.dconst0
  | k + 1 => FP.dadd (rsd B K s k) (FP.dmul (FP.dsub (K k) (FP.dmul (B k) (FP.dadd FP.dconst1 s))) (FP.dsub (K k) (FP.dmul (B k) (FP.dadd FP.dconst1 s))))
def readsOK (B K : Nat → UInt64) (n : Nat) : Prop := n ≤ 20 ∧ ∀ i, i < n → dB 1060 (B i) ∧ dB 1060 (K i)
theorem rsd_dB {B K : Nat → UInt64} {n : Nat} {s : UInt64} (h : readsOK B K n) (hs : dB 1040 s) : ∀ k, k ≤ n → dB (1150 + 2 * k) (rsd B K s k) := by
  intro k
  induction k with
  | zero => intro _; exact dB_d0.mono (by omega)
  | succ k ih =>
    intro hk
    have h1 := h.1
    have c1 := dB.add dB_d1 hs (M := 1040) (by omega) (by omega) (by omega)
    have c2 := dB.mul (M := 1080) (h.2 k (by omega)).1 c1 (by omega) (by omega) (by omega)
    have c3 := dB.sub (h.2 k (by omega)).2 c2 (M := 1080) (by omega) (by omega) (by omega)
    have c4 := dB.mul (M := 1142) c3 c3 (by omega) (by omega) (by omega)
    have c5 := dB.add (ih (by omega)) c4 (M := 1150 + 2 * k) (by omega) (by omega) (by omega)
    exact c5.mono (by omega)
/-- one round: spring, step, was it kept -/
def rnd (B K : Nat → UInt64) (n : Nat) (s h : UInt64) : UInt64 × UInt64 × Bool :=
  if dv (rsd B K (FP.dadd s h) n) < dv (rsd B K s n) then (FP.dadd s h, h, true)
  else if 0 ≤ dv (FP.dsub s h) ∧ dv (rsd B K (FP.dsub s h) n) < dv (rsd B K s n) then (FP.dsub s h, h, true)
  else (s, FP.ddiv h 4611686018427387904, false)
def fitN (B K : Nat → UInt64) (n : Nat) (s h : UInt64) : Nat → UInt64 × UInt64 × Nat
  | 0 => (s, h, 0)
  | i + 1 => ((rnd B K n (fitN B K n s h i).1 (fitN B K n s h i).2.1).1, (rnd B K n (fitN B K n s h i).1 (fitN B K n s h i).2.1).2.1, if (rnd B K n (fitN B K n s h i).1 (fitN B K n s h i).2.1).2.2 then (fitN B K n s h i).2.2 + 1 else (fitN B K n s h i).2.2)
def U4 : Int := ((2 ^ 1072 : Nat) : Int)
theorem U4_pos : 0 < U4 := by decide +kernel
/-- spring and step after N rounds -/
def spOK (N : Nat) (s h : UInt64) : Prop := dB 1060 s ∧ dB 1060 h ∧ 0 ≤ dv s ∧ dv s ≤ (N + 1 : Int) * U4 ∧ 0 ≤ dv h ∧ dv h ≤ U4
theorem spOK.dB {N : Nat} {s h : UInt64} (H : spOK N s h) (hN : N ≤ 60000) : dB 1038 s ∧ dB 1030 h := by
  obtain ⟨h1, h2, h3, h4, h5, h6⟩ := H
  have e : dv 4670232813583204352 = 65536 * U4 := by decide +kernel
  have e2 : dv 4598175219545276416 = U4 := by decide +kernel
  have hU := U4_pos
  refine ⟨dB_of (c := 4670232813583204352) 1038 (h1.nn (by decide)) (nn_of (by decide +kernel)) (by decide) (by decide) h3 ?_, dB_of (c := 4598175219545276416) 1030 (h2.nn (by decide)) (nn_of (by decide +kernel)) (by decide) (by decide) h5 ?_⟩
  · rw [e]
    have := Int.mul_le_mul_of_nonneg_right (show (N + 1 : Int) ≤ 65536 by omega) (Int.le_of_lt hU)
    omega
  · omega
theorem rnd_ok {B K : Nat → UInt64} {n N : Nat} {s h : UInt64} (H : spOK N s h) (hN : N ≤ 60000) : spOK (N + 1) (rnd B K n s h).1 (rnd B K n s h).2.1 := by
  obtain ⟨k1, k2⟩ := H.dB hN
  obtain ⟨h1, h2, h3, h4, h5, h6⟩ := H
  have hU := U4_pos
  have hg : (N + 1 : Int) * U4 + U4 = ((N + 1 : Nat) + 1 : Int) * U4 := by
    have e : (((N + 1 : Nat) : Int) + 1) = (N + 1 : Int) + 1 := by omega
    rw [e, Int.add_mul (N + 1 : Int) 1 U4, Int.one_mul]
  unfold rnd
  split
  · have c1 := dB.add k1 k2 (M := 1038) (by omega) (by omega) (by omega)
    refine ⟨c1.mono (by omega), h2, dv_add_nonneg (k1.fin (by decide)) (k2.fin (by decide)) h3 h5, ?_, h5, h6⟩
    obtain ⟨V, hV, eV⟩ := mk_V ((N + 1 : Nat) + 1 : Int) 1072 (by omega) (by decide)
    have eV : dv V = ((N + 1 : Nat) + 1 : Int) * U4 := eV
    rw [← eV]
    refine dv_add_le (k1.fin (by decide)) (k2.fin (by decide)) hV.ne_nan ?_
    omega
  · split
    · rename_i q
      have c1 := dB.sub k1 k2 (M := 1038) (by omega) (by omega) (by omega)
      refine ⟨c1.mono (by omega), h2, q.1, ?_, h5, h6⟩
      have := dv_sub_le (k1.fin (by decide)) (k2.fin (by decide)) (k1.nn (by decide)) (V := s) (by omega)
      show dv (FP.dsub s h) ≤ _
      omega
    · have c0 : dB 1025 (4611686018427387904 : UInt64) := by unfold dB; decide +kernel
      have cL : dL 1024 (4611686018427387904 : UInt64) := by unfold dL; decide +kernel
      have c1 := dB.div (M := 1030) k2 cL c0 (by omega) (by omega) (by omega) (by omega)
      have c2 : 0 < dv 4611686018427387904 := by rw [dv_2]; have := U1_pos; omega
      refine ⟨h1, c1.mono (by omega), h3, by show dv s ≤ _; omega, dv_div_nonneg (k2.fin (by decide)) (c0.fin (by decide)) h5 c2, ?_⟩
      have := dv_div_le (k2.fin (by decide)) (c0.fin (by decide)) c2 (k2.nn (by decide)) (V := h) (by
        rw [dv_2]
        have := Int.mul_le_mul_of_nonneg_left (show U1 ≤ 2 * U1 by have := U1_pos; omega) h5
        exact this)
      show dv (FP.ddiv h 4611686018427387904) ≤ U4
      omega
theorem fitN_ok {B K : Nat → UInt64} {n N : Nat} {s h : UInt64} (H : spOK N s h) : ∀ i, N + i ≤ 60000 → spOK (N + i) (fitN B K n s h i).1 (fitN B K n s h i).2.1 := by
  intro i
  induction i with
  | zero => intro _; exact H
  | succ i ih => intro hi; exact rnd_ok (N := N + i) (ih (by omega)) (by omega)
/-! forms -/
def frm (s w : UInt64) : Nat → UInt64 × UInt64
  | 0 => (FP.dconst0, w)
  | k + 1 => if dv (FP.dmul (FP.ddiv (FP.dadd (frm s w k).1 (frm s w k).2) 4611686018427387904) (FP.dadd FP.dconst1 s)) < dv w then (FP.ddiv (FP.dadd (frm s w k).1 (frm s w k).2) 4611686018427387904, (frm s w k).2) else ((frm s w k).1, FP.ddiv (FP.dadd (frm s w k).1 (frm s w k).2) 4611686018427387904)
/-! pieces -/
def piecesOK (L D : Nat → UInt64) (n : Nat) : Prop := n ≤ 12 ∧ ∀ i, i < n → dB 1060 (L i) ∧ dB 1060 (D i) ∧ (dv (D i) = 0 ∨ dv FP.dconst1 ≤ dv (D i))
theorem piecesOK.dL {L D : Nat → UInt64} {n i : Nat} (h : piecesOK L D n) (hi : i < n) (h0 : 0 < dv (D i)) : dL 1023 (D i) := by
  obtain ⟨-, h1, h2⟩ := h.2 i hi
  exact dL_of (c := FP.dconst1) 1023 (h1.nn (by decide)) nn_d1 (by decide) (by decide) (by omega)
def bends (D : Nat → UInt64) (t : UInt64) : Nat → Bool
  | 0 => true
  | k + 1 => bends D t k && !(decide (0 < dv (D k)) && decide (dv (FP.dmul 4611686018427387904 (D k)) < dv t))
theorem bends_no {D : Nat → UInt64} {t : UInt64} {i : Nat} (h1 : 0 < dv (D i)) (h2 : dv (FP.dmul 4611686018427387904 (D i)) < dv t) : ∀ m, i < m → bends D t m = false := by
  intro m
  induction m with
  | zero => intro h; omega
  | succ m ih =>
    intro h
    rcases Nat.lt_or_ge i m with q | q
    · rw [bends, ih q]; rfl
    · have : m = i := by omega
      subst this
      rw [bends, decide_eq_true h1, decide_eq_true h2]
      simp
theorem bends_yes {D : Nat → UInt64} {t : UInt64} {i : Nat} (h : bends D t i = true) (h1 : ¬ (0 < dv (D i) ∧ dv (FP.dmul 4611686018427387904 (D i)) < dv t)) : bends D t (i + 1) = true := by
  rw [bends, h]
  by_cases q : 0 < dv (D i)
  · rw [decide_eq_false (show ¬ dv (FP.dmul 4611686018427387904 (D i)) < dv t from fun z => h1 ⟨q, z⟩)]; simp
  · rw [decide_eq_false q]; simp
/-- a piece's length, outside (o not 0) or inside -/
def lenOf (l d : UInt64) (o : Int32) (t : UInt64) : UInt64 := if 0 < dv d then FP.ddiv (FP.dmul l (if o = 0 then FP.dsub d (FP.ddiv t 4611686018427387904) else FP.dadd d (FP.ddiv t 4611686018427387904))) d else l
theorem lenOf_dB {l d t : UInt64} {o : Int32} (hl : dB 1060 l) (hd : dB 1060 d) (h1 : 0 < dv d → dL 1023 d) (ht : dB 1060 t) : dB 1101 (lenOf l d o t) := by
  have c0 : dB 1025 (4611686018427387904 : UInt64) := by unfold dB; decide +kernel
  have cL : dL 1024 (4611686018427387904 : UInt64) := by unfold dL; decide +kernel
  have c1 := dB.div (M := 1060) ht cL c0 (by omega) (by omega) (by omega) (by omega)
  unfold lenOf
  split
  · rename_i q
    have c2 : dB 1062 (if o = 0 then FP.dsub d (FP.ddiv t 4611686018427387904) else FP.dadd d (FP.ddiv t 4611686018427387904)) := by
      split
      · exact dB.sub hd c1 (M := 1060) (by omega) (by omega) (by omega)
      · exact dB.add hd c1 (M := 1060) (by omega) (by omega) (by omega)
    exact dB.div (dB.mul (M := 1100) hl c2 (by omega) (by omega) (by omega)) (h1 q) hd (by omega) (by omega) (by omega) (by omega)
  · exact hl.mono (by omega)
def sumL (L D : Nat → UInt64) (o : Int32) (t : UInt64) : Nat → UInt64
  | 0 => FP.dconst0
  | k + 1 => FP.dadd (sumL L D o t k) (lenOf (L k) (D k) o t)
/-! kerfs -/
def few (a c : UInt64) (m : Nat) : Prop := dv (FP.dmul (FP.i2d (nI m)) c) < dv a
/-- what a kerf closes, as it can be: its count is at most 65535 -/
def kerfOK (a c : UInt64) : Prop := dB 1060 a ∧ dB 1120 c ∧ 0 < dv c ∧ ¬ few a c 65535
theorem few_less {a c : UInt64} (h : kerfOK a c) {i j : Nat} (h0 : 1 ≤ i) (hij : i ≤ j) (hj : j < 2 ^ 31) (hf : few a c j) : few a c i := by
  obtain ⟨h1, h2, h3, -⟩ := h
  rcases Nat.lt_or_ge i j with q | q
  · have f1 := (i2d_dB (nI i)).fin (by decide)
    have f2 := (i2d_dB (nI j)).fin (by decide)
    have c1 := dB.mul (M := 1200) (i2d_dB (nI i)) h2 (by omega) (by omega) (by omega)
    have c2 := dB.mul (M := 1200) (i2d_dB (nI j)) h2 (by omega) (by omega) (by omega)
    have := mul_mono f1 (h2.fin (by decide)) (i2d_pos h0 (by omega)) h3 f2 (h2.fin (by decide)) (i2d_pos (by omega) hj) h3 (c1.fin (by decide)) (c2.fin (by decide)) (by
      rw [dv_i2dN (by omega), dv_i2dN hj]
      refine Int.mul_lt_mul_of_pos_right ?_ h3
      exact Int.mul_lt_mul_of_pos_right (by omega) U1_pos)
    unfold few at hf ⊢
    omega
  · rw [show i = j by omega]; exact hf
/-- the least count that isn't too few -/
def kerfN (a c : UInt64) (N : Nat) : Prop := 1 ≤ N ∧ N ≤ 65535 ∧ ¬ few a c N ∧ ∀ m, 1 ≤ m → m < N → few a c m
theorem kerfN_one {a c : UInt64} {N M : Nat} (h : kerfN a c N) (g : kerfN a c M) : N = M := by
  obtain ⟨h1, -, h3, h4⟩ := h
  obtain ⟨g1, -, g3, g4⟩ := g
  rcases Nat.lt_trichotomy N M with q | q | q
  · exact absurd (g4 N h1 q) h3
  · exact q
  · exact absurd (h4 M g1 q) g3
/-! Euclid -/
theorem mod_half {a b : Nat} (hb : 0 < b) (h : b ≤ a) : 2 * (a % b) ≤ a := by
  have h1 := Nat.mod_lt a hb
  have h2 := Nat.div_add_mod a b
  have h3 : 1 ≤ a / b := (Nat.one_le_div_iff hb).mpr h
  have h4 : b * 1 ≤ b * (a / b) := Nat.mul_le_mul_left b h3
  omega
theorem eu_step {d l i : Nat} (hl : 0 < l) (hdl : l ≤ d) (h : d * l * 2 ^ i ≤ 2 ^ 40) : l * (d % l) * 2 ^ (i + 1) ≤ 2 ^ 40 := by
  have h1 := mod_half hl hdl
  have h2 : l * (d % l) * 2 ^ (i + 1) = l * (2 * (d % l)) * 2 ^ i := by
    rw [Nat.pow_succ, Nat.mul_comm (2 ^ i) 2, ← Nat.mul_assoc, Nat.mul_assoc l (d % l) 2, Nat.mul_comm (d % l) 2]
  rw [h2]
  refine Nat.le_trans (Nat.mul_le_mul_right _ ?_) h
  rw [Nat.mul_comm d l]
  exact Nat.mul_le_mul_left l h1
theorem eu_end {d l i : Nat} (hi : 64 ≤ i) (hdl : l ≤ d) (h : d * l * 2 ^ i ≤ 2 ^ 40) : l = 0 := by
  rcases Nat.eq_zero_or_pos l with q | q
  · exact q
  · exfalso
    have h1 : 1 ≤ d * l := Nat.mul_pos (by omega) q
    have h2 : 2 ^ 64 ≤ 2 ^ i := Nat.pow_le_pow_right (by decide) hi
    have h3 : 1 * 2 ^ 64 ≤ d * l * 2 ^ i := Nat.mul_le_mul h1 h2
    have h4 : ¬ (2 : Nat) ^ 64 ≤ 2 ^ 40 := by decide
    omega
theorem eu_gcd {d l : Nat} (hl : 0 < l) : Nat.gcd l (d % l) = Nat.gcd d l := by
  rw [Nat.gcd_comm d l, Nat.gcd_rec l d, Nat.gcd_comm]
/-! powers of two, down -/
def p2 (q : Nat) : Prop := ∃ j, j ≤ 16 ∧ q = 2 ^ j
theorem p2_half {q : Nat} (h : p2 q) (h1 : 1 < q) : ∃ g, q = 2 * g ∧ p2 g ∧ 1 ≤ g := by
  obtain ⟨j, hj, rfl⟩ := h
  cases j with
  | zero => exact absurd h1 (by decide)
  | succ j => exact ⟨2 ^ j, by rw [Nat.pow_succ, Nat.mul_comm], ⟨j, by omega, rfl⟩, Nat.two_pow_pos j⟩
theorem frm_dB {s w : UInt64} (hw : dB 1060 w) : ∀ k, k ≤ 40 → dB (1060 + 2 * k) (frm s w k).1 ∧ dB (1060 + 2 * k) (frm s w k).2 := by
  intro k
  induction k with
  | zero => intro _; exact ⟨dB_d0.mono (by omega), hw⟩
  | succ k ih =>
    intro hk
    obtain ⟨h1, h2⟩ := ih (by omega)
    have c0 : dB 1025 (4611686018427387904 : UInt64) := by unfold dB; decide +kernel
    have cL : dL 1024 (4611686018427387904 : UInt64) := by unfold dL; decide +kernel
    have c1 := dB.add h1 h2 (M := 1060 + 2 * k) (by omega) (by omega) (by omega)
    have c2 := dB.div (M := 1060 + 2 * k + 2) c1 cL c0 (by omega) (by omega) (by omega) (by omega)
    unfold frm
    split
    · exact ⟨c2.mono (by omega), h2.mono (by omega)⟩
    · exact ⟨h1.mono (by omega), c2.mono (by omega)⟩
theorem sumL_dB {L D : Nat → UInt64} {n : Nat} {o : Int32} {t : UInt64} (h : piecesOK L D n) (ht : dB 1060 t) : ∀ k, k ≤ n → dB (1110 + 2 * k) (sumL L D o t k) := by
  intro k
  induction k with
  | zero => intro _; exact dB_d0.mono (by omega)
  | succ k ih =>
    intro hk
    have h1 := h.1
    have c1 := lenOf_dB (o := o) (h.2 k (by omega)).1 (h.2 k (by omega)).2.1 (fun q => h.dL (by omega) q) ht
    have c2 := dB.add (ih (by omega)) c1 (M := 1110 + 2 * k) (by omega) (by omega) (by omega)
    exact c2.mono (by omega)
theorem strp_go {T R : Nat → UInt64} {n f k : Nat} {t w : UInt64} (hn : dv ((rRad T R (FP.ddiv t (FP.i2d (nI k))) n).getD noR) < 0 ↔ rRad T R (FP.ddiv t (FP.i2d (nI k))) n = none) (h : dv ((rRad T R (FP.ddiv t (FP.i2d (nI k))) n).getD noR) < 0 ∨ ¬ dv ((rRad T R (FP.ddiv t (FP.i2d (nI k))) n).getD noR) ≤ dv w) : strp T R n t w (f + 1) k = strp T R n t w f (k + 1) := by
  cases e : rRad T R (FP.ddiv t (FP.i2d (nI k))) n with
  | none => exact strp_no e
  | some r =>
    rw [e] at h hn
    refine strp_more e ?_
    rcases h with h | h
    · exact absurd (hn.mp h) (by intro z; cases z)
    · exact h
theorem strp_stop {T R : Nat → UInt64} {n f k : Nat} {t w : UInt64} (hn : dv ((rRad T R (FP.ddiv t (FP.i2d (nI k))) n).getD noR) < 0 ↔ rRad T R (FP.ddiv t (FP.i2d (nI k))) n = none) (h0 : ¬ dv ((rRad T R (FP.ddiv t (FP.i2d (nI k))) n).getD noR) < 0) (h : dv ((rRad T R (FP.ddiv t (FP.i2d (nI k))) n).getD noR) ≤ dv w) : strp T R n t w (f + 1) k = nI k := by
  cases e : rRad T R (FP.ddiv t (FP.i2d (nI k))) n with
  | none => exact absurd (hn.mpr e) h0
  | some r =>
    rw [e] at h
    exact strp_yes e h
end
section
set_option maxHeartbeats 4000000 in
set_option maxRecDepth 100000 in
theorem m_X1_isPlace (l : Launch) (dC : Nat → ClassId) (dI : Nat → Nat → Nat) (cD : ClassId) (a f g : Nat) (n mm : Nat) (F G : Nat → UInt64) (j : Nat) (hj : j < 2 ^ 31) (hm : mm < 2 ^ 31) : Met l yX1_isPlace wsX1_isPlace ({ frames := 0, cells := 0, slots := 0, locals := 0 } : Room) (va_Pc [.ref a, .int (nI j)] (PK (dC, dI) [(cD, .double)] [(a, .inr (1, [.ref f, .ref g, .int (nI n)])), (f, .inl (cD, mm, .inr (.inr (.inr (.inl F))))), (g, .inl (cD, mm, .inr (.inr (.inr (.inl G)))))])) (va_Qi (fun (r : Int32) (_ : Unit) => r = if j < mm then 1 else 0) (fun _ _ => True) (fun _ => False)) 0 0 (fun _ => False) := by
  refine Met.ofW (cc := cX1_isPlace) (maxL := 2) (ret := (some .boolean)) (by decide) rfl ?_
  intro p e s m args below meth c s₁ BB hml hv
  obtain ⟨rfl, hP, hK, hN⟩ := hv
  have hx := BB.exec
  have hb := BB.bytes
  have hr := BB.returns
  have hts := atoms_spec (ws := wsX1_isPlace) BB.pre
  have hown : s.vm.findClass RX1 = some m.cls := findClass_of_methodNamed BB.named
  have hlocks := BB.notSynchronized
  have hS : va_S (fun _ => False) s.heap s.heap [] := va_S.rf
  have hP : va_P (dC, dI) vwCl [(a, .inr (1, [.ref f, .ref g, .int (nI n)])), (f, .inl (cD, mm, .inr (.inr (.inr (.inl F))))), (g, .inl (cD, mm, .inr (.inr (.inr (.inl G)))))] s.heap := hP
  have hl := lv_entry ([.ref a, .int (nI j)]) (n := 2) (Nat.le_of_ble_eq_true rfl)
  rw [lg_entry_eq]
  generalize (lg_sl ([.ref a, .int (nI j)]) ++ List.replicate (2 - (lg_sl ([.ref a, .int (nI j)])).length) Slot.unset).toArray = ls at hl ⊢
  have hl : lv_has ls 2 [(0, .ref a), (1, .int (nI j))] := hl
  refine lv_iload_n hx hb dX1_isPlace_0 rfl (lv_at hl 1 rfl) ?_
  refine lv_if_lt (tgt := 26) hx hb dX1_isPlace_1 (by decide) (fun c_1 => ?_) (fun c_1 => ?_)
  · have c_1 := (nI_ltI (a := j) (b := 0) (by omega) (by omega)).mp c_1
    refine lv_iconst (v := 0) hx hb dX1_isPlace_26 (by decide) ?_
    exact W.zret hx hb hr (by decide) (fun t9s hht hW9 => ⟨⟨0, (), rfl, (by split <;> first | rfl | (exfalso; omega)), trivial⟩, hS.F hht⟩) hS.2.2 dX1_isPlace_27
  · have c_1 := mt (nI_ltI (a := j) (b := 0) (by omega) (by omega)).mpr c_1
    refine lv_iload_n hx hb dX1_isPlace_4 rfl (lv_at hl 1 rfl) ?_
    refine lv_aload_n hx hb dX1_isPlace_5 rfl (lv_at hl 0 rfl) ?_
    refine va_get (D := (dC, dI)) (ci := 1) (v := .ref f) (C := RX1) (T := TX1) (N := 3) hx hb hts (by decide +kernel) hown hK hP 0 rfl rfl 0 (by decide) (hts (.fieldLink RX1 21 "SteamBends$Pairs" "firsts" "[D") (by decide +kernel)) (fun _ h9 => h9) rfl dX1_isPlace_6 ?_
    refine va_alen hx hb hK hP 1 0 rfl rfl (v := nI mm) rfl dX1_isPlace_9 ?_
    refine lv_icmp_ge (tgt := 26) hx hb dX1_isPlace_10 (by decide) (fun c_10 => ?_) (fun c_10 => ?_)
    · have c_10 := (nI_leI (a := mm) (b := j) (by omega) (by omega)).mp c_10
      refine lv_iconst (v := 0) hx hb dX1_isPlace_26 (by decide) ?_
      exact W.zret hx hb hr (by decide) (fun t9s hht hW9 => ⟨⟨0, (), rfl, (by split <;> first | rfl | (exfalso; omega)), trivial⟩, hS.F hht⟩) hS.2.2 dX1_isPlace_27
    · have c_10 := mt (nI_leI (a := mm) (b := j) (by omega) (by omega)).mpr c_10
      refine lv_iload_n hx hb dX1_isPlace_13 rfl (lv_at hl 1 rfl) ?_
      refine lv_aload_n hx hb dX1_isPlace_14 rfl (lv_at hl 0 rfl) ?_
      refine va_get (D := (dC, dI)) (ci := 1) (v := .ref g) (C := RX1) (T := TX1) (N := 3) hx hb hts (by decide +kernel) hown hK hP 0 rfl rfl 1 (by decide) (hts (.fieldLink RX1 25 "SteamBends$Pairs" "seconds" "[D") (by decide +kernel)) (fun _ h9 => h9) rfl dX1_isPlace_15 ?_
      refine va_alen hx hb hK hP 2 0 rfl rfl (v := nI mm) rfl dX1_isPlace_18 ?_
      refine lv_icmp_ge (tgt := 26) hx hb dX1_isPlace_19 (by decide) (fun c_19 => ?_) (fun c_19 => ?_)
      · have c_19 := (nI_leI (a := mm) (b := j) (by omega) (by omega)).mp c_19
        refine lv_iconst (v := 0) hx hb dX1_isPlace_26 (by decide) ?_
        exact W.zret hx hb hr (by decide) (fun t9s hht hW9 => ⟨⟨0, (), rfl, (by split <;> first | rfl | (exfalso; omega)), trivial⟩, hS.F hht⟩) hS.2.2 dX1_isPlace_27
      · have c_19 := mt (nI_leI (a := mm) (b := j) (by omega) (by omega)).mpr c_19
        refine lv_iconst (v := 1) hx hb dX1_isPlace_22 (by decide) ?_
        refine lv_goto (tgt := 27) hx hb dX1_isPlace_23 (by decide) ?_
        exact W.zret hx hb hr (by decide) (fun t9s hht hW9 => ⟨⟨1, (), rfl, (by split <;> first | rfl | (exfalso; omega)), trivial⟩, hS.F hht⟩) hS.2.2 dX1_isPlace_27

set_option maxHeartbeats 4000000 in
set_option maxRecDepth 100000 in
theorem m_X1_first (l : Launch) (dC : Nat → ClassId) (dI : Nat → Nat → Nat) (cD : ClassId) (a f g : Nat) (n mm : Nat) (F G : Nat → UInt64) (j : Nat) (hj : j < mm) (hm : mm < 2 ^ 31) : Met l yX1_first wsX1_first ({ frames := 1, cells := 0, slots := 0, locals := 21 } : Room) (va_Pc [.ref a, .int (nI j)] (PK (dC, dI) [(cD, .double)] [(a, .inr (1, [.ref f, .ref g, .int (nI n)])), (f, .inl (cD, mm, .inr (.inr (.inr (.inl F))))), (g, .inl (cD, mm, .inr (.inr (.inr (.inl G)))))])) (va_Qd (fun (r : UInt64) (_ : Unit) => r = F j) (fun _ _ => True) (fun _ => False)) 0 0 (fun _ => False) := by
  refine Met.ofW (cc := cX1_first) (maxL := 2) (ret := (some .double)) (by decide) rfl ?_
  intro p e s m args below meth c s₁ BB hml hv
  obtain ⟨rfl, hP, hK, hN⟩ := hv
  have hx := BB.exec
  have hb := BB.bytes
  have hr := BB.returns
  have hts := atoms_spec (ws := wsX1_first) BB.pre
  have hown : s.vm.findClass RX1 = some m.cls := findClass_of_methodNamed BB.named
  have hlocks := BB.notSynchronized
  have hS : va_S (fun _ => False) s.heap s.heap [] := va_S.rf
  have hP : va_P (dC, dI) vwCl [(a, .inr (1, [.ref f, .ref g, .int (nI n)])), (f, .inl (cD, mm, .inr (.inr (.inr (.inl F))))), (g, .inl (cD, mm, .inr (.inr (.inr (.inl G)))))] s.heap := hP
  have hl := lv_entry ([.ref a, .int (nI j)]) (n := 2) (Nat.le_of_ble_eq_true rfl)
  rw [lg_entry_eq]
  generalize (lg_sl ([.ref a, .int (nI j)]) ++ List.replicate (2 - (lg_sl ([.ref a, .int (nI j)])).length) Slot.unset).toArray = ls at hl ⊢
  have hl : lv_has ls 2 [(0, .ref a), (1, .int (nI j))] := hl
  refine lv_aload_n hx hb dX1_first_0 rfl (lv_at hl 0 rfl) ?_
  refine lv_iload_n hx hb dX1_first_1 rfl (lv_at hl 1 rfl) ?_
  have hPc := hP.sub (ws' := [(a, .inr (1, [.ref f, .ref g, .int (nI n)])), (f, .inl (cD, mm, .inr (.inr (.inr (.inl F))))), (g, .inl (cD, mm, .inr (.inr (.inr (.inl G)))))]) [0, 1, 2] rfl
  have hKc := hK.sub (tys' := [(cD, .double)]) [0] rfl
  refine va_calli (va_runV (As := [.int (nI j)]) (rest := []) ⟨hx, hb, hml, hown, hts⟩ (m_X1_isPlace l dC dI cD a f g n mm F G j (by omega) (by omega)) (cwV 1 hts gX1_first_X1_isPlace rfl rfl rfl (by decide +kernel) ⟨(Nat.le_of_ble_eq_true rfl), (Nat.le_of_ble_eq_true rfl)⟩) ⟨PK.blind, va_recv hKc hPc (ci := 1) (q0 := 0) rfl rfl, fun U9 hU9 hW9 => ⟨rfl, PK.at hPc hKc hN hU9 hW9⟩⟩ rfl rfl hl.1 rfl (lv_room (Nat.le_of_ble_eq_true rfl)) dX1_first_2 ⟨(Nat.le_of_ble_eq_true rfl), (Nat.le_of_ble_eq_true rfl)⟩) hS (fun q _ h => h.elim) (fun q h => h.elim) (fun r_2 u9s t9s H1 locs hht hvm9 hw_2_k_1 hB hz1 hk1 hS => ?_)
  have hP := va_still hP hk1
  generalize H1 = H at hP hS ⊢
  refine lv_if_eq (tgt := 17) hx hb dX1_first_5 (by decide) (fun c_5 => ?_) (fun c_5 => ?_)
  · have c_5 := (b01 hw_2_k_1).mp c_5
    refine lv_dconst0 hx hb dX1_first_17 ?_
    exact W.dret hx hb hr (fun t9s hht hW9 => ⟨⟨FP.dconst0, (), rfl, (by first | rfl | (exfalso; omega)), trivial⟩, hS.F hht⟩) hS.2.2 dX1_first_18
  · have c_5 := (b01n hw_2_k_1).mp c_5
    refine lv_aload_n hx hb dX1_first_8 rfl (lv_at hl 0 rfl) ?_
    refine va_get (D := (dC, dI)) (ci := 1) (v := .ref f) (C := RX1) (T := TX1) (N := 3) hx hb hts (by decide +kernel) hown hK hP 0 rfl rfl 0 (by decide) (hts (.fieldLink RX1 21 "SteamBends$Pairs" "firsts" "[D") (by decide +kernel)) (fun _ h9 => h9) rfl dX1_first_9 ?_
    refine lv_iload_n hx hb dX1_first_12 rfl (lv_at hl 1 rfl) ?_
    refine va_daldN hx hb hK hP 1 0 rfl rfl (j := j) (by omega) (by omega) dX1_first_13 ?_
    refine lv_goto (tgt := 18) hx hb dX1_first_14 (by decide) ?_
    exact W.dret hx hb hr (fun t9s hht hW9 => ⟨⟨F j, (), rfl, (by first | rfl | (exfalso; omega)), trivial⟩, hS.F hht⟩) hS.2.2 dX1_first_18

set_option maxHeartbeats 4000000 in
set_option maxRecDepth 100000 in
theorem m_X1_second (l : Launch) (dC : Nat → ClassId) (dI : Nat → Nat → Nat) (cD : ClassId) (a f g : Nat) (n mm : Nat) (F G : Nat → UInt64) (j : Nat) (hj : j < mm) (hm : mm < 2 ^ 31) : Met l yX1_second wsX1_second ({ frames := 1, cells := 0, slots := 0, locals := 21 } : Room) (va_Pc [.ref a, .int (nI j)] (PK (dC, dI) [(cD, .double)] [(a, .inr (1, [.ref f, .ref g, .int (nI n)])), (f, .inl (cD, mm, .inr (.inr (.inr (.inl F))))), (g, .inl (cD, mm, .inr (.inr (.inr (.inl G)))))])) (va_Qd (fun (r : UInt64) (_ : Unit) => r = G j) (fun _ _ => True) (fun _ => False)) 0 0 (fun _ => False) := by
  refine Met.ofW (cc := cX1_second) (maxL := 2) (ret := (some .double)) (by decide) rfl ?_
  intro p e s m args below meth c s₁ BB hml hv
  obtain ⟨rfl, hP, hK, hN⟩ := hv
  have hx := BB.exec
  have hb := BB.bytes
  have hr := BB.returns
  have hts := atoms_spec (ws := wsX1_second) BB.pre
  have hown : s.vm.findClass RX1 = some m.cls := findClass_of_methodNamed BB.named
  have hlocks := BB.notSynchronized
  have hS : va_S (fun _ => False) s.heap s.heap [] := va_S.rf
  have hP : va_P (dC, dI) vwCl [(a, .inr (1, [.ref f, .ref g, .int (nI n)])), (f, .inl (cD, mm, .inr (.inr (.inr (.inl F))))), (g, .inl (cD, mm, .inr (.inr (.inr (.inl G)))))] s.heap := hP
  have hl := lv_entry ([.ref a, .int (nI j)]) (n := 2) (Nat.le_of_ble_eq_true rfl)
  rw [lg_entry_eq]
  generalize (lg_sl ([.ref a, .int (nI j)]) ++ List.replicate (2 - (lg_sl ([.ref a, .int (nI j)])).length) Slot.unset).toArray = ls at hl ⊢
  have hl : lv_has ls 2 [(0, .ref a), (1, .int (nI j))] := hl
  refine lv_aload_n hx hb dX1_second_0 rfl (lv_at hl 0 rfl) ?_
  refine lv_iload_n hx hb dX1_second_1 rfl (lv_at hl 1 rfl) ?_
  have hPc := hP.sub (ws' := [(a, .inr (1, [.ref f, .ref g, .int (nI n)])), (f, .inl (cD, mm, .inr (.inr (.inr (.inl F))))), (g, .inl (cD, mm, .inr (.inr (.inr (.inl G)))))]) [0, 1, 2] rfl
  have hKc := hK.sub (tys' := [(cD, .double)]) [0] rfl
  refine va_calli (va_runV (As := [.int (nI j)]) (rest := []) ⟨hx, hb, hml, hown, hts⟩ (m_X1_isPlace l dC dI cD a f g n mm F G j (by omega) (by omega)) (cwV 1 hts gX1_second_X1_isPlace rfl rfl rfl (by decide +kernel) ⟨(Nat.le_of_ble_eq_true rfl), (Nat.le_of_ble_eq_true rfl)⟩) ⟨PK.blind, va_recv hKc hPc (ci := 1) (q0 := 0) rfl rfl, fun U9 hU9 hW9 => ⟨rfl, PK.at hPc hKc hN hU9 hW9⟩⟩ rfl rfl hl.1 rfl (lv_room (Nat.le_of_ble_eq_true rfl)) dX1_second_2 ⟨(Nat.le_of_ble_eq_true rfl), (Nat.le_of_ble_eq_true rfl)⟩) hS (fun q _ h => h.elim) (fun q h => h.elim) (fun r_4 u9s t9s H1 locs hht hvm9 hw_2_k_3 hB hz1 hk1 hS => ?_)
  have hP := va_still hP hk1
  generalize H1 = H at hP hS ⊢
  refine lv_if_eq (tgt := 17) hx hb dX1_second_5 (by decide) (fun c_5 => ?_) (fun c_5 => ?_)
  · have c_5 := (b01 hw_2_k_3).mp c_5
    refine lv_dconst0 hx hb dX1_second_17 ?_
    exact W.dret hx hb hr (fun t9s hht hW9 => ⟨⟨FP.dconst0, (), rfl, (by first | rfl | (exfalso; omega)), trivial⟩, hS.F hht⟩) hS.2.2 dX1_second_18
  · have c_5 := (b01n hw_2_k_3).mp c_5
    refine lv_aload_n hx hb dX1_second_8 rfl (lv_at hl 0 rfl) ?_
    refine va_get (D := (dC, dI)) (ci := 1) (v := .ref g) (C := RX1) (T := TX1) (N := 3) hx hb hts (by decide +kernel) hown hK hP 0 rfl rfl 1 (by decide) (hts (.fieldLink RX1 25 "SteamBends$Pairs" "seconds" "[D") (by decide +kernel)) (fun _ h9 => h9) rfl dX1_second_9 ?_
    refine lv_iload_n hx hb dX1_second_12 rfl (lv_at hl 1 rfl) ?_
    refine va_daldN hx hb hK hP 2 0 rfl rfl (j := j) (by omega) (by omega) dX1_second_13 ?_
    refine lv_goto (tgt := 18) hx hb dX1_second_14 (by decide) ?_
    exact W.dret hx hb hr (fun t9s hht hW9 => ⟨⟨G j, (), rfl, (by first | rfl | (exfalso; omega)), trivial⟩, hS.F hht⟩) hS.2.2 dX1_second_18

set_option maxHeartbeats 4000000 in
set_option maxRecDepth 100000 in
theorem m_X1_addFull (l : Launch) (dC : Nat → ClassId) (dI : Nat → Nat → Nat) (cD : ClassId) (a f g : Nat) (n mm : Nat) (F G : Nat → UInt64) (x y : UInt64) (hn : n = mm) (hm : mm < 2 ^ 31) : Met l yX1_add wsX1_add ({ frames := 1, cells := 0, slots := 0, locals := 21 } : Room) (va_Pc [.ref a, .double x, .double y] (PK (dC, dI) [(cD, .double)] [(a, .inr (1, [.ref f, .ref g, .int (nI n)])), (f, .inl (cD, mm, .inr (.inr (.inr (.inl F))))), (g, .inl (cD, mm, .inr (.inr (.inr (.inl G)))))])) (va_Qi (fun (r : Int32) (_ : Unit) => r = -1) (fun _ _ => True) (fun _ => False)) 0 0 (fun _ => False) := by
  refine Met.ofW (cc := cX1_add) (maxL := 5) (ret := (some .int)) (by decide) rfl ?_
  intro p e s m args below meth c s₁ BB hml hv
  obtain ⟨rfl, hP, hK, hN⟩ := hv
  have hx := BB.exec
  have hb := BB.bytes
  have hr := BB.returns
  have hts := atoms_spec (ws := wsX1_add) BB.pre
  have hown : s.vm.findClass RX1 = some m.cls := findClass_of_methodNamed BB.named
  have hlocks := BB.notSynchronized
  have hS : va_S (fun _ => False) s.heap s.heap [] := va_S.rf
  have hP : va_P (dC, dI) vwCl [(a, .inr (1, [.ref f, .ref g, .int (nI n)])), (f, .inl (cD, mm, .inr (.inr (.inr (.inl F))))), (g, .inl (cD, mm, .inr (.inr (.inr (.inl G)))))] s.heap := hP
  have hl := lv_entry ([.ref a, .double x, .double y]) (n := 5) (Nat.le_of_ble_eq_true rfl)
  rw [lg_entry_eq]
  generalize (lg_sl ([.ref a, .double x, .double y]) ++ List.replicate (5 - (lg_sl ([.ref a, .double x, .double y])).length) Slot.unset).toArray = ls at hl ⊢
  have hl : lv_has ls 5 [(0, .ref a), (1, .double x), (3, .double y)] := hl
  refine lv_aload_n hx hb dX1_add_0 rfl (lv_at hl 0 rfl) ?_
  refine lv_aload_n hx hb dX1_add_1 rfl (lv_at hl 0 rfl) ?_
  refine va_get (D := (dC, dI)) (ci := 1) (v := .int (nI n)) (C := RX1) (T := TX1) (N := 3) hx hb hts (by decide +kernel) hown hK hP 0 rfl rfl 2 (by decide) (hts (.fieldLink RX1 9 "SteamBends$Pairs" "count" "I") (by decide +kernel)) (fun _ h9 => h9) rfl dX1_add_2 ?_
  have hPc := hP.sub (ws' := [(a, .inr (1, [.ref f, .ref g, .int (nI n)])), (f, .inl (cD, mm, .inr (.inr (.inr (.inl F))))), (g, .inl (cD, mm, .inr (.inr (.inr (.inl G)))))]) [0, 1, 2] rfl
  have hKc := hK.sub (tys' := [(cD, .double)]) [0] rfl
  refine va_calli (va_runV (As := [.int (nI n)]) (rest := []) ⟨hx, hb, hml, hown, hts⟩ (m_X1_isPlace l dC dI cD a f g n mm F G n (by omega) (by omega)) (cwV 1 hts gX1_add_X1_isPlace rfl rfl rfl (by decide +kernel) ⟨(Nat.le_of_ble_eq_true rfl), (Nat.le_of_ble_eq_true rfl)⟩) ⟨PK.blind, va_recv hKc hPc (ci := 1) (q0 := 0) rfl rfl, fun U9 hU9 hW9 => ⟨rfl, PK.at hPc hKc hN hU9 hW9⟩⟩ rfl rfl hl.1 rfl (lv_room (Nat.le_of_ble_eq_true rfl)) dX1_add_5 ⟨(Nat.le_of_ble_eq_true rfl), (Nat.le_of_ble_eq_true rfl)⟩) hS (fun q _ h => h.elim) (fun q h => h.elim) (fun r_6 u9s t9s H1 locs hht hvm9 hw_5_k_5 hB hz1 hk1 hS => ?_)
  have hP := va_still hP hk1
  generalize H1 = H at hP hS ⊢
  refine lv_if_ne (tgt := 13) hx hb dX1_add_8 (by decide) (fun c_8 => ?_) (fun c_8 => ?_)
  · have c_8 := (b01n hw_5_k_5).mp c_8
    exact absurd c_8 (by omega)
  · have c_8 := (b01 hw_5_k_5).mp c_8
    refine lv_iconst (v := -1) hx hb dX1_add_11 (by decide) ?_
    exact W.iret hx hb hr (fun t9s hht hW9 => ⟨⟨(-1), (), rfl, (by first | rfl | (exfalso; omega)), trivial⟩, hS.F hht⟩) hS.2.2 dX1_add_12

set_option maxHeartbeats 4000000 in
set_option maxRecDepth 100000 in
theorem m_X1_add (l : Launch) (dC : Nat → ClassId) (dI : Nat → Nat → Nat) (sz : Nat) (cD : ClassId) (a f g : Nat) (n mm : Nat) (F G : Nat → UInt64) (x y : UInt64) (hn : n < mm) (hm : mm < 2 ^ 31) : Met l yX1_add wsX1_add ({ frames := 1, cells := 0, slots := 0, locals := 21 } : Room) (va_Pc [.ref a, .double x, .double y] (PW (dC, dI) [(cD, .double)] [(a, .inr (1, [.ref f, .ref g, .int (nI n)])), (f, .inl (cD, mm, .inr (.inr (.inr (.inl F))))), (g, .inl (cD, mm, .inr (.inr (.inr (.inl G)))))] sz)) (va_Qi (fun (r : Int32) (u : Unit) => r = nI (n + 1)) (fun (u : Unit) => QW (dC, dI) [(a, .inr (1, [.ref f, .ref g, .int (nI (n + 1))])), (f, .inl (cD, mm, .inr (.inr (.inr (.inl (vf_upd F n x)))))), (g, .inl (cD, mm, .inr (.inr (.inr (.inl (vf_upd G n y))))))] (va_A [(a, .inr (1, [.ref f, .ref g, .int (nI n)])), (f, .inl (cD, mm, .inr (.inr (.inr (.inl F))))), (g, .inl (cD, mm, .inr (.inr (.inr (.inl G)))))] sz)) (va_A [(a, .inr (1, [.ref f, .ref g, .int (nI n)])), (f, .inl (cD, mm, .inr (.inr (.inr (.inl F))))), (g, .inl (cD, mm, .inr (.inr (.inr (.inl G)))))] sz)) 0 0 (va_A [(a, .inr (1, [.ref f, .ref g, .int (nI n)])), (f, .inl (cD, mm, .inr (.inr (.inr (.inl F))))), (g, .inl (cD, mm, .inr (.inr (.inr (.inl G)))))] sz) := by
  refine Met.ofW (cc := cX1_add) (maxL := 5) (ret := (some .int)) (by decide) rfl ?_
  intro p e s m args below meth c s₁ BB hml hv
  obtain ⟨rfl, hsz, hP, hK, hD0, hN⟩ := hv
  have hx := BB.exec
  have hb := BB.bytes
  have hr := BB.returns
  have hts := atoms_spec (ws := wsX1_add) BB.pre
  have hown : s.vm.findClass RX1 = some m.cls := findClass_of_methodNamed BB.named
  have hlocks := BB.notSynchronized
  subst hsz
  have hD := hD0.self (sz := s.heap.size)
  generalize hAe : va_A [(a, .inr (1, [.ref f, .ref g, .int (nI n)])), (f, .inl (cD, mm, .inr (.inr (.inr (.inl F))))), (g, .inl (cD, mm, .inr (.inr (.inr (.inl G)))))] s.heap.size = A at hD ⊢
  have hA : ∀ q : Nat, s.heap.size ≤ q → A q := fun q h => by rw [← hAe]; exact Or.inr h
  have hS : va_S A s.heap s.heap [] := va_S.rf
  have hP : va_P (dC, dI) vwCl [(a, .inr (1, [.ref f, .ref g, .int (nI n)])), (f, .inl (cD, mm, .inr (.inr (.inr (.inl F))))), (g, .inl (cD, mm, .inr (.inr (.inr (.inl G)))))] s.heap := hP
  have hl := lv_entry ([.ref a, .double x, .double y]) (n := 5) (Nat.le_of_ble_eq_true rfl)
  rw [lg_entry_eq]
  generalize (lg_sl ([.ref a, .double x, .double y]) ++ List.replicate (5 - (lg_sl ([.ref a, .double x, .double y])).length) Slot.unset).toArray = ls at hl ⊢
  have hl : lv_has ls 5 [(0, .ref a), (1, .double x), (3, .double y)] := hl
  refine lv_aload_n hx hb dX1_add_0 rfl (lv_at hl 0 rfl) ?_
  refine lv_aload_n hx hb dX1_add_1 rfl (lv_at hl 0 rfl) ?_
  refine va_get (D := (dC, dI)) (ci := 1) (v := .int (nI n)) (C := RX1) (T := TX1) (N := 3) hx hb hts (by decide +kernel) hown hK hP 0 rfl rfl 2 (by decide) (hts (.fieldLink RX1 9 "SteamBends$Pairs" "count" "I") (by decide +kernel)) (fun _ h9 => h9) rfl dX1_add_2 ?_
  have hPc := hP.sub (ws' := [(a, .inr (1, [.ref f, .ref g, .int (nI n)])), (f, .inl (cD, mm, .inr (.inr (.inr (.inl F))))), (g, .inl (cD, mm, .inr (.inr (.inr (.inl G)))))]) [0, 1, 2] rfl
  have hKc := hK.sub (tys' := [(cD, .double)]) [0] rfl
  refine va_calli (va_runV (As := [.int (nI n)]) (rest := []) ⟨hx, hb, hml, hown, hts⟩ (m_X1_isPlace l dC dI cD a f g n mm F G n (by omega) (by omega)) (cwV 1 hts gX1_add_X1_isPlace rfl rfl rfl (by decide +kernel) ⟨(Nat.le_of_ble_eq_true rfl), (Nat.le_of_ble_eq_true rfl)⟩) ⟨PK.blind, va_recv hKc hPc (ci := 1) (q0 := 0) rfl rfl, fun U9 hU9 hW9 => ⟨rfl, PK.at hPc hKc hN hU9 hW9⟩⟩ rfl rfl hl.1 rfl (lv_room (Nat.le_of_ble_eq_true rfl)) dX1_add_5 ⟨(Nat.le_of_ble_eq_true rfl), (Nat.le_of_ble_eq_true rfl)⟩) hS (fun q _ h => h.elim) (fun q h => h.elim) (fun r_8 u9s t9s H1 locs hht hvm9 hw_5_k_7 hB hz1 hk1 hS => ?_)
  have hP := va_still hP hk1
  generalize H1 = H at hP hS ⊢
  refine lv_if_ne (tgt := 13) hx hb dX1_add_8 (by decide) (fun c_8 => ?_) (fun c_8 => ?_)
  · have c_8 := (b01n hw_5_k_7).mp c_8
    refine lv_aload_n hx hb dX1_add_13 rfl (lv_at hl 0 rfl) ?_
    refine va_get (D := (dC, dI)) (ci := 1) (v := .ref f) (C := RX1) (T := TX1) (N := 3) hx hb hts (by decide +kernel) hown hK hP 0 rfl rfl 0 (by decide) (hts (.fieldLink RX1 21 "SteamBends$Pairs" "firsts" "[D") (by decide +kernel)) (fun _ h9 => h9) rfl dX1_add_14 ?_
    refine lv_aload_n hx hb dX1_add_17 rfl (lv_at hl 0 rfl) ?_
    refine va_get (D := (dC, dI)) (ci := 1) (v := .int (nI n)) (C := RX1) (T := TX1) (N := 3) hx hb hts (by decide +kernel) hown hK hP 0 rfl rfl 2 (by decide) (hts (.fieldLink RX1 9 "SteamBends$Pairs" "count" "I") (by decide +kernel)) (fun _ h9 => h9) rfl dX1_add_18 ?_
    refine lv_dload_n hx hb dX1_add_21 rfl (lv_at hl 1 rfl) ?_
    refine va_dastN hx hb hK hP hD hS 1 0 rfl rfl (j := n) (by omega) (by omega) dX1_add_22 (fun H locs hP hD hS => ?_)
    have hP : va_P (dC, dI) vwCl [(a, .inr (1, [.ref f, .ref g, .int (nI n)])), (f, .inl (cD, mm, .inr (.inr (.inr (.inl (vf_upd F n x)))))), (g, .inl (cD, mm, .inr (.inr (.inr (.inl G)))))] H := hP
    have hD : va_D A [(a, .inr (1, [.ref f, .ref g, .int (nI n)])), (f, .inl (cD, mm, .inr (.inr (.inr (.inl (vf_upd F n x)))))), (g, .inl (cD, mm, .inr (.inr (.inr (.inl G)))))] := hD
    refine lv_aload_n hx hb dX1_add_23 rfl (lv_at hl 0 rfl) ?_
    refine va_get (D := (dC, dI)) (ci := 1) (v := .ref g) (C := RX1) (T := TX1) (N := 3) hx hb hts (by decide +kernel) hown hK hP 0 rfl rfl 1 (by decide) (hts (.fieldLink RX1 25 "SteamBends$Pairs" "seconds" "[D") (by decide +kernel)) (fun _ h9 => h9) rfl dX1_add_24 ?_
    refine lv_aload_n hx hb dX1_add_27 rfl (lv_at hl 0 rfl) ?_
    refine va_get (D := (dC, dI)) (ci := 1) (v := .int (nI n)) (C := RX1) (T := TX1) (N := 3) hx hb hts (by decide +kernel) hown hK hP 0 rfl rfl 2 (by decide) (hts (.fieldLink RX1 9 "SteamBends$Pairs" "count" "I") (by decide +kernel)) (fun _ h9 => h9) rfl dX1_add_28 ?_
    refine lv_dload_n hx hb dX1_add_31 rfl (lv_at hl 2 rfl) ?_
    refine va_dastN hx hb hK hP hD hS 2 0 rfl rfl (j := n) (by omega) (by omega) dX1_add_32 (fun H locs hP hD hS => ?_)
    have hP : va_P (dC, dI) vwCl [(a, .inr (1, [.ref f, .ref g, .int (nI n)])), (f, .inl (cD, mm, .inr (.inr (.inr (.inl (vf_upd F n x)))))), (g, .inl (cD, mm, .inr (.inr (.inr (.inl (vf_upd G n y))))))] H := hP
    have hD : va_D A [(a, .inr (1, [.ref f, .ref g, .int (nI n)])), (f, .inl (cD, mm, .inr (.inr (.inr (.inl (vf_upd F n x)))))), (g, .inl (cD, mm, .inr (.inr (.inr (.inl (vf_upd G n y))))))] := hD
    refine lv_aload_n hx hb dX1_add_33 rfl (lv_at hl 0 rfl) ?_
    refine lv_dup hx hb dX1_add_34 rfl ?_
    refine va_get (D := (dC, dI)) (ci := 1) (v := .int (nI n)) (C := RX1) (T := TX1) (N := 3) hx hb hts (by decide +kernel) hown hK hP 0 rfl rfl 2 (by decide) (hts (.fieldLink RX1 9 "SteamBends$Pairs" "count" "I") (by decide +kernel)) (fun _ h9 => h9) rfl dX1_add_35 ?_
    refine lv_iconst (v := 1) hx hb dX1_add_38 (by decide) ?_
    refine lv_iaddN (x := n) (y := 1) hx hb dX1_add_39 ?_
    refine va_put (D := (dC, dI)) (ci := 1) (v := .int (nI (n + 1))) (ty := .int) (C := RX1) (T := TX1) (N := 3) hx hb hts (by decide +kernel) tyX1 tyX1_ok nmX1 hown hK hP hD hS 0 rfl rfl 2 (by decide) (hts (.fieldLink RX1 9 "SteamBends$Pairs" "count" "I") (by decide +kernel)) (fun _ h9 => h9) rfl (by decide +kernel) rfl rfl (Nat.le_of_ble_eq_true rfl) dX1_add_40 (fun H locs hP hD hS => ?_)
    have hP : va_P (dC, dI) vwCl [(a, .inr (1, [.ref f, .ref g, .int (nI (n + 1))])), (f, .inl (cD, mm, .inr (.inr (.inr (.inl (vf_upd F n x)))))), (g, .inl (cD, mm, .inr (.inr (.inr (.inl (vf_upd G n y))))))] H := hP
    have hD : va_D A [(a, .inr (1, [.ref f, .ref g, .int (nI (n + 1))])), (f, .inl (cD, mm, .inr (.inr (.inr (.inl (vf_upd F n x)))))), (g, .inl (cD, mm, .inr (.inr (.inr (.inl (vf_upd G n y))))))] := hD
    refine lv_aload_n hx hb dX1_add_43 rfl (lv_at hl 0 rfl) ?_
    refine va_get (D := (dC, dI)) (ci := 1) (v := .int (nI (n + 1))) (C := RX1) (T := TX1) (N := 3) hx hb hts (by decide +kernel) hown hK hP 0 rfl rfl 2 (by decide) (hts (.fieldLink RX1 9 "SteamBends$Pairs" "count" "I") (by decide +kernel)) (fun _ h9 => h9) rfl dX1_add_44 ?_
    have hP9 := hP.sub (ws' := [(a, .inr (1, [.ref f, .ref g, .int (nI (n + 1))])), (f, .inl (cD, mm, .inr (.inr (.inr (.inl (vf_upd F n x)))))), (g, .inl (cD, mm, .inr (.inr (.inr (.inl (vf_upd G n y))))))]) [0, 1, 2] rfl
    have hD9 := hD.sub (ws' := [(a, .inr (1, [.ref f, .ref g, .int (nI (n + 1))])), (f, .inl (cD, mm, .inr (.inr (.inr (.inl (vf_upd F n x)))))), (g, .inl (cD, mm, .inr (.inr (.inr (.inl (vf_upd G n y))))))]) [0, 1, 2] (by decide) rfl
    exact W.iret hx hb hr (fun t9s hht hW9 => ⟨⟨nI (n + 1), (), rfl, (by first | rfl | (exfalso; omega)), ⟨by rw [hht]; exact hP9, hD9⟩⟩, hS.F hht⟩) hS.2.2 dX1_add_47
  · have c_8 := (b01 hw_5_k_7).mp c_8
    exact absurd hn c_8

set_option maxHeartbeats 4000000 in
set_option maxRecDepth 100000 in
theorem m_X1_removeAll (l : Launch) (dC : Nat → ClassId) (dI : Nat → Nat → Nat) (sz : Nat) (cD : ClassId) (a f g : Nat) (n mm : Nat) (F G : Nat → UInt64) : Met l yX1_removeAll wsX1_removeAll ({ frames := 0, cells := 0, slots := 0, locals := 0 } : Room) (va_Pc [.ref a] (PW (dC, dI) [(cD, .double)] [(a, .inr (1, [.ref f, .ref g, .int (nI n)])), (f, .inl (cD, mm, .inr (.inr (.inr (.inl F))))), (g, .inl (cD, mm, .inr (.inr (.inr (.inl G)))))] sz)) (va_Qv (fun (u : Unit) => True) (fun (u : Unit) => QW (dC, dI) [(a, .inr (1, [.ref f, .ref g, .int (nI 0)])), (f, .inl (cD, mm, .inr (.inr (.inr (.inl F))))), (g, .inl (cD, mm, .inr (.inr (.inr (.inl G)))))] (va_A [(a, .inr (1, [.ref f, .ref g, .int (nI n)])), (f, .inl (cD, mm, .inr (.inr (.inr (.inl F))))), (g, .inl (cD, mm, .inr (.inr (.inr (.inl G)))))] sz)) (va_A [(a, .inr (1, [.ref f, .ref g, .int (nI n)])), (f, .inl (cD, mm, .inr (.inr (.inr (.inl F))))), (g, .inl (cD, mm, .inr (.inr (.inr (.inl G)))))] sz)) 0 0 (va_A [(a, .inr (1, [.ref f, .ref g, .int (nI n)])), (f, .inl (cD, mm, .inr (.inr (.inr (.inl F))))), (g, .inl (cD, mm, .inr (.inr (.inr (.inl G)))))] sz) := by
  refine Met.ofW (cc := cX1_removeAll) (maxL := 1) (ret := none) (by decide) rfl ?_
  intro p e s m args below meth c s₁ BB hml hv
  obtain ⟨rfl, hsz, hP, hK, hD0, hN⟩ := hv
  have hx := BB.exec
  have hb := BB.bytes
  have hr := BB.returns
  have hts := atoms_spec (ws := wsX1_removeAll) BB.pre
  have hown : s.vm.findClass RX1 = some m.cls := findClass_of_methodNamed BB.named
  have hlocks := BB.notSynchronized
  subst hsz
  have hD := hD0.self (sz := s.heap.size)
  generalize hAe : va_A [(a, .inr (1, [.ref f, .ref g, .int (nI n)])), (f, .inl (cD, mm, .inr (.inr (.inr (.inl F))))), (g, .inl (cD, mm, .inr (.inr (.inr (.inl G)))))] s.heap.size = A at hD ⊢
  have hA : ∀ q : Nat, s.heap.size ≤ q → A q := fun q h => by rw [← hAe]; exact Or.inr h
  have hS : va_S A s.heap s.heap [] := va_S.rf
  have hP : va_P (dC, dI) vwCl [(a, .inr (1, [.ref f, .ref g, .int (nI n)])), (f, .inl (cD, mm, .inr (.inr (.inr (.inl F))))), (g, .inl (cD, mm, .inr (.inr (.inr (.inl G)))))] s.heap := hP
  have hl := lv_entry ([.ref a]) (n := 1) (Nat.le_of_ble_eq_true rfl)
  rw [lg_entry_eq]
  generalize (lg_sl ([.ref a]) ++ List.replicate (1 - (lg_sl ([.ref a])).length) Slot.unset).toArray = ls at hl ⊢
  have hl : lv_has ls 1 [(0, .ref a)] := hl
  refine lv_aload_n hx hb dX1_removeAll_0 rfl (lv_at hl 0 rfl) ?_
  refine lv_iconst (v := 0) hx hb dX1_removeAll_1 (by decide) ?_
  refine va_put (D := (dC, dI)) (ci := 1) (v := .int 0) (ty := .int) (C := RX1) (T := TX1) (N := 3) hx hb hts (by decide +kernel) tyX1 tyX1_ok nmX1 hown hK hP hD hS 0 rfl rfl 2 (by decide) (hts (.fieldLink RX1 9 "SteamBends$Pairs" "count" "I") (by decide +kernel)) (fun _ h9 => h9) rfl (by decide +kernel) rfl rfl (Nat.le_of_ble_eq_true rfl) dX1_removeAll_2 (fun H locs hP hD hS => ?_)
  have hP : va_P (dC, dI) vwCl [(a, .inr (1, [.ref f, .ref g, .int 0])), (f, .inl (cD, mm, .inr (.inr (.inr (.inl F))))), (g, .inl (cD, mm, .inr (.inr (.inr (.inl G)))))] H := hP
  have hD : va_D A [(a, .inr (1, [.ref f, .ref g, .int 0])), (f, .inl (cD, mm, .inr (.inr (.inr (.inl F))))), (g, .inl (cD, mm, .inr (.inr (.inr (.inl G)))))] := hD
  have hP9 := hP.sub (ws' := [(a, .inr (1, [.ref f, .ref g, .int 0])), (f, .inl (cD, mm, .inr (.inr (.inr (.inl F))))), (g, .inl (cD, mm, .inr (.inr (.inr (.inl G)))))]) [0, 1, 2] rfl
  have hD9 := hD.sub (ws' := [(a, .inr (1, [.ref f, .ref g, .int 0])), (f, .inl (cD, mm, .inr (.inr (.inr (.inl F))))), (g, .inl (cD, mm, .inr (.inr (.inr (.inl G)))))]) [0, 1, 2] (by decide) rfl
  exact W.vret hx hb hr (fun t9s hht hW9 => ⟨⟨(), rfl, trivial, ⟨by rw [hht]; exact hP9, hD9⟩⟩, hS.F hht⟩) hS.2.2 dX1_removeAll_5
end
section
set_option maxHeartbeats 4000000 in
set_option maxRecDepth 100000 in
theorem m_X3_isWithin (l : Launch) (v a b : UInt64) (hv9 : nn v) (ha9 : nn a) (hb9 : nn b) : Met l yX3_isWithin wsX3_isWithin ({ frames := 0, cells := 0, slots := 0, locals := 0 } : Room) (va_Pc [.double v, .double a, .double b] (fun _ => True)) (va_Qi (fun (r : Int32) (_ : Unit) => r = if dv a ≤ dv v ∧ dv v ≤ dv b then 1 else 0) (fun _ _ => True) (fun _ => False)) 0 0 (fun _ => False) := by
  refine Met.ofW (cc := cX3_isWithin) (maxL := 6) (ret := (some .boolean)) (by decide) rfl ?_
  intro p e s m args below meth c s₁ BB hml hv
  obtain ⟨rfl, -⟩ := hv
  have hx := BB.exec
  have hb := BB.bytes
  have hr := BB.returns
  have hts := atoms_spec (ws := wsX3_isWithin) BB.pre
  have hown : s.vm.findClass RX3 = some m.cls := findClass_of_methodNamed BB.named
  have hlocks := BB.notSynchronized
  have hS : va_S (fun _ => False) s.heap s.heap [] := va_S.rf
  have hl := lv_entry ([.double v, .double a, .double b]) (n := 6) (Nat.le_of_ble_eq_true rfl)
  rw [lg_entry_eq]
  generalize (lg_sl ([.double v, .double a, .double b]) ++ List.replicate (6 - (lg_sl ([.double v, .double a, .double b])).length) Slot.unset).toArray = ls at hl ⊢
  have hl : lv_has ls 6 [(0, .double v), (2, .double a), (4, .double b)] := hl
  refine lv_dload_n hx hb dX3_isWithin_0 rfl (lv_at hl 0 rfl) ?_
  refine lv_dload_n hx hb dX3_isWithin_1 rfl (lv_at hl 1 rfl) ?_
  refine lv_dcmp hx hb dX3_isWithin_2 ?_
  refine lv_if_lt (tgt := 17) hx hb dX3_isWithin_3 (by decide) (fun c_3 => ?_) (fun c_3 => ?_)
  · have c_3 := (cv_lt hv9 ha9).mp c_3
    refine lv_iconst (v := 0) hx hb dX3_isWithin_17 (by decide) ?_
    exact W.zret hx hb hr (by decide) (fun t9s hht hW9 => ⟨⟨0, (), rfl, (by split <;> first | rfl | (exfalso; omega)), trivial⟩, hS.F hht⟩) hS.2.2 dX3_isWithin_18
  · have c_3 := mt (cv_lt hv9 ha9).mpr c_3
    refine lv_dload_n hx hb dX3_isWithin_6 rfl (lv_at hl 0 rfl) ?_
    refine lv_dload hx hb dX3_isWithin_7 (lv_at hl 2 rfl) ?_
    refine lv_dcmp hx hb dX3_isWithin_9 ?_
    refine lv_if_gt (tgt := 17) hx hb dX3_isWithin_10 (by decide) (fun c_10 => ?_) (fun c_10 => ?_)
    · have c_10 := (cv_gt hv9 hb9).mp c_10
      refine lv_iconst (v := 0) hx hb dX3_isWithin_17 (by decide) ?_
      exact W.zret hx hb hr (by decide) (fun t9s hht hW9 => ⟨⟨0, (), rfl, (by split <;> first | rfl | (exfalso; omega)), trivial⟩, hS.F hht⟩) hS.2.2 dX3_isWithin_18
    · have c_10 := mt (cv_gt hv9 hb9).mpr c_10
      refine lv_iconst (v := 1) hx hb dX3_isWithin_13 (by decide) ?_
      refine lv_goto (tgt := 18) hx hb dX3_isWithin_14 (by decide) ?_
      exact W.zret hx hb hr (by decide) (fun t9s hht hW9 => ⟨⟨1, (), rfl, (by split <;> first | rfl | (exfalso; omega)), trivial⟩, hS.F hht⟩) hS.2.2 dX3_isWithin_18

set_option maxHeartbeats 4000000 in
set_option maxRecDepth 100000 in
theorem m_X3_isNone (l : Launch) (x : UInt64) (hx9 : nn x) : Met l yX3_isNone wsX3_isNone ({ frames := 0, cells := 0, slots := 0, locals := 0 } : Room) (va_Pc [.double x] (fun _ => True)) (va_Qi (fun (r : Int32) (_ : Unit) => r = if dv x < 0 then 1 else 0) (fun _ _ => True) (fun _ => False)) 0 0 (fun _ => False) := by
  refine Met.ofW (cc := cX3_isNone) (maxL := 2) (ret := (some .boolean)) (by decide) rfl ?_
  intro p e s m args below meth c s₁ BB hml hv
  obtain ⟨rfl, -⟩ := hv
  have hx := BB.exec
  have hb := BB.bytes
  have hr := BB.returns
  have hts := atoms_spec (ws := wsX3_isNone) BB.pre
  have hown : s.vm.findClass RX3 = some m.cls := findClass_of_methodNamed BB.named
  have hlocks := BB.notSynchronized
  have hS : va_S (fun _ => False) s.heap s.heap [] := va_S.rf
  have hl := lv_entry ([.double x]) (n := 2) (Nat.le_of_ble_eq_true rfl)
  rw [lg_entry_eq]
  generalize (lg_sl ([.double x]) ++ List.replicate (2 - (lg_sl ([.double x])).length) Slot.unset).toArray = ls at hl ⊢
  have hl : lv_has ls 2 [(0, .double x)] := hl
  have d0 := dv_d0
  refine lv_dload_n hx hb dX3_isNone_0 rfl (lv_at hl 0 rfl) ?_
  refine lv_dconst0 hx hb dX3_isNone_1 ?_
  refine lv_dcmp hx hb dX3_isNone_2 ?_
  refine lv_if_ge (tgt := 10) hx hb dX3_isNone_3 (by decide) (fun c_3 => ?_) (fun c_3 => ?_)
  · have c_3 := (cv_ge hx9 (dB_d0.nn (by omega))).mp c_3
    refine lv_iconst (v := 0) hx hb dX3_isNone_10 (by decide) ?_
    exact W.zret hx hb hr (by decide) (fun t9s hht hW9 => ⟨⟨0, (), rfl, (by split <;> first | rfl | (exfalso; omega)), trivial⟩, hS.F hht⟩) hS.2.2 dX3_isNone_11
  · have c_3 := mt (cv_ge hx9 (dB_d0.nn (by omega))).mpr c_3
    refine lv_iconst (v := 1) hx hb dX3_isNone_6 (by decide) ?_
    refine lv_goto (tgt := 11) hx hb dX3_isNone_7 (by decide) ?_
    exact W.zret hx hb hr (by decide) (fun t9s hht hW9 => ⟨⟨1, (), rfl, (by split <;> first | rfl | (exfalso; omega)), trivial⟩, hS.F hht⟩) hS.2.2 dX3_isNone_11

set_option maxHeartbeats 4000000 in
set_option maxRecDepth 100000 in
theorem m_X3_leastKerfs (l : Launch) (a9 c9 : UInt64) (hk : kerfOK a9 c9) : Met l yX3_leastKerfs wsX3_leastKerfs ({ frames := 0, cells := 0, slots := 0, locals := 0 } : Room) (va_Pc [.double a9, .double c9] (fun _ => True)) (va_Qi (fun (r : Int32) (_ : Unit) => ∃ N9, r = nI N9 ∧ kerfN a9 c9 N9) (fun _ _ => True) (fun _ => False)) 0 0 (fun _ => False) := by
  refine Met.ofW (cc := cX3_leastKerfs) (maxL := 6) (ret := (some .int)) (by decide) rfl ?_
  intro p e s m args below meth c s₁ BB hml hv
  obtain ⟨rfl, -⟩ := hv
  have hx := BB.exec
  have hb := BB.bytes
  have hr := BB.returns
  have hts := atoms_spec (ws := wsX3_leastKerfs) BB.pre
  have hown : s.vm.findClass RX3 = some m.cls := findClass_of_methodNamed BB.named
  have hlocks := BB.notSynchronized
  have hS : va_S (fun _ => False) s.heap s.heap [] := va_S.rf
  have hl := lv_entry ([.double a9, .double c9]) (n := 6) (Nat.le_of_ble_eq_true rfl)
  rw [lg_entry_eq]
  generalize (lg_sl ([.double a9, .double c9]) ++ List.replicate (6 - (lg_sl ([.double a9, .double c9])).length) Slot.unset).toArray = ls at hl ⊢
  have hl : lv_has ls 6 [(0, .double a9), (2, .double c9)] := hl
  refine lv_iconst (v := 0) hx hb dX3_leastKerfs_0 (by decide) ?_
  refine lv_istore (lv' := [(4, .int 0), (0, .double a9), (2, .double c9)]) hx hb dX3_leastKerfs_1 hl (by decide) rfl (fun ls hl => ?_)
  refine lv_ldc (v := 32768) hx hb hown (hts (.constant RX3 178 (32768)) (by decide +kernel)) dX3_leastKerfs_3 ?_
  refine lv_istore (lv' := [(5, .int 32768), (4, .int 0), (0, .double a9), (2, .double c9)]) hx hb dX3_leastKerfs_5 hl (by decide) rfl (fun ls hl => ?_)
  refine w_loop (σ := Nat × Nat) (fun n9 x9 H locs ls => lv_has ls 6 [(5, .int (nI (x9.2 / 2))), (4, .int (nI x9.1)), (0, .double a9), (2, .double c9)] ∧ va_S (fun _ => False) s.heap H locs ∧ n9 = x9.2 ∧ p2 x9.2 ∧ 1 ≤ x9.2 ∧ x9.1 + x9.2 ≤ 65536 ∧ (x9.1 = 0 ∨ few a9 c9 x9.1) ∧ ¬ few a9 c9 (x9.1 + x9.2)) (n0 := 65536) (x0 := (0, 65536)) ⟨lv_sub hl [0, 1, 2, 3] rfl, hS, (show 65536 = 65536 ∧ p2 65536 ∧ 1 ≤ 65536 ∧ 0 + 65536 ≤ 65536 ∧ (0 = 0 ∨ few a9 c9 0) ∧ ¬ few a9 c9 (0 + 65536) from ⟨rfl, ⟨16, by decide, by decide⟩, by decide, by decide, Or.inl rfl, fun z => hk.2.2.2 (few_less hk (by decide) (by decide) (by decide) z)⟩)⟩ ?_
  rintro n9 ⟨t9, q9⟩ H locs ls ⟨hl, hS, hi⟩ ih
  have hl : lv_has ls 6 [(5, .int (nI (q9 / 2))), (4, .int (nI t9)), (0, .double a9), (2, .double c9)] := hl
  have hi : n9 = q9 ∧ p2 q9 ∧ 1 ≤ q9 ∧ t9 + q9 ≤ 65536 ∧ (t9 = 0 ∨ few a9 c9 t9) ∧ ¬ few a9 c9 (t9 + q9) := hi
  refine lv_iload hx hb dX3_leastKerfs_7 (lv_at hl 0 rfl) ?_
  refine lv_if_le (tgt := 41) hx hb dX3_leastKerfs_9 (by decide) (fun c_9 => ?_) (fun c_9 => ?_)
  · have c_9 := (nI_leI (a := q9 / 2) (b := 0) (by omega) (by omega)).mp c_9
    refine lv_iload hx hb dX3_leastKerfs_41 (lv_at hl 1 rfl) ?_
    refine lv_iconst (v := 1) hx hb dX3_leastKerfs_43 (by decide) ?_
    refine lv_iaddN (x := t9) (y := 1) hx hb dX3_leastKerfs_44 ?_
    exact W.iret hx hb hr (fun t9s hht hW9 => ⟨⟨nI (t9 + 1), (), rfl, ⟨t9 + 1, rfl, by omega, (by
        have h3 : t9 ≤ 65534 := by
          rcases hi.2.2.2.2.1 with z | z
          · omega
          · refine Nat.le_of_not_lt fun y => hk.2.2.2 ?_
            rw [show 65535 = t9 by omega]; exact z
        omega), (by rw [show t9 + 1 = t9 + q9 by omega]; exact hi.2.2.2.2.2), fun m h1 h2 => (by
        rcases hi.2.2.2.2.1 with z | z
        · omega
        · exact few_less hk h1 (by omega) (by omega) z)⟩, trivial⟩, hS.F hht⟩) hS.2.2 dX3_leastKerfs_45
  · have c_9 := mt (nI_leI (a := q9 / 2) (b := 0) (by omega) (by omega)).mpr c_9
    obtain ⟨g9, hg9⟩ := p2_half hi.2.1 (by omega)
    refine lv_iload hx hb dX3_leastKerfs_12 (lv_at hl 1 rfl) ?_
    refine lv_iload hx hb dX3_leastKerfs_14 (lv_at hl 0 rfl) ?_
    refine lv_iaddN (x := t9) (y := q9 / 2) hx hb dX3_leastKerfs_16 ?_
    refine lv_i2d hx hb dX3_leastKerfs_17 ?_
    refine lv_dload_n hx hb dX3_leastKerfs_18 rfl (lv_at hl 3 rfl) ?_
    have b_9 : dB (1154) (FP.dmul (FP.i2d (nI (t9 + (q9 / 2)))) c9) := dB.mul (i2d_dB (nI (t9 + (q9 / 2)))) hk.2.1 (by omega) (by omega) (by omega)
    refine lv_dmul hx hb dX3_leastKerfs_19 (b_9.ok (by omega)) ?_
    refine lv_dload_n hx hb dX3_leastKerfs_20 rfl (lv_at hl 2 rfl) ?_
    refine lv_dcmp hx hb dX3_leastKerfs_21 ?_
    refine lv_if_ge (tgt := 32) hx hb dX3_leastKerfs_22 (by decide) (fun c_22 => ?_) (fun c_22 => ?_)
    · have c_22 := (cv_ge (b_9.nn (by omega)) (hk.1.nn (by omega))).mp c_22
      refine lv_iload hx hb dX3_leastKerfs_32 (lv_at hl 0 rfl) ?_
      refine lv_iconst (v := 2) hx hb dX3_leastKerfs_34 (by decide) ?_
      refine lv_idivN (x := q9 / 2) (y := 2) hx hb dX3_leastKerfs_35 (by omega) (by omega) (by omega) ?_
      refine lv_istore (lv' := [(5, .int (nI ((q9 / 2) / 2))), (4, .int (nI t9)), (0, .double a9), (2, .double c9)]) hx hb dX3_leastKerfs_36 hl (by decide) rfl (fun ls hl => ?_)
      refine lv_goto (tgt := 7) hx hb dX3_leastKerfs_38 (by decide) ?_
      exact ih (q9 / 2) (by omega) (t9, q9 / 2) _ _ _ ⟨lv_sub hl [0, 1, 2, 3] rfl, hS, (show (q9 / 2) = (q9 / 2) ∧ p2 (q9 / 2) ∧ 1 ≤ (q9 / 2) ∧ t9 + (q9 / 2) ≤ 65536 ∧ (t9 = 0 ∨ few a9 c9 t9) ∧ ¬ few a9 c9 (t9 + (q9 / 2)) from ⟨rfl, by rw [show q9 / 2 = g9 by omega]; exact hg9.2.1, by omega, by omega, hi.2.2.2.2.1, by unfold few; omega⟩)⟩
    · have c_22 := mt (cv_ge (b_9.nn (by omega)) (hk.1.nn (by omega))).mpr c_22
      refine lv_iload hx hb dX3_leastKerfs_25 (lv_at hl 1 rfl) ?_
      refine lv_iload hx hb dX3_leastKerfs_27 (lv_at hl 0 rfl) ?_
      refine lv_iaddN (x := t9) (y := q9 / 2) hx hb dX3_leastKerfs_29 ?_
      refine lv_istore (lv' := [(4, .int (nI (t9 + (q9 / 2)))), (5, .int (nI (q9 / 2))), (0, .double a9), (2, .double c9)]) hx hb dX3_leastKerfs_30 hl (by decide) rfl (fun ls hl => ?_)
      refine lv_iload hx hb dX3_leastKerfs_32 (lv_at hl 1 rfl) ?_
      refine lv_iconst (v := 2) hx hb dX3_leastKerfs_34 (by decide) ?_
      refine lv_idivN (x := q9 / 2) (y := 2) hx hb dX3_leastKerfs_35 (by omega) (by omega) (by omega) ?_
      refine lv_istore (lv' := [(5, .int (nI ((q9 / 2) / 2))), (4, .int (nI (t9 + (q9 / 2)))), (0, .double a9), (2, .double c9)]) hx hb dX3_leastKerfs_36 hl (by decide) rfl (fun ls hl => ?_)
      refine lv_goto (tgt := 7) hx hb dX3_leastKerfs_38 (by decide) ?_
      exact ih (q9 / 2) (by omega) (t9 + q9 / 2, q9 / 2) _ _ _ ⟨lv_sub hl [0, 1, 2, 3] rfl, hS, (show (q9 / 2) = (q9 / 2) ∧ p2 (q9 / 2) ∧ 1 ≤ (q9 / 2) ∧ (t9 + q9 / 2) + (q9 / 2) ≤ 65536 ∧ ((t9 + q9 / 2) = 0 ∨ few a9 c9 (t9 + q9 / 2)) ∧ ¬ few a9 c9 ((t9 + q9 / 2) + (q9 / 2)) from ⟨rfl, by rw [show q9 / 2 = g9 by omega]; exact hg9.2.1, by omega, by omega, Or.inr (by unfold few; omega), by rw [show t9 + q9 / 2 + q9 / 2 = t9 + q9 by omega]; exact hi.2.2.2.2.2⟩)⟩

set_option maxHeartbeats 4000000 in
set_option maxRecDepth 100000 in
theorem m_X3_commonDivisor (l : Launch) (x y : Nat) (hx9 : x ≤ 1000001) (hy9 : y ≤ x) : Met l yX3_commonDivisor wsX3_commonDivisor ({ frames := 0, cells := 0, slots := 0, locals := 0 } : Room) (va_Pc [.int (nI x), .int (nI y)] (fun _ => True)) (va_Qi (fun (r : Int32) (_ : Unit) => r = nI (Nat.gcd x y)) (fun _ _ => True) (fun _ => False)) 0 0 (fun _ => False) := by
  refine Met.ofW (cc := cX3_commonDivisor) (maxL := 6) (ret := (some .int)) (by decide) rfl ?_
  intro p e s m args below meth c s₁ BB hml hv
  obtain ⟨rfl, -⟩ := hv
  have hx := BB.exec
  have hb := BB.bytes
  have hr := BB.returns
  have hts := atoms_spec (ws := wsX3_commonDivisor) BB.pre
  have hown : s.vm.findClass RX3 = some m.cls := findClass_of_methodNamed BB.named
  have hlocks := BB.notSynchronized
  have hS : va_S (fun _ => False) s.heap s.heap [] := va_S.rf
  have hl := lv_entry ([.int (nI x), .int (nI y)]) (n := 6) (Nat.le_of_ble_eq_true rfl)
  rw [lg_entry_eq]
  generalize (lg_sl ([.int (nI x), .int (nI y)]) ++ List.replicate (6 - (lg_sl ([.int (nI x), .int (nI y)])).length) Slot.unset).toArray = ls at hl ⊢
  have hl : lv_has ls 6 [(0, .int (nI x)), (1, .int (nI y))] := hl
  refine lv_iload_n hx hb dX3_commonDivisor_0 rfl (lv_at hl 0 rfl) ?_
  refine lv_istore_n (lv' := [(2, .int (nI x)), (0, .int (nI x)), (1, .int (nI y))]) hx hb dX3_commonDivisor_1 rfl hl (by decide) rfl (fun ls hl => ?_)
  refine lv_iload_n hx hb dX3_commonDivisor_2 rfl (lv_at hl 2 rfl) ?_
  refine lv_istore_n (lv' := [(3, .int (nI y)), (2, .int (nI x)), (0, .int (nI x)), (1, .int (nI y))]) hx hb dX3_commonDivisor_3 rfl hl (by decide) rfl (fun ls hl => ?_)
  refine lv_iconst (v := 0) hx hb dX3_commonDivisor_4 (by decide) ?_
  refine lv_istore (lv' := [(4, .int 0), (3, .int (nI y)), (2, .int (nI x)), (0, .int (nI x)), (1, .int (nI y))]) hx hb dX3_commonDivisor_5 hl (by decide) rfl (fun ls hl => ?_)
  refine w_loop (σ := Nat × Nat × Nat) (fun n9 x9 H locs ls => lv_has ls 6 [(4, .int (nI x9.2.2)), (3, .int (nI x9.2.1)), (2, .int (nI x9.1)), (0, .int (nI x)), (1, .int (nI y))] ∧ va_S (fun _ => False) s.heap H locs ∧ x9.2.2 + n9 = 64 ∧ Nat.gcd x9.1 x9.2.1 = Nat.gcd x y ∧ x9.2.1 ≤ x9.1 ∧ x9.1 ≤ 1000001 ∧ x9.1 * x9.2.1 * 2 ^ x9.2.2 ≤ 2 ^ 40) (n0 := 64) (x0 := (x, y, 0)) ⟨lv_sub hl [0, 1, 2, 3, 4] rfl, hS, (show 0 + 64 = 64 ∧ Nat.gcd x y = Nat.gcd x y ∧ y ≤ x ∧ x ≤ 1000001 ∧ x * y * 2 ^ 0 ≤ 2 ^ 40 from ⟨by omega, rfl, by omega, by omega, (by
      rw [Nat.pow_zero, Nat.mul_one]
      exact Nat.le_trans (Nat.mul_le_mul hx9 (Nat.le_trans hy9 hx9)) (by decide))⟩)⟩ ?_
  rintro n9 ⟨d9, l9, i9⟩ H locs ls ⟨hl, hS, hi⟩ ih
  have hl : lv_has ls 6 [(4, .int (nI i9)), (3, .int (nI l9)), (2, .int (nI d9)), (0, .int (nI x)), (1, .int (nI y))] := hl
  have hi : i9 + n9 = 64 ∧ Nat.gcd d9 l9 = Nat.gcd x y ∧ l9 ≤ d9 ∧ d9 ≤ 1000001 ∧ d9 * l9 * 2 ^ i9 ≤ 2 ^ 40 := hi
  refine lv_iload hx hb dX3_commonDivisor_7 (lv_at hl 0 rfl) ?_
  refine lv_bipush (v := 64) hx hb dX3_commonDivisor_9 (by decide) ?_
  refine lv_icmp_ge (tgt := 34) hx hb dX3_commonDivisor_11 (by decide) (fun c_11 => ?_) (fun c_11 => ?_)
  · have c_11 := (nI_leI (a := 64) (b := i9) (by omega) (by omega)).mp c_11
    refine lv_iload_n hx hb dX3_commonDivisor_34 rfl (lv_at hl 2 rfl) ?_
    exact W.iret hx hb hr (fun t9s hht hW9 => ⟨⟨nI d9, (), rfl, (by rw [← hi.2.1, show l9 = 0 from eu_end (by omega) hi.2.2.1 hi.2.2.2.2, Nat.gcd_zero_right]), trivial⟩, hS.F hht⟩) hS.2.2 dX3_commonDivisor_35
  · have c_11 := mt (nI_leI (a := 64) (b := i9) (by omega) (by omega)).mpr c_11
    refine lv_iload_n hx hb dX3_commonDivisor_14 rfl (lv_at hl 1 rfl) ?_
    refine lv_if_le (tgt := 34) hx hb dX3_commonDivisor_15 (by decide) (fun c_15 => ?_) (fun c_15 => ?_)
    · have c_15 := (nI_leI (a := l9) (b := 0) (by omega) (by omega)).mp c_15
      refine lv_iload_n hx hb dX3_commonDivisor_34 rfl (lv_at hl 2 rfl) ?_
      exact W.iret hx hb hr (fun t9s hht hW9 => ⟨⟨nI d9, (), rfl, (by rw [← hi.2.1, show l9 = 0 from by omega, Nat.gcd_zero_right]), trivial⟩, hS.F hht⟩) hS.2.2 dX3_commonDivisor_35
    · have c_15 := mt (nI_leI (a := l9) (b := 0) (by omega) (by omega)).mpr c_15
      refine lv_iload_n hx hb dX3_commonDivisor_18 rfl (lv_at hl 2 rfl) ?_
      refine lv_iload_n hx hb dX3_commonDivisor_19 rfl (lv_at hl 1 rfl) ?_
      refine lv_iremN (x := d9) (y := l9) hx hb dX3_commonDivisor_20 (by omega) (by omega) (by omega) ?_
      refine lv_istore (lv' := [(5, .int (nI (d9 % l9))), (4, .int (nI i9)), (3, .int (nI l9)), (2, .int (nI d9)), (0, .int (nI x)), (1, .int (nI y))]) hx hb dX3_commonDivisor_21 hl (by decide) rfl (fun ls hl => ?_)
      refine lv_iload_n hx hb dX3_commonDivisor_23 rfl (lv_at hl 2 rfl) ?_
      refine lv_istore_n (lv' := [(2, .int (nI l9)), (5, .int (nI (d9 % l9))), (4, .int (nI i9)), (3, .int (nI l9)), (0, .int (nI x)), (1, .int (nI y))]) hx hb dX3_commonDivisor_24 rfl hl (by decide) rfl (fun ls hl => ?_)
      refine lv_iload hx hb dX3_commonDivisor_25 (lv_at hl 1 rfl) ?_
      refine lv_istore_n (lv' := [(3, .int (nI (d9 % l9))), (2, .int (nI l9)), (5, .int (nI (d9 % l9))), (4, .int (nI i9)), (0, .int (nI x)), (1, .int (nI y))]) hx hb dX3_commonDivisor_27 rfl hl (by decide) rfl (fun ls hl => ?_)
      refine lv_iinc (v := nI (i9 + 1)) (lv' := [(4, .int (nI (i9 + 1))), (3, .int (nI (d9 % l9))), (2, .int (nI l9)), (5, .int (nI (d9 % l9))), (0, .int (nI x)), (1, .int (nI y))]) hx hb dX3_commonDivisor_28 hl (k := 3) rfl (show nI i9 + nI 1 = nI (i9 + 1) from nI_add _ _) (by decide) rfl (fun ls hl => ?_)
      refine lv_goto (tgt := 7) hx hb dX3_commonDivisor_31 (by decide) ?_
      exact ih (n9 - 1) (by omega) (l9, d9 % l9, i9 + 1) _ _ _ ⟨lv_sub hl [0, 1, 2, 4, 5] rfl, hS, (show (i9 + 1) + (n9 - 1) = 64 ∧ Nat.gcd l9 (d9 % l9) = Nat.gcd x y ∧ (d9 % l9) ≤ l9 ∧ l9 ≤ 1000001 ∧ l9 * (d9 % l9) * 2 ^ (i9 + 1) ≤ 2 ^ 40 from ⟨by omega, by rw [eu_gcd (by omega)]; exact hi.2.1, Nat.le_of_lt (Nat.mod_lt _ (by omega)), by omega, eu_step (by omega) hi.2.2.1 hi.2.2.2.2⟩)⟩

set_option maxHeartbeats 4000000 in
set_option maxRecDepth 100000 in
theorem m_X0_isAboveRows (l : Launch) (dC : Nat → ClassId) (dI : Nat → Nat → Nat) (cD : ClassId) (k rw rd : Nat) (sp st : UInt64) (tf tg : Nat) (n : Nat) (T R : Nat → UInt64) (t : UInt64) (ht : dB 1060 t) (hrow : rowsOK T R n) : Met l yX0_isAboveRows wsX0_isAboveRows ({ frames := 2, cells := 0, slots := 0, locals := 42 } : Room) (va_Pc [.ref k, .double t] (PK (dC, dI) [(cD, .double)] [(k, .inr (0, [.ref rw, .ref rd, .double sp, .double st])), (rw, .inr (1, [.ref tf, .ref tg, .int (nI n)])), (tf, .inl (cD, 12, .inr (.inr (.inr (.inl T))))), (tg, .inl (cD, 12, .inr (.inr (.inr (.inl R)))))])) (va_Qi (fun (r : Int32) (_ : Unit) => r = if n = 0 ∨ dv (T (n - 1)) < dv t then 1 else 0) (fun _ _ => True) (fun _ => False)) 0 0 (fun _ => False) := by
  refine Met.ofW (cc := cX0_isAboveRows) (maxL := 3) (ret := (some .boolean)) (by decide) rfl ?_
  intro p e s m args below meth c s₁ BB hml hv
  obtain ⟨rfl, hP, hK, hN⟩ := hv
  have hx := BB.exec
  have hb := BB.bytes
  have hr := BB.returns
  have hts := atoms_spec (ws := wsX0_isAboveRows) BB.pre
  have hown : s.vm.findClass RX0 = some m.cls := findClass_of_methodNamed BB.named
  have hlocks := BB.notSynchronized
  have hS : va_S (fun _ => False) s.heap s.heap [] := va_S.rf
  have hP : va_P (dC, dI) vwCl [(k, .inr (0, [.ref rw, .ref rd, .double sp, .double st])), (rw, .inr (1, [.ref tf, .ref tg, .int (nI n)])), (tf, .inl (cD, 12, .inr (.inr (.inr (.inl T))))), (tg, .inl (cD, 12, .inr (.inr (.inr (.inl R)))))] s.heap := hP
  have hl := lv_entry ([.ref k, .double t]) (n := 3) (Nat.le_of_ble_eq_true rfl)
  rw [lg_entry_eq]
  generalize (lg_sl ([.ref k, .double t]) ++ List.replicate (3 - (lg_sl ([.ref k, .double t])).length) Slot.unset).toArray = ls at hl ⊢
  have hl : lv_has ls 3 [(0, .ref k), (1, .double t)] := hl
  have hn12 := hrow.1
  refine lv_aload_n hx hb dX0_isAboveRows_0 rfl (lv_at hl 0 rfl) ?_
  refine va_get (D := (dC, dI)) (ci := 0) (v := .ref rw) (C := RX0) (T := TX0) (N := 4) hx hb hts (by decide +kernel) hown hK hP 0 rfl rfl 0 (by decide) (hts (.fieldLink RX0 14 "SteamBends$Kind" "rows" "LSteamBends$Pairs;") (by decide +kernel)) (fun _ h9 => h9) rfl dX0_isAboveRows_1 ?_
  refine va_getN (D := (dC, dI)) (ci := 1) (v := .int (nI n)) (C := RX1) (T := TX1) (N := 3) (host := "SteamBends") hx hb hts (by decide +kernel) hown hK hP 1 rfl rfl 2 (by decide) (va_Nw.use rfl (hN.f 5 rfl)) (fun _ h9 => h9) rfl dX0_isAboveRows_4 ?_
  refine lv_if_eq (tgt := 31) hx hb dX0_isAboveRows_7 (by decide) (fun c_7 => ?_) (fun c_7 => ?_)
  · have c_7 := (nI_eq (a := n) (b := 0) (by omega) (by omega)).mp c_7
    refine lv_iconst (v := 1) hx hb dX0_isAboveRows_31 (by decide) ?_
    refine lv_goto (tgt := 36) hx hb dX0_isAboveRows_32 (by decide) ?_
    exact W.zret hx hb hr (by decide) (fun t9s hht hW9 => ⟨⟨1, (), rfl, (by split <;> first | rfl | (exfalso; omega)), trivial⟩, hS.F hht⟩) hS.2.2 dX0_isAboveRows_36
  · have c_7 := mt (nI_eq (a := n) (b := 0) (by omega) (by omega)).mpr c_7
    refine lv_dload_n hx hb dX0_isAboveRows_10 rfl (lv_at hl 1 rfl) ?_
    refine lv_aload_n hx hb dX0_isAboveRows_11 rfl (lv_at hl 0 rfl) ?_
    refine va_get (D := (dC, dI)) (ci := 0) (v := .ref rw) (C := RX0) (T := TX0) (N := 4) hx hb hts (by decide +kernel) hown hK hP 0 rfl rfl 0 (by decide) (hts (.fieldLink RX0 14 "SteamBends$Kind" "rows" "LSteamBends$Pairs;") (by decide +kernel)) (fun _ h9 => h9) rfl dX0_isAboveRows_12 ?_
    refine lv_aload_n hx hb dX0_isAboveRows_15 rfl (lv_at hl 0 rfl) ?_
    refine va_get (D := (dC, dI)) (ci := 0) (v := .ref rw) (C := RX0) (T := TX0) (N := 4) hx hb hts (by decide +kernel) hown hK hP 0 rfl rfl 0 (by decide) (hts (.fieldLink RX0 14 "SteamBends$Kind" "rows" "LSteamBends$Pairs;") (by decide +kernel)) (fun _ h9 => h9) rfl dX0_isAboveRows_16 ?_
    refine va_getN (D := (dC, dI)) (ci := 1) (v := .int (nI n)) (C := RX1) (T := TX1) (N := 3) (host := "SteamBends") hx hb hts (by decide +kernel) hown hK hP 1 rfl rfl 2 (by decide) (va_Nw.use rfl (hN.f 5 rfl)) (fun _ h9 => h9) rfl dX0_isAboveRows_19 ?_
    refine lv_iconst (v := 1) hx hb dX0_isAboveRows_22 (by decide) ?_
    refine lv_isubN (x := n) (y := 1) hx hb dX0_isAboveRows_23 (by omega) ?_
    have hPc := hP.sub (ws' := [(rw, .inr (1, [.ref tf, .ref tg, .int (nI n)])), (tf, .inl (cD, 12, .inr (.inr (.inr (.inl T))))), (tg, .inl (cD, 12, .inr (.inr (.inr (.inl R)))))]) [1, 2, 3] rfl
    have hKc := hK.sub (tys' := [(cD, .double)]) [0] rfl
    refine va_calld (va_runV (As := [.int (nI (n - 1))]) (rest := [.double t]) ⟨hx, hb, hml, hown, hts⟩ (m_X1_first l dC dI cD rw tf tg n 12 T R (n - 1) (by omega) (by omega)) (cwV 1 hts gX0_isAboveRows_X1_first rfl rfl rfl (by decide +kernel) ⟨(Nat.le_of_ble_eq_true rfl), (Nat.le_of_ble_eq_true rfl)⟩) ⟨PK.blind, va_recv hKc hPc (ci := 1) (q0 := 0) rfl rfl, fun U9 hU9 hW9 => ⟨rfl, PK.at hPc hKc hN hU9 hW9⟩⟩ rfl rfl hl.1 rfl (lv_room (Nat.le_of_ble_eq_true rfl)) dX0_isAboveRows_24 ⟨(Nat.le_of_ble_eq_true rfl), (Nat.le_of_ble_eq_true rfl)⟩) hS (fun q _ h => h.elim) (fun q h => h.elim) (fun r_11 u9s t9s H1 locs hht hvm9 hw_24_k_10 hB hz1 hk1 hS => ?_)
    have hP := va_still hP hk1
    generalize H1 = H at hP hS ⊢
    subst hw_24_k_10
    refine lv_dcmp hx hb dX0_isAboveRows_27 ?_
    refine lv_if_le (tgt := 35) hx hb dX0_isAboveRows_28 (by decide) (fun c_28 => ?_) (fun c_28 => ?_)
    · have c_28 := (cv_le (ht.nn (by omega)) ((hrow.T (i := n - 1) (by omega)).nn (by omega))).mp c_28
      refine lv_iconst (v := 0) hx hb dX0_isAboveRows_35 (by decide) ?_
      exact W.zret hx hb hr (by decide) (fun t9s hht hW9 => ⟨⟨0, (), rfl, (by split <;> first | rfl | (exfalso; omega)), trivial⟩, hS.F hht⟩) hS.2.2 dX0_isAboveRows_36
    · have c_28 := mt (cv_le (ht.nn (by omega)) ((hrow.T (i := n - 1) (by omega)).nn (by omega))).mpr c_28
      refine lv_iconst (v := 1) hx hb dX0_isAboveRows_31 (by decide) ?_
      refine lv_goto (tgt := 36) hx hb dX0_isAboveRows_32 (by decide) ?_
      exact W.zret hx hb hr (by decide) (fun t9s hht hW9 => ⟨⟨1, (), rfl, (by split <;> first | rfl | (exfalso; omega)), trivial⟩, hS.F hht⟩) hS.2.2 dX0_isAboveRows_36

set_option maxHeartbeats 4000000 in
set_option maxRecDepth 100000 in
theorem m_X0_radiusBetween (l : Launch) (dC : Nat → ClassId) (dI : Nat → Nat → Nat) (cD : ClassId) (k rw rd : Nat) (sp st : UInt64) (tf tg : Nat) (n : Nat) (T R : Nat → UInt64) (x y : Nat) (t : UInt64) (hx9 : x < n) (hy9 : y < n) (hxy : x < y) (ht : dB 1064 t) (hrow : rowsOK T R n) : Met l yX0_radiusBetween wsX0_radiusBetween ({ frames := 2, cells := 0, slots := 0, locals := 42 } : Room) (va_Pc [.ref k, .int (nI x), .int (nI y), .double t] (PK (dC, dI) [(cD, .double)] [(k, .inr (0, [.ref rw, .ref rd, .double sp, .double st])), (rw, .inr (1, [.ref tf, .ref tg, .int (nI n)])), (tf, .inl (cD, 12, .inr (.inr (.inr (.inl T))))), (tg, .inl (cD, 12, .inr (.inr (.inr (.inl R)))))])) (va_Qd (fun (r : UInt64) (_ : Unit) => r = FP.dadd (R x) (FP.ddiv (FP.dmul (FP.dsub t (T x)) (FP.dsub (R y) (R x))) (FP.dsub (T y) (T x)))) (fun _ _ => True) (fun _ => False)) 0 0 (fun _ => False) := by
  refine Met.ofW (cc := cX0_radiusBetween) (maxL := 13) (ret := (some .double)) (by decide) rfl ?_
  intro p e s m args below meth c s₁ BB hml hv
  obtain ⟨rfl, hP, hK, hN⟩ := hv
  have hx := BB.exec
  have hb := BB.bytes
  have hr := BB.returns
  have hts := atoms_spec (ws := wsX0_radiusBetween) BB.pre
  have hown : s.vm.findClass RX0 = some m.cls := findClass_of_methodNamed BB.named
  have hlocks := BB.notSynchronized
  have hS : va_S (fun _ => False) s.heap s.heap [] := va_S.rf
  have hP : va_P (dC, dI) vwCl [(k, .inr (0, [.ref rw, .ref rd, .double sp, .double st])), (rw, .inr (1, [.ref tf, .ref tg, .int (nI n)])), (tf, .inl (cD, 12, .inr (.inr (.inr (.inl T))))), (tg, .inl (cD, 12, .inr (.inr (.inr (.inl R)))))] s.heap := hP
  have hl := lv_entry ([.ref k, .int (nI x), .int (nI y), .double t]) (n := 13) (Nat.le_of_ble_eq_true rfl)
  rw [lg_entry_eq]
  generalize (lg_sl ([.ref k, .int (nI x), .int (nI y), .double t]) ++ List.replicate (13 - (lg_sl ([.ref k, .int (nI x), .int (nI y), .double t])).length) Slot.unset).toArray = ls at hl ⊢
  have hl : lv_has ls 13 [(0, .ref k), (1, .int (nI x)), (2, .int (nI y)), (3, .double t)] := hl
  have hn12 := hrow.1
  refine lv_aload_n hx hb dX0_radiusBetween_0 rfl (lv_at hl 0 rfl) ?_
  refine va_get (D := (dC, dI)) (ci := 0) (v := .ref rw) (C := RX0) (T := TX0) (N := 4) hx hb hts (by decide +kernel) hown hK hP 0 rfl rfl 0 (by decide) (hts (.fieldLink RX0 14 "SteamBends$Kind" "rows" "LSteamBends$Pairs;") (by decide +kernel)) (fun _ h9 => h9) rfl dX0_radiusBetween_1 ?_
  refine lv_iload_n hx hb dX0_radiusBetween_4 rfl (lv_at hl 1 rfl) ?_
  have hPc := hP.sub (ws' := [(rw, .inr (1, [.ref tf, .ref tg, .int (nI n)])), (tf, .inl (cD, 12, .inr (.inr (.inr (.inl T))))), (tg, .inl (cD, 12, .inr (.inr (.inr (.inl R)))))]) [1, 2, 3] rfl
  have hKc := hK.sub (tys' := [(cD, .double)]) [0] rfl
  refine va_calld (va_runV (As := [.int (nI x)]) (rest := []) ⟨hx, hb, hml, hown, hts⟩ (m_X1_first l dC dI cD rw tf tg n 12 T R x (by omega) (by omega)) (cwV 1 hts gX0_radiusBetween_X1_first rfl rfl rfl (by decide +kernel) ⟨(Nat.le_of_ble_eq_true rfl), (Nat.le_of_ble_eq_true rfl)⟩) ⟨PK.blind, va_recv hKc hPc (ci := 1) (q0 := 0) rfl rfl, fun U9 hU9 hW9 => ⟨rfl, PK.at hPc hKc hN hU9 hW9⟩⟩ rfl rfl hl.1 rfl (lv_room (Nat.le_of_ble_eq_true rfl)) dX0_radiusBetween_5 ⟨(Nat.le_of_ble_eq_true rfl), (Nat.le_of_ble_eq_true rfl)⟩) hS (fun q _ h => h.elim) (fun q h => h.elim) (fun r_13 u9s t9s H1 locs hht hvm9 hw_5_k_12 hB hz1 hk1 hS => ?_)
  have hP := va_still hP hk1
  generalize H1 = H at hP hS ⊢
  subst hw_5_k_12
  refine lv_dstore (lv' := [(5, .double (T x)), (0, .ref k), (1, .int (nI x)), (2, .int (nI y)), (3, .double t)]) hx hb dX0_radiusBetween_8 hl (by decide) rfl (fun ls hl => ?_)
  refine lv_aload_n hx hb dX0_radiusBetween_10 rfl (lv_at hl 1 rfl) ?_
  refine va_get (D := (dC, dI)) (ci := 0) (v := .ref rw) (C := RX0) (T := TX0) (N := 4) hx hb hts (by decide +kernel) hown hK hP 0 rfl rfl 0 (by decide) (hts (.fieldLink RX0 14 "SteamBends$Kind" "rows" "LSteamBends$Pairs;") (by decide +kernel)) (fun _ h9 => h9) rfl dX0_radiusBetween_11 ?_
  refine lv_iload_n hx hb dX0_radiusBetween_14 rfl (lv_at hl 3 rfl) ?_
  have hPc := hP.sub (ws' := [(rw, .inr (1, [.ref tf, .ref tg, .int (nI n)])), (tf, .inl (cD, 12, .inr (.inr (.inr (.inl T))))), (tg, .inl (cD, 12, .inr (.inr (.inr (.inl R)))))]) [1, 2, 3] rfl
  have hKc := hK.sub (tys' := [(cD, .double)]) [0] rfl
  refine va_calld (va_runV (As := [.int (nI y)]) (rest := []) ⟨hx, hb, hml, hown, hts⟩ (m_X1_first l dC dI cD rw tf tg n 12 T R y (by omega) (by omega)) (cwV 1 hts gX0_radiusBetween_X1_first rfl rfl rfl (by decide +kernel) ⟨(Nat.le_of_ble_eq_true rfl), (Nat.le_of_ble_eq_true rfl)⟩) ⟨PK.blind, va_recv hKc hPc (ci := 1) (q0 := 0) rfl rfl, fun U9 hU9 hW9 => ⟨rfl, PK.at hPc hKc hN hU9 hW9⟩⟩ rfl rfl hl.1 rfl (lv_room (Nat.le_of_ble_eq_true rfl)) dX0_radiusBetween_15 ⟨(Nat.le_of_ble_eq_true rfl), (Nat.le_of_ble_eq_true rfl)⟩) hS (fun q _ h => h.elim) (fun q h => h.elim) (fun r_15 u9s t9s H1 locs hht hvm9 hw_15_k_14 hB hz1 hk1 hS => ?_)
  have hP := va_still hP hk1
  generalize H1 = H at hP hS ⊢
  subst hw_15_k_14
  refine lv_dstore (lv' := [(7, .double (T y)), (5, .double (T x)), (0, .ref k), (1, .int (nI x)), (2, .int (nI y)), (3, .double t)]) hx hb dX0_radiusBetween_18 hl (by decide) rfl (fun ls hl => ?_)
  refine lv_aload_n hx hb dX0_radiusBetween_20 rfl (lv_at hl 2 rfl) ?_
  refine va_get (D := (dC, dI)) (ci := 0) (v := .ref rw) (C := RX0) (T := TX0) (N := 4) hx hb hts (by decide +kernel) hown hK hP 0 rfl rfl 0 (by decide) (hts (.fieldLink RX0 14 "SteamBends$Kind" "rows" "LSteamBends$Pairs;") (by decide +kernel)) (fun _ h9 => h9) rfl dX0_radiusBetween_21 ?_
  refine lv_iload_n hx hb dX0_radiusBetween_24 rfl (lv_at hl 3 rfl) ?_
  have hPc := hP.sub (ws' := [(rw, .inr (1, [.ref tf, .ref tg, .int (nI n)])), (tf, .inl (cD, 12, .inr (.inr (.inr (.inl T))))), (tg, .inl (cD, 12, .inr (.inr (.inr (.inl R)))))]) [1, 2, 3] rfl
  have hKc := hK.sub (tys' := [(cD, .double)]) [0] rfl
  refine va_calld (va_runV (As := [.int (nI x)]) (rest := []) ⟨hx, hb, hml, hown, hts⟩ (m_X1_second l dC dI cD rw tf tg n 12 T R x (by omega) (by omega)) (cwV 1 hts gX0_radiusBetween_X1_second rfl rfl rfl (by decide +kernel) ⟨(Nat.le_of_ble_eq_true rfl), (Nat.le_of_ble_eq_true rfl)⟩) ⟨PK.blind, va_recv hKc hPc (ci := 1) (q0 := 0) rfl rfl, fun U9 hU9 hW9 => ⟨rfl, PK.at hPc hKc hN hU9 hW9⟩⟩ rfl rfl hl.1 rfl (lv_room (Nat.le_of_ble_eq_true rfl)) dX0_radiusBetween_25 ⟨(Nat.le_of_ble_eq_true rfl), (Nat.le_of_ble_eq_true rfl)⟩) hS (fun q _ h => h.elim) (fun q h => h.elim) (fun r_17 u9s t9s H1 locs hht hvm9 hw_25_k_16 hB hz1 hk1 hS => ?_)
  have hP := va_still hP hk1
  generalize H1 = H at hP hS ⊢
  subst hw_25_k_16
  refine lv_dstore (lv' := [(9, .double (R x)), (7, .double (T y)), (5, .double (T x)), (0, .ref k), (1, .int (nI x)), (2, .int (nI y)), (3, .double t)]) hx hb dX0_radiusBetween_28 hl (by decide) rfl (fun ls hl => ?_)
  refine lv_aload_n hx hb dX0_radiusBetween_30 rfl (lv_at hl 3 rfl) ?_
  refine va_get (D := (dC, dI)) (ci := 0) (v := .ref rw) (C := RX0) (T := TX0) (N := 4) hx hb hts (by decide +kernel) hown hK hP 0 rfl rfl 0 (by decide) (hts (.fieldLink RX0 14 "SteamBends$Kind" "rows" "LSteamBends$Pairs;") (by decide +kernel)) (fun _ h9 => h9) rfl dX0_radiusBetween_31 ?_
  refine lv_iload_n hx hb dX0_radiusBetween_34 rfl (lv_at hl 5 rfl) ?_
  have hPc := hP.sub (ws' := [(rw, .inr (1, [.ref tf, .ref tg, .int (nI n)])), (tf, .inl (cD, 12, .inr (.inr (.inr (.inl T))))), (tg, .inl (cD, 12, .inr (.inr (.inr (.inl R)))))]) [1, 2, 3] rfl
  have hKc := hK.sub (tys' := [(cD, .double)]) [0] rfl
  refine va_calld (va_runV (As := [.int (nI y)]) (rest := []) ⟨hx, hb, hml, hown, hts⟩ (m_X1_second l dC dI cD rw tf tg n 12 T R y (by omega) (by omega)) (cwV 1 hts gX0_radiusBetween_X1_second rfl rfl rfl (by decide +kernel) ⟨(Nat.le_of_ble_eq_true rfl), (Nat.le_of_ble_eq_true rfl)⟩) ⟨PK.blind, va_recv hKc hPc (ci := 1) (q0 := 0) rfl rfl, fun U9 hU9 hW9 => ⟨rfl, PK.at hPc hKc hN hU9 hW9⟩⟩ rfl rfl hl.1 rfl (lv_room (Nat.le_of_ble_eq_true rfl)) dX0_radiusBetween_35 ⟨(Nat.le_of_ble_eq_true rfl), (Nat.le_of_ble_eq_true rfl)⟩) hS (fun q _ h => h.elim) (fun q h => h.elim) (fun r_19 u9s t9s H1 locs hht hvm9 hw_35_k_18 hB hz1 hk1 hS => ?_)
  have hP := va_still hP hk1
  generalize H1 = H at hP hS ⊢
  subst hw_35_k_18
  refine lv_dstore (lv' := [(11, .double (R y)), (9, .double (R x)), (7, .double (T y)), (5, .double (T x)), (0, .ref k), (1, .int (nI x)), (2, .int (nI y)), (3, .double t)]) hx hb dX0_radiusBetween_38 hl (by decide) rfl (fun ls hl => ?_)
  refine lv_dload hx hb dX0_radiusBetween_40 (lv_at hl 2 rfl) ?_
  refine lv_dload hx hb dX0_radiusBetween_42 (lv_at hl 3 rfl) ?_
  refine lv_dcmp hx hb dX0_radiusBetween_44 ?_
  refine lv_if_le (tgt := 70) hx hb dX0_radiusBetween_45 (by decide) (fun c_45 => ?_) (fun c_45 => ?_)
  · have c_45 := (cv_le ((hrow.T (i := y) (by omega)).nn (by omega)) ((hrow.T (i := x) (by omega)).nn (by omega))).mp c_45
    exact absurd (hrow.2.2 x y hxy hy9) (by omega)
  · have c_45 := mt (cv_le ((hrow.T (i := y) (by omega)).nn (by omega)) ((hrow.T (i := x) (by omega)).nn (by omega))).mpr c_45
    refine lv_dload hx hb dX0_radiusBetween_48 (lv_at hl 1 rfl) ?_
    refine lv_dload_n hx hb dX0_radiusBetween_50 rfl (lv_at hl 7 rfl) ?_
    refine lv_dload hx hb dX0_radiusBetween_51 (lv_at hl 3 rfl) ?_
    have b_20 : dB (1066) (FP.dsub t (T x)) := dB.sub ht (hrow.T (i := x) (by omega)) (M := 1064) (by omega) (by omega) (by omega)
    refine lv_dsub hx hb dX0_radiusBetween_53 (b_20.ok (by omega)) ?_
    refine lv_dload hx hb dX0_radiusBetween_54 (lv_at hl 0 rfl) ?_
    refine lv_dload hx hb dX0_radiusBetween_56 (lv_at hl 1 rfl) ?_
    have b_21 : dB (1062) (FP.dsub (R y) (R x)) := dB.sub (hrow.R (i := y) (by omega)) (hrow.R (i := x) (by omega)) (M := 1060) (by omega) (by omega) (by omega)
    refine lv_dsub hx hb dX0_radiusBetween_58 (b_21.ok (by omega)) ?_
    have b_22 : dB (1106) (FP.dmul (FP.dsub t (T x)) (FP.dsub (R y) (R x))) := dB.mul b_20 b_21 (by omega) (by omega) (by omega)
    refine lv_dmul hx hb dX0_radiusBetween_59 (b_22.ok (by omega)) ?_
    refine lv_dload hx hb dX0_radiusBetween_60 (lv_at hl 2 rfl) ?_
    refine lv_dload hx hb dX0_radiusBetween_62 (lv_at hl 3 rfl) ?_
    have b_23 : dB (1062) (FP.dsub (T y) (T x)) := dB.sub (hrow.T (i := y) (by omega)) (hrow.T (i := x) (by omega)) (M := 1060) (by omega) (by omega) (by omega)
    refine lv_dsub hx hb dX0_radiusBetween_64 (b_23.ok (by omega)) ?_
    have b_24 : dB (1110) (FP.ddiv (FP.dmul (FP.dsub t (T x)) (FP.dsub (R y) (R x))) (FP.dsub (T y) (T x))) := dB.div b_22 (hrow.dL (i := x) (j := y) (by omega) (by omega)) b_23 (by omega) (by omega) (by omega) (by omega)
    refine lv_ddiv hx hb dX0_radiusBetween_65 (b_24.ok (by omega)) ?_
    have b_25 : dB (1112) (FP.dadd (R x) (FP.ddiv (FP.dmul (FP.dsub t (T x)) (FP.dsub (R y) (R x))) (FP.dsub (T y) (T x)))) := dB.add (hrow.R (i := x) (by omega)) b_24 (M := 1110) (by omega) (by omega) (by omega)
    refine lv_dadd hx hb dX0_radiusBetween_66 (b_25.ok (by omega)) ?_
    refine lv_goto (tgt := 72) hx hb dX0_radiusBetween_67 (by decide) ?_
    exact W.dret hx hb hr (fun t9s hht hW9 => ⟨⟨FP.dadd (R x) (FP.ddiv (FP.dmul (FP.dsub t (T x)) (FP.dsub (R y) (R x))) (FP.dsub (T y) (T x))), (), rfl, (by first | rfl | (exfalso; omega)), trivial⟩, hS.F hht⟩) hS.2.2 dX0_radiusBetween_72

set_option maxHeartbeats 4000000 in
set_option maxRecDepth 100000 in
theorem m_X0_leastRadius (l : Launch) (dC : Nat → ClassId) (dI : Nat → Nat → Nat) (cD : ClassId) (k rw rd : Nat) (sp st : UInt64) (tf tg : Nat) (n : Nat) (T R : Nat → UInt64) (t : UInt64) (ht : dB 1064 t) (hrow : rowsOK T R n) : Met l yX0_leastRadius wsX0_leastRadius ({ frames := 3, cells := 0, slots := 0, locals := 74 } : Room) (va_Pc [.ref k, .double t] (PK (dC, dI) [(cD, .double)] [(k, .inr (0, [.ref rw, .ref rd, .double sp, .double st])), (rw, .inr (1, [.ref tf, .ref tg, .int (nI n)])), (tf, .inl (cD, 12, .inr (.inr (.inr (.inl T))))), (tg, .inl (cD, 12, .inr (.inr (.inr (.inl R)))))])) (va_Qd (fun (r : UInt64) (_ : Unit) => r = (rRad T R t n).getD noR) (fun _ _ => True) (fun _ => False)) 0 0 (fun _ => False) := by
  refine Met.ofW (cc := cX0_leastRadius) (maxL := 4) (ret := (some .double)) (by decide) rfl ?_
  intro p e s m args below meth c s₁ BB hml hv
  obtain ⟨rfl, hP, hK, hN⟩ := hv
  have hx := BB.exec
  have hb := BB.bytes
  have hr := BB.returns
  have hts := atoms_spec (ws := wsX0_leastRadius) BB.pre
  have hown : s.vm.findClass RX0 = some m.cls := findClass_of_methodNamed BB.named
  have hlocks := BB.notSynchronized
  have hS : va_S (fun _ => False) s.heap s.heap [] := va_S.rf
  have hP : va_P (dC, dI) vwCl [(k, .inr (0, [.ref rw, .ref rd, .double sp, .double st])), (rw, .inr (1, [.ref tf, .ref tg, .int (nI n)])), (tf, .inl (cD, 12, .inr (.inr (.inr (.inl T))))), (tg, .inl (cD, 12, .inr (.inr (.inr (.inl R)))))] s.heap := hP
  have hl := lv_entry ([.ref k, .double t]) (n := 4) (Nat.le_of_ble_eq_true rfl)
  rw [lg_entry_eq]
  generalize (lg_sl ([.ref k, .double t]) ++ List.replicate (4 - (lg_sl ([.ref k, .double t])).length) Slot.unset).toArray = ls at hl ⊢
  have hl : lv_has ls 4 [(0, .ref k), (1, .double t)] := hl
  have hn12 := hrow.1
  refine lv_iconst (v := 0) hx hb dX0_leastRadius_0 (by decide) ?_
  refine lv_istore_n (lv' := [(3, .int 0), (0, .ref k), (1, .double t)]) hx hb dX0_leastRadius_1 rfl hl (by decide) rfl (fun ls hl => ?_)
  refine w_loop (σ := Nat) (fun n9 x9 H locs ls => lv_has ls 4 [(3, .int (nI x9)), (0, .ref k), (1, .double t)] ∧ va_P (dC, dI) vwCl [(k, .inr (0, [.ref rw, .ref rd, .double sp, .double st])), (rw, .inr (1, [.ref tf, .ref tg, .int (nI n)])), (tf, .inl (cD, 12, .inr (.inr (.inr (.inl T))))), (tg, .inl (cD, 12, .inr (.inr (.inr (.inl R)))))] H ∧ va_S (fun _ => False) s.heap H locs ∧ x9 + n9 = n ∧ ∀ j, j < x9 → dv (T j) < dv t) (n0 := n) (x0 := 0) ⟨lv_sub hl [0, 1, 2] rfl, hP, hS, (show 0 + n = n ∧ ∀ j, j < 0 → dv (T j) < dv t from ⟨by omega, fun j hj => absurd hj (Nat.not_lt_zero j)⟩)⟩ ?_
  rintro n9 i9 H locs ls ⟨hl, hP, hS, hi⟩ ih
  have hl : lv_has ls 4 [(3, .int (nI i9)), (0, .ref k), (1, .double t)] := hl
  have hP : va_P (dC, dI) vwCl [(k, .inr (0, [.ref rw, .ref rd, .double sp, .double st])), (rw, .inr (1, [.ref tf, .ref tg, .int (nI n)])), (tf, .inl (cD, 12, .inr (.inr (.inr (.inl T))))), (tg, .inl (cD, 12, .inr (.inr (.inr (.inl R)))))] H := hP
  have hi : i9 + n9 = n ∧ ∀ j, j < i9 → dv (T j) < dv t := hi
  refine lv_iload_n hx hb dX0_leastRadius_2 rfl (lv_at hl 0 rfl) ?_
  refine lv_aload_n hx hb dX0_leastRadius_3 rfl (lv_at hl 1 rfl) ?_
  refine va_get (D := (dC, dI)) (ci := 0) (v := .ref rw) (C := RX0) (T := TX0) (N := 4) hx hb hts (by decide +kernel) hown hK hP 0 rfl rfl 0 (by decide) (hts (.fieldLink RX0 14 "SteamBends$Kind" "rows" "LSteamBends$Pairs;") (by decide +kernel)) (fun _ h9 => h9) rfl dX0_leastRadius_4 ?_
  refine va_getN (D := (dC, dI)) (ci := 1) (v := .int (nI n)) (C := RX1) (T := TX1) (N := 3) (host := "SteamBends") hx hb hts (by decide +kernel) hown hK hP 1 rfl rfl 2 (by decide) (va_Nw.use rfl (hN.f 5 rfl)) (fun _ h9 => h9) rfl dX0_leastRadius_7 ?_
  refine lv_icmp_ge (tgt := 74) hx hb dX0_leastRadius_10 (by decide) (fun c_10 => ?_) (fun c_10 => ?_)
  · have c_10 := (nI_leI (a := n) (b := i9) (by omega) (by omega)).mp c_10
    refine lv_ldc2d (v := 13830554455654793216) hx hb hown (hts (.constantDouble RX0 43 (13830554455654793216)) (by decide +kernel)) dX0_leastRadius_74 ?_
    exact W.dret hx hb hr (fun t9s hht hW9 => ⟨⟨13830554455654793216, (), rfl, (by rw [rRad_below n (Nat.le_refl n) (fun j hj => hi.2 j (by omega))]; rfl), trivial⟩, hS.F hht⟩) hS.2.2 dX0_leastRadius_77
  · have c_10 := mt (nI_leI (a := n) (b := i9) (by omega) (by omega)).mpr c_10
    refine lv_aload_n hx hb dX0_leastRadius_13 rfl (lv_at hl 1 rfl) ?_
    refine va_get (D := (dC, dI)) (ci := 0) (v := .ref rw) (C := RX0) (T := TX0) (N := 4) hx hb hts (by decide +kernel) hown hK hP 0 rfl rfl 0 (by decide) (hts (.fieldLink RX0 14 "SteamBends$Kind" "rows" "LSteamBends$Pairs;") (by decide +kernel)) (fun _ h9 => h9) rfl dX0_leastRadius_14 ?_
    refine lv_iload_n hx hb dX0_leastRadius_17 rfl (lv_at hl 0 rfl) ?_
    have hPc := hP.sub (ws' := [(rw, .inr (1, [.ref tf, .ref tg, .int (nI n)])), (tf, .inl (cD, 12, .inr (.inr (.inr (.inl T))))), (tg, .inl (cD, 12, .inr (.inr (.inr (.inl R)))))]) [1, 2, 3] rfl
    have hKc := hK.sub (tys' := [(cD, .double)]) [0] rfl
    refine va_calld (va_runV (As := [.int (nI i9)]) (rest := []) ⟨hx, hb, hml, hown, hts⟩ (m_X1_first l dC dI cD rw tf tg n 12 T R i9 (by omega) (by omega)) (cwV 1 hts gX0_leastRadius_X1_first rfl rfl rfl (by decide +kernel) ⟨(Nat.le_of_ble_eq_true rfl), (Nat.le_of_ble_eq_true rfl)⟩) ⟨PK.blind, va_recv hKc hPc (ci := 1) (q0 := 0) rfl rfl, fun U9 hU9 hW9 => ⟨rfl, PK.at hPc hKc hN hU9 hW9⟩⟩ rfl rfl hl.1 rfl (lv_room (Nat.le_of_ble_eq_true rfl)) dX0_leastRadius_18 ⟨(Nat.le_of_ble_eq_true rfl), (Nat.le_of_ble_eq_true rfl)⟩) hS (fun q _ h => h.elim) (fun q h => h.elim) (fun r_27 u9s t9s H1 locs hht hvm9 hw_18_k_26 hB hz1 hk1 hS => ?_)
    have hP := va_still hP hk1
    generalize H1 = H at hP hS ⊢
    subst hw_18_k_26
    refine lv_dload_n hx hb dX0_leastRadius_21 rfl (lv_at hl 2 rfl) ?_
    refine lv_dcmp hx hb dX0_leastRadius_22 ?_
    refine lv_if_ne (tgt := 35) hx hb dX0_leastRadius_23 (by decide) (fun c_23 => ?_) (fun c_23 => ?_)
    · have c_23 := mt (cv_eq ((hrow.T (i := i9) (by omega)).nn (by omega)) (ht.nn (by omega))).mpr c_23
      refine lv_aload_n hx hb dX0_leastRadius_35 rfl (lv_at hl 1 rfl) ?_
      refine va_get (D := (dC, dI)) (ci := 0) (v := .ref rw) (C := RX0) (T := TX0) (N := 4) hx hb hts (by decide +kernel) hown hK hP 0 rfl rfl 0 (by decide) (hts (.fieldLink RX0 14 "SteamBends$Kind" "rows" "LSteamBends$Pairs;") (by decide +kernel)) (fun _ h9 => h9) rfl dX0_leastRadius_36 ?_
      refine lv_iload_n hx hb dX0_leastRadius_39 rfl (lv_at hl 0 rfl) ?_
      have hPc := hP.sub (ws' := [(rw, .inr (1, [.ref tf, .ref tg, .int (nI n)])), (tf, .inl (cD, 12, .inr (.inr (.inr (.inl T))))), (tg, .inl (cD, 12, .inr (.inr (.inr (.inl R)))))]) [1, 2, 3] rfl
      have hKc := hK.sub (tys' := [(cD, .double)]) [0] rfl
      refine va_calld (va_runV (As := [.int (nI i9)]) (rest := []) ⟨hx, hb, hml, hown, hts⟩ (m_X1_first l dC dI cD rw tf tg n 12 T R i9 (by omega) (by omega)) (cwV 1 hts gX0_leastRadius_X1_first rfl rfl rfl (by decide +kernel) ⟨(Nat.le_of_ble_eq_true rfl), (Nat.le_of_ble_eq_true rfl)⟩) ⟨PK.blind, va_recv hKc hPc (ci := 1) (q0 := 0) rfl rfl, fun U9 hU9 hW9 => ⟨rfl, PK.at hPc hKc hN hU9 hW9⟩⟩ rfl rfl hl.1 rfl (lv_room (Nat.le_of_ble_eq_true rfl)) dX0_leastRadius_40 ⟨(Nat.le_of_ble_eq_true rfl), (Nat.le_of_ble_eq_true rfl)⟩) hS (fun q _ h => h.elim) (fun q h => h.elim) (fun r_29 u9s t9s H1 locs hht hvm9 hw_40_k_28 hB hz1 hk1 hS => ?_)
      have hP := va_still hP hk1
      generalize H1 = H at hP hS ⊢
      subst hw_40_k_28
      refine lv_dload_n hx hb dX0_leastRadius_43 rfl (lv_at hl 2 rfl) ?_
      refine lv_dcmp hx hb dX0_leastRadius_44 ?_
      refine lv_if_le (tgt := 68) hx hb dX0_leastRadius_45 (by decide) (fun c_45 => ?_) (fun c_45 => ?_)
      · have c_45 := (cv_le ((hrow.T (i := i9) (by omega)).nn (by omega)) (ht.nn (by omega))).mp c_45
        refine lv_iinc (v := nI (i9 + 1)) (lv' := [(3, .int (nI (i9 + 1))), (0, .ref k), (1, .double t)]) hx hb dX0_leastRadius_68 hl (k := 0) rfl (show nI i9 + nI 1 = nI (i9 + 1) from nI_add _ _) (by decide) rfl (fun ls hl => ?_)
        refine lv_goto (tgt := 2) hx hb dX0_leastRadius_71 (by decide) ?_
        exact ih (n9 - 1) (by omega) (i9 + 1) _ _ _ ⟨lv_sub hl [0, 1, 2] rfl, hP, hS, (show (i9 + 1) + (n9 - 1) = n ∧ ∀ j, j < (i9 + 1) → dv (T j) < dv t from ⟨by omega, fun j hj => by
            rcases Nat.lt_or_ge j i9 with q | q
            · exact hi.2 j q
            · rw [show j = i9 by omega]; omega⟩)⟩
      · have c_45 := mt (cv_le ((hrow.T (i := i9) (by omega)).nn (by omega)) (ht.nn (by omega))).mpr c_45
        refine lv_iload_n hx hb dX0_leastRadius_48 rfl (lv_at hl 0 rfl) ?_
        refine lv_if_ne (tgt := 58) hx hb dX0_leastRadius_49 (by decide) (fun c_49 => ?_) (fun c_49 => ?_)
        · have c_49 := mt (nI_eq (a := i9) (b := 0) (by omega) (by omega)).mpr c_49
          refine lv_aload_n hx hb dX0_leastRadius_58 rfl (lv_at hl 1 rfl) ?_
          refine lv_iload_n hx hb dX0_leastRadius_59 rfl (lv_at hl 0 rfl) ?_
          refine lv_iconst (v := 1) hx hb dX0_leastRadius_60 (by decide) ?_
          refine lv_isubN (x := i9) (y := 1) hx hb dX0_leastRadius_61 (by omega) ?_
          refine lv_iload_n hx hb dX0_leastRadius_62 rfl (lv_at hl 0 rfl) ?_
          refine lv_dload_n hx hb dX0_leastRadius_63 rfl (lv_at hl 2 rfl) ?_
          have hPc := hP.sub (ws' := [(k, .inr (0, [.ref rw, .ref rd, .double sp, .double st])), (rw, .inr (1, [.ref tf, .ref tg, .int (nI n)])), (tf, .inl (cD, 12, .inr (.inr (.inr (.inl T))))), (tg, .inl (cD, 12, .inr (.inr (.inr (.inl R)))))]) [0, 1, 2, 3] rfl
          have hKc := hK.sub (tys' := [(cD, .double)]) [0] rfl
          refine va_calld (va_runV (As := [.int (nI (i9 - 1)), .int (nI i9), .double t]) (rest := []) ⟨hx, hb, hml, hown, hts⟩ (m_X0_radiusBetween l dC dI cD k rw rd sp st tf tg n T R (i9 - 1) i9 t (by omega) (by omega) (by omega) (ht.mono (by omega) : dB 1064 _) hrow) (cwV 3 hts gX0_leastRadius_X0_radiusBetween rfl rfl rfl (by decide +kernel) ⟨(Nat.le_of_ble_eq_true rfl), (Nat.le_of_ble_eq_true rfl)⟩) ⟨PK.blind, va_recv hKc hPc (ci := 0) (q0 := 0) rfl rfl, fun U9 hU9 hW9 => ⟨rfl, PK.at hPc hKc hN hU9 hW9⟩⟩ rfl rfl hl.1 rfl (lv_room (Nat.le_of_ble_eq_true rfl)) dX0_leastRadius_64 ⟨(Nat.le_of_ble_eq_true rfl), (Nat.le_of_ble_eq_true rfl)⟩) hS (fun q _ h => h.elim) (fun q h => h.elim) (fun r_31 u9s t9s H1 locs hht hvm9 hw_64_k_30 hB hz1 hk1 hS => ?_)
          have hP := va_still hP hk1
          generalize H1 = H at hP hS ⊢
          subst hw_64_k_30
          exact W.dret hx hb hr (fun t9s hht hW9 => ⟨⟨FP.dadd (R (i9 - 1)) (FP.ddiv (FP.dmul (FP.dsub t (T (i9 - 1))) (FP.dsub (R i9) (R (i9 - 1)))) (FP.dsub (T i9) (T (i9 - 1)))), (), rfl, (by rw [rRad_mid (i := i9) hrow (by omega) (by omega) (hi.2 _ (by omega)) (by omega)]; rfl), trivial⟩, hS.F hht⟩) hS.2.2 dX0_leastRadius_67
        · have c_49 := (nI_eq (a := i9) (b := 0) (by omega) (by omega)).mp c_49
          refine lv_ldc2d (v := 13830554455654793216) hx hb hown (hts (.constantDouble RX0 43 (13830554455654793216)) (by decide +kernel)) dX0_leastRadius_52 ?_
          refine lv_goto (tgt := 67) hx hb dX0_leastRadius_55 (by decide) ?_
          exact W.dret hx hb hr (fun t9s hht hW9 => ⟨⟨13830554455654793216, (), rfl, (by rw [rRad_first hrow (by omega) (by have e := c_49; subst e; omega)]; rfl), trivial⟩, hS.F hht⟩) hS.2.2 dX0_leastRadius_67
    · have c_23 := (cv_eq ((hrow.T (i := i9) (by omega)).nn (by omega)) (ht.nn (by omega))).mp c_23
      refine lv_aload_n hx hb dX0_leastRadius_26 rfl (lv_at hl 1 rfl) ?_
      refine va_get (D := (dC, dI)) (ci := 0) (v := .ref rw) (C := RX0) (T := TX0) (N := 4) hx hb hts (by decide +kernel) hown hK hP 0 rfl rfl 0 (by decide) (hts (.fieldLink RX0 14 "SteamBends$Kind" "rows" "LSteamBends$Pairs;") (by decide +kernel)) (fun _ h9 => h9) rfl dX0_leastRadius_27 ?_
      refine lv_iload_n hx hb dX0_leastRadius_30 rfl (lv_at hl 0 rfl) ?_
      have hPc := hP.sub (ws' := [(rw, .inr (1, [.ref tf, .ref tg, .int (nI n)])), (tf, .inl (cD, 12, .inr (.inr (.inr (.inl T))))), (tg, .inl (cD, 12, .inr (.inr (.inr (.inl R)))))]) [1, 2, 3] rfl
      have hKc := hK.sub (tys' := [(cD, .double)]) [0] rfl
      refine va_calld (va_runV (As := [.int (nI i9)]) (rest := []) ⟨hx, hb, hml, hown, hts⟩ (m_X1_second l dC dI cD rw tf tg n 12 T R i9 (by omega) (by omega)) (cwV 1 hts gX0_leastRadius_X1_second rfl rfl rfl (by decide +kernel) ⟨(Nat.le_of_ble_eq_true rfl), (Nat.le_of_ble_eq_true rfl)⟩) ⟨PK.blind, va_recv hKc hPc (ci := 1) (q0 := 0) rfl rfl, fun U9 hU9 hW9 => ⟨rfl, PK.at hPc hKc hN hU9 hW9⟩⟩ rfl rfl hl.1 rfl (lv_room (Nat.le_of_ble_eq_true rfl)) dX0_leastRadius_31 ⟨(Nat.le_of_ble_eq_true rfl), (Nat.le_of_ble_eq_true rfl)⟩) hS (fun q _ h => h.elim) (fun q h => h.elim) (fun r_33 u9s t9s H1 locs hht hvm9 hw_31_k_32 hB hz1 hk1 hS => ?_)
      have hP := va_still hP hk1
      generalize H1 = H at hP hS ⊢
      subst hw_31_k_32
      exact W.dret hx hb hr (fun t9s hht hW9 => ⟨⟨R i9, (), rfl, (by rw [rRad_eq hrow (by omega) c_23]; rfl), trivial⟩, hS.F hht⟩) hS.2.2 dX0_leastRadius_34

set_option maxHeartbeats 4000000 in
set_option maxRecDepth 100000 in
theorem m_X0_leastStrips (l : Launch) (dC : Nat → ClassId) (dI : Nat → Nat → Nat) (cD : ClassId) (k rw rd : Nat) (sp st : UInt64) (tf tg : Nat) (n : Nat) (T R : Nat → UInt64) (t w : UInt64) (ht : dB 1060 t) (hw : dB 1060 w) (hrow : rowsOK T R n) : Met l yX0_leastStrips wsX0_leastStrips ({ frames := 4, cells := 0, slots := 0, locals := 97 } : Room) (va_Pc [.ref k, .double t, .double w] (PK (dC, dI) [(cD, .double)] [(k, .inr (0, [.ref rw, .ref rd, .double sp, .double st])), (rw, .inr (1, [.ref tf, .ref tg, .int (nI n)])), (tf, .inl (cD, 12, .inr (.inr (.inr (.inl T))))), (tg, .inl (cD, 12, .inr (.inr (.inr (.inl R)))))])) (va_Qi (fun (r : Int32) (_ : Unit) => r = strp T R n t w 100 1) (fun _ _ => True) (fun _ => False)) 0 0 (fun _ => False) := by
  refine Met.ofW (cc := cX0_leastStrips) (maxL := 8) (ret := (some .int)) (by decide) rfl ?_
  intro p e s m args below meth c s₁ BB hml hv
  obtain ⟨rfl, hP, hK, hN⟩ := hv
  have hx := BB.exec
  have hb := BB.bytes
  have hr := BB.returns
  have hts := atoms_spec (ws := wsX0_leastStrips) BB.pre
  have hown : s.vm.findClass RX0 = some m.cls := findClass_of_methodNamed BB.named
  have hlocks := BB.notSynchronized
  have hS : va_S (fun _ => False) s.heap s.heap [] := va_S.rf
  have hP : va_P (dC, dI) vwCl [(k, .inr (0, [.ref rw, .ref rd, .double sp, .double st])), (rw, .inr (1, [.ref tf, .ref tg, .int (nI n)])), (tf, .inl (cD, 12, .inr (.inr (.inr (.inl T))))), (tg, .inl (cD, 12, .inr (.inr (.inr (.inl R)))))] s.heap := hP
  have hl := lv_entry ([.ref k, .double t, .double w]) (n := 8) (Nat.le_of_ble_eq_true rfl)
  rw [lg_entry_eq]
  generalize (lg_sl ([.ref k, .double t, .double w]) ++ List.replicate (8 - (lg_sl ([.ref k, .double t, .double w])).length) Slot.unset).toArray = ls at hl ⊢
  have hl : lv_has ls 8 [(0, .ref k), (1, .double t), (3, .double w)] := hl
  refine lv_iconst (v := 1) hx hb dX0_leastStrips_0 (by decide) ?_
  refine lv_istore (lv' := [(5, .int 1), (0, .ref k), (1, .double t), (3, .double w)]) hx hb dX0_leastStrips_1 hl (by decide) rfl (fun ls hl => ?_)
  refine w_loop (σ := Nat) (fun n9 x9 H locs ls => lv_has ls 8 [(5, .int (nI x9)), (0, .ref k), (1, .double t), (3, .double w)] ∧ va_P (dC, dI) vwCl [(k, .inr (0, [.ref rw, .ref rd, .double sp, .double st])), (rw, .inr (1, [.ref tf, .ref tg, .int (nI n)])), (tf, .inl (cD, 12, .inr (.inr (.inr (.inl T))))), (tg, .inl (cD, 12, .inr (.inr (.inr (.inl R)))))] H ∧ va_S (fun _ => False) s.heap H locs ∧ x9 + n9 = 101 ∧ 1 ≤ x9 ∧ strp T R n t w n9 x9 = strp T R n t w 100 1) (n0 := 100) (x0 := 1) ⟨lv_sub hl [0, 1, 2, 3] rfl, hP, hS, (show 1 + 100 = 101 ∧ 1 ≤ 1 ∧ strp T R n t w 100 1 = strp T R n t w 100 1 from ⟨by omega, by omega, rfl⟩)⟩ ?_
  rintro n9 k9 H locs ls ⟨hl, hP, hS, hi⟩ ih
  have hl : lv_has ls 8 [(5, .int (nI k9)), (0, .ref k), (1, .double t), (3, .double w)] := hl
  have hP : va_P (dC, dI) vwCl [(k, .inr (0, [.ref rw, .ref rd, .double sp, .double st])), (rw, .inr (1, [.ref tf, .ref tg, .int (nI n)])), (tf, .inl (cD, 12, .inr (.inr (.inr (.inl T))))), (tg, .inl (cD, 12, .inr (.inr (.inr (.inl R)))))] H := hP
  have hi : k9 + n9 = 101 ∧ 1 ≤ k9 ∧ strp T R n t w n9 k9 = strp T R n t w 100 1 := hi
  refine lv_iload hx hb dX0_leastStrips_3 (lv_at hl 0 rfl) ?_
  refine lv_bipush (v := 100) hx hb dX0_leastStrips_5 (by decide) ?_
  refine lv_icmp_gt (tgt := 45) hx hb dX0_leastStrips_7 (by decide) (fun c_7 => ?_) (fun c_7 => ?_)
  · have c_7 := (nI_ltI (a := 100) (b := k9) (by omega) (by omega)).mp c_7
    refine lv_iconst (v := -1) hx hb dX0_leastStrips_45 (by decide) ?_
    exact W.iret hx hb hr (fun t9s hht hW9 => ⟨⟨(-1), (), rfl, (by rw [← hi.2.2, show n9 = 0 by omega]; rfl), trivial⟩, hS.F hht⟩) hS.2.2 dX0_leastStrips_46
  · have c_7 := mt (nI_ltI (a := 100) (b := k9) (by omega) (by omega)).mpr c_7
    obtain ⟨f9, rfl⟩ : ∃ f, n9 = f + 1 := ⟨n9 - 1, by omega⟩
    refine lv_aload_n hx hb dX0_leastStrips_10 rfl (lv_at hl 1 rfl) ?_
    refine lv_dload_n hx hb dX0_leastStrips_11 rfl (lv_at hl 2 rfl) ?_
    refine lv_iload hx hb dX0_leastStrips_12 (lv_at hl 0 rfl) ?_
    refine lv_i2d hx hb dX0_leastStrips_14 ?_
    have b_34 : dB (1061) (FP.ddiv t (FP.i2d (nI k9))) := dB.div ht (i2d_dL (k := k9) (by omega) (by omega)) (i2d_dB (nI k9)) (by omega) (by omega) (by omega) (by omega)
    refine lv_ddiv hx hb dX0_leastStrips_15 (b_34.ok (by omega)) ?_
    have hPc := hP.sub (ws' := [(k, .inr (0, [.ref rw, .ref rd, .double sp, .double st])), (rw, .inr (1, [.ref tf, .ref tg, .int (nI n)])), (tf, .inl (cD, 12, .inr (.inr (.inr (.inl T))))), (tg, .inl (cD, 12, .inr (.inr (.inr (.inl R)))))]) [0, 1, 2, 3] rfl
    have hKc := hK.sub (tys' := [(cD, .double)]) [0] rfl
    refine va_calld (va_runV (As := [.double (FP.ddiv t (FP.i2d (nI k9)))]) (rest := []) ⟨hx, hb, hml, hown, hts⟩ (m_X0_leastRadius l dC dI cD k rw rd sp st tf tg n T R (FP.ddiv t (FP.i2d (nI k9))) (b_34.mono (by omega) : dB 1064 _) hrow) (cwV 1 hts gX0_leastStrips_X0_leastRadius rfl rfl rfl (by decide +kernel) ⟨(Nat.le_of_ble_eq_true rfl), (Nat.le_of_ble_eq_true rfl)⟩) ⟨PK.blind, va_recv hKc hPc (ci := 0) (q0 := 0) rfl rfl, fun U9 hU9 hW9 => ⟨rfl, PK.at hPc hKc hN hU9 hW9⟩⟩ rfl rfl hl.1 rfl (lv_room (Nat.le_of_ble_eq_true rfl)) dX0_leastStrips_16 ⟨(Nat.le_of_ble_eq_true rfl), (Nat.le_of_ble_eq_true rfl)⟩) hS (fun q _ h => h.elim) (fun q h => h.elim) (fun r_36 u9s t9s H1 locs hht hvm9 hw_16_k_35 hB hz1 hk1 hS => ?_)
    have hP := va_still hP hk1
    generalize H1 = H at hP hS ⊢
    subst hw_16_k_35
    refine lv_dstore (lv' := [(6, .double ((rRad T R (FP.ddiv t (FP.i2d (nI k9))) n).getD noR)), (5, .int (nI k9)), (0, .ref k), (1, .double t), (3, .double w)]) hx hb dX0_leastStrips_19 hl (by decide) rfl (fun ls hl => ?_)
    refine lv_dload hx hb dX0_leastStrips_21 (lv_at hl 0 rfl) ?_
    refine va_calli (va_runSN (As := [.double ((rRad T R (FP.ddiv t (FP.i2d (nI k9))) n).getD noR)]) (rest := []) ⟨hx, hb, hml, hown, hts⟩ (m_X3_isNone l ((rRad T R (FP.ddiv t (FP.i2d (nI k9))) n).getD noR) ((rRad_dB hrow (b_34.mono (by omega) : dB 1064 _)).nn (by omega))) ⟨va_cnB 1 hts gX0_leastStrips_X3_isNone_n53 rfl rfl rfl (hN.m 2 rfl) (hts (.initialized RX3) (by decide +kernel)) (by decide +kernel) ⟨(Nat.le_of_ble_eq_true rfl), (Nat.le_of_ble_eq_true rfl)⟩, (hts (.static yX3_isNone) (by decide +kernel)), trivial⟩ ⟨fun a U g mk q => q, fun U9 hU9 hW9 => ⟨rfl, trivial⟩⟩ rfl rfl hl.1 rfl (lv_room (Nat.le_of_ble_eq_true rfl)) dX0_leastStrips_23 ⟨(Nat.le_of_ble_eq_true rfl), (Nat.le_of_ble_eq_true rfl)⟩) hS (fun q _ h => h.elim) (fun q h => h.elim) (fun r_38 u9s t9s H1 locs hht hvm9 hw_23_k_37 hB hz1 hk1 hS => ?_)
    have hP := va_still hP hk1
    generalize H1 = H at hP hS ⊢
    refine lv_if_ne (tgt := 39) hx hb dX0_leastStrips_26 (by decide) (fun c_26 => ?_) (fun c_26 => ?_)
    · have c_26 := (b01n hw_23_k_37).mp c_26
      refine lv_iinc (v := nI (k9 + 1)) (lv' := [(5, .int (nI (k9 + 1))), (6, .double ((rRad T R (FP.ddiv t (FP.i2d (nI k9))) n).getD noR)), (0, .ref k), (1, .double t), (3, .double w)]) hx hb dX0_leastStrips_39 hl (k := 1) rfl (show nI k9 + nI 1 = nI (k9 + 1) from nI_add _ _) (by decide) rfl (fun ls hl => ?_)
      refine lv_goto (tgt := 3) hx hb dX0_leastStrips_42 (by decide) ?_
      exact ih (f9) (by omega) (k9 + 1) _ _ _ ⟨lv_sub hl [0, 2, 3, 4] rfl, hP, hS, (show (k9 + 1) + f9 = 101 ∧ 1 ≤ (k9 + 1) ∧ strp T R n t w f9 (k9 + 1) = strp T R n t w 100 1 from ⟨by omega, by omega, by rw [← strp_go (rRad_neg hrow (part_dB ht (by omega) (by omega))) (Or.inl c_26)]; exact hi.2.2⟩)⟩
    · have c_26 := (b01 hw_23_k_37).mp c_26
      refine lv_dload hx hb dX0_leastStrips_29 (lv_at hl 0 rfl) ?_
      refine lv_dload_n hx hb dX0_leastStrips_31 rfl (lv_at hl 4 rfl) ?_
      refine lv_dcmp hx hb dX0_leastStrips_32 ?_
      refine lv_if_gt (tgt := 39) hx hb dX0_leastStrips_33 (by decide) (fun c_33 => ?_) (fun c_33 => ?_)
      · have c_33 := (cv_gt ((rRad_dB hrow (b_34.mono (by omega) : dB 1064 _)).nn (by omega)) (hw.nn (by omega))).mp c_33
        refine lv_iinc (v := nI (k9 + 1)) (lv' := [(5, .int (nI (k9 + 1))), (6, .double ((rRad T R (FP.ddiv t (FP.i2d (nI k9))) n).getD noR)), (0, .ref k), (1, .double t), (3, .double w)]) hx hb dX0_leastStrips_39 hl (k := 1) rfl (show nI k9 + nI 1 = nI (k9 + 1) from nI_add _ _) (by decide) rfl (fun ls hl => ?_)
        refine lv_goto (tgt := 3) hx hb dX0_leastStrips_42 (by decide) ?_
        exact ih (f9) (by omega) (k9 + 1) _ _ _ ⟨lv_sub hl [0, 2, 3, 4] rfl, hP, hS, (show (k9 + 1) + f9 = 101 ∧ 1 ≤ (k9 + 1) ∧ strp T R n t w f9 (k9 + 1) = strp T R n t w 100 1 from ⟨by omega, by omega, by rw [← strp_go (rRad_neg hrow (part_dB ht (by omega) (by omega))) (Or.inr (by omega))]; exact hi.2.2⟩)⟩
      · have c_33 := mt (cv_gt ((rRad_dB hrow (b_34.mono (by omega) : dB 1064 _)).nn (by omega)) (hw.nn (by omega))).mpr c_33
        refine lv_iload hx hb dX0_leastStrips_36 (lv_at hl 1 rfl) ?_
        exact W.iret hx hb hr (fun t9s hht hW9 => ⟨⟨nI k9, (), rfl, (by rw [← hi.2.2, strp_stop (rRad_neg hrow (part_dB ht (by omega) (by omega))) c_26 (by omega)]), trivial⟩, hS.F hht⟩) hS.2.2 dX0_leastStrips_38

set_option maxHeartbeats 4000000 in
set_option maxRecDepth 100000 in
theorem m_X0_residue (l : Launch) (dC : Nat → ClassId) (dI : Nat → Nat → Nat) (cD : ClassId) (k rw rd : Nat) (sp st : UInt64) (bf bg : Nat) (n : Nat) (B K : Nat → UInt64) (s9 : UInt64) (hs9 : dB 1040 s9) (hrd : readsOK B K n) : Met l yX0_residue wsX0_residue ({ frames := 2, cells := 0, slots := 0, locals := 42 } : Room) (va_Pc [.ref k, .double s9] (PK (dC, dI) [(cD, .double)] [(k, .inr (0, [.ref rw, .ref rd, .double sp, .double st])), (rd, .inr (1, [.ref bf, .ref bg, .int (nI n)])), (bf, .inl (cD, 20, .inr (.inr (.inr (.inl B))))), (bg, .inl (cD, 20, .inr (.inr (.inr (.inl K)))))])) (va_Qd (fun (r : UInt64) (_ : Unit) => r = rsd B K s9 n) (fun _ _ => True) (fun _ => False)) 0 0 (fun _ => False) := by
  refine Met.ofW (cc := cX0_residue) (maxL := 8) (ret := (some .double)) (by decide) rfl ?_
  intro p e s m args below meth c s₁ BB hml hv
  obtain ⟨rfl, hP, hK, hN⟩ := hv
  have hx := BB.exec
  have hb := BB.bytes
  have hr := BB.returns
  have hts := atoms_spec (ws := wsX0_residue) BB.pre
  have hown : s.vm.findClass RX0 = some m.cls := findClass_of_methodNamed BB.named
  have hlocks := BB.notSynchronized
  have hS : va_S (fun _ => False) s.heap s.heap [] := va_S.rf
  have hP : va_P (dC, dI) vwCl [(k, .inr (0, [.ref rw, .ref rd, .double sp, .double st])), (rd, .inr (1, [.ref bf, .ref bg, .int (nI n)])), (bf, .inl (cD, 20, .inr (.inr (.inr (.inl B))))), (bg, .inl (cD, 20, .inr (.inr (.inr (.inl K)))))] s.heap := hP
  have hl := lv_entry ([.ref k, .double s9]) (n := 8) (Nat.le_of_ble_eq_true rfl)
  rw [lg_entry_eq]
  generalize (lg_sl ([.ref k, .double s9]) ++ List.replicate (8 - (lg_sl ([.ref k, .double s9])).length) Slot.unset).toArray = ls at hl ⊢
  have hl : lv_has ls 8 [(0, .ref k), (1, .double s9)] := hl
  have hn20 := hrd.1
  refine lv_dconst0 hx hb dX0_residue_0 ?_
  refine lv_dstore_n (lv' := [(3, .double FP.dconst0), (0, .ref k), (1, .double s9)]) hx hb dX0_residue_1 rfl hl (by decide) rfl (fun ls hl => ?_)
  refine lv_iconst (v := 0) hx hb dX0_residue_2 (by decide) ?_
  refine lv_istore (lv' := [(5, .int 0), (3, .double FP.dconst0), (0, .ref k), (1, .double s9)]) hx hb dX0_residue_3 hl (by decide) rfl (fun ls hl => ?_)
  refine w_loop (σ := Nat) (fun n9 x9 H locs ls => lv_has ls 8 [(5, .int (nI x9)), (3, .double (rsd B K s9 x9)), (0, .ref k), (1, .double s9)] ∧ va_P (dC, dI) vwCl [(k, .inr (0, [.ref rw, .ref rd, .double sp, .double st])), (rd, .inr (1, [.ref bf, .ref bg, .int (nI n)])), (bf, .inl (cD, 20, .inr (.inr (.inr (.inl B))))), (bg, .inl (cD, 20, .inr (.inr (.inr (.inl K)))))] H ∧ va_S (fun _ => False) s.heap H locs ∧ x9 + n9 = n) (n0 := n) (x0 := 0) ⟨lv_sub hl [0, 1, 2, 3] rfl, hP, hS, (show 0 + n = n from by omega)⟩ ?_
  rintro n9 i9 H locs ls ⟨hl, hP, hS, hi⟩ ih
  have hl : lv_has ls 8 [(5, .int (nI i9)), (3, .double (rsd B K s9 i9)), (0, .ref k), (1, .double s9)] := hl
  have hP : va_P (dC, dI) vwCl [(k, .inr (0, [.ref rw, .ref rd, .double sp, .double st])), (rd, .inr (1, [.ref bf, .ref bg, .int (nI n)])), (bf, .inl (cD, 20, .inr (.inr (.inr (.inl B))))), (bg, .inl (cD, 20, .inr (.inr (.inr (.inl K)))))] H := hP
  have hi : i9 + n9 = n := hi
  refine lv_iload hx hb dX0_residue_5 (lv_at hl 0 rfl) ?_
  refine lv_aload_n hx hb dX0_residue_7 rfl (lv_at hl 2 rfl) ?_
  refine va_get (D := (dC, dI)) (ci := 0) (v := .ref rd) (C := RX0) (T := TX0) (N := 4) hx hb hts (by decide +kernel) hown hK hP 0 rfl rfl 1 (by decide) (hts (.fieldLink RX0 20 "SteamBends$Kind" "readings" "LSteamBends$Pairs;") (by decide +kernel)) (fun _ h9 => h9) rfl dX0_residue_8 ?_
  refine va_getN (D := (dC, dI)) (ci := 1) (v := .int (nI n)) (C := RX1) (T := TX1) (N := 3) (host := "SteamBends") hx hb hts (by decide +kernel) hown hK hP 1 rfl rfl 2 (by decide) (va_Nw.use rfl (hN.f 5 rfl)) (fun _ h9 => h9) rfl dX0_residue_11 ?_
  refine lv_icmp_ge (tgt := 56) hx hb dX0_residue_14 (by decide) (fun c_14 => ?_) (fun c_14 => ?_)
  · have c_14 := (nI_leI (a := n) (b := i9) (by omega) (by omega)).mp c_14
    refine lv_dload_n hx hb dX0_residue_56 rfl (lv_at hl 1 rfl) ?_
    exact W.dret hx hb hr (fun t9s hht hW9 => ⟨⟨rsd B K s9 i9, (), rfl, (by rw [show n = i9 by omega]), trivial⟩, hS.F hht⟩) hS.2.2 dX0_residue_57
  · have c_14 := mt (nI_leI (a := n) (b := i9) (by omega) (by omega)).mpr c_14
    refine lv_aload_n hx hb dX0_residue_17 rfl (lv_at hl 2 rfl) ?_
    refine va_get (D := (dC, dI)) (ci := 0) (v := .ref rd) (C := RX0) (T := TX0) (N := 4) hx hb hts (by decide +kernel) hown hK hP 0 rfl rfl 1 (by decide) (hts (.fieldLink RX0 20 "SteamBends$Kind" "readings" "LSteamBends$Pairs;") (by decide +kernel)) (fun _ h9 => h9) rfl dX0_residue_18 ?_
    refine lv_iload hx hb dX0_residue_21 (lv_at hl 0 rfl) ?_
    have hPc := hP.sub (ws' := [(rd, .inr (1, [.ref bf, .ref bg, .int (nI n)])), (bf, .inl (cD, 20, .inr (.inr (.inr (.inl B))))), (bg, .inl (cD, 20, .inr (.inr (.inr (.inl K)))))]) [1, 2, 3] rfl
    have hKc := hK.sub (tys' := [(cD, .double)]) [0] rfl
    refine va_calld (va_runV (As := [.int (nI i9)]) (rest := []) ⟨hx, hb, hml, hown, hts⟩ (m_X1_second l dC dI cD rd bf bg n 20 B K i9 (by omega) (by omega)) (cwV 1 hts gX0_residue_X1_second rfl rfl rfl (by decide +kernel) ⟨(Nat.le_of_ble_eq_true rfl), (Nat.le_of_ble_eq_true rfl)⟩) ⟨PK.blind, va_recv hKc hPc (ci := 1) (q0 := 0) rfl rfl, fun U9 hU9 hW9 => ⟨rfl, PK.at hPc hKc hN hU9 hW9⟩⟩ rfl rfl hl.1 rfl (lv_room (Nat.le_of_ble_eq_true rfl)) dX0_residue_23 ⟨(Nat.le_of_ble_eq_true rfl), (Nat.le_of_ble_eq_true rfl)⟩) hS (fun q _ h => h.elim) (fun q h => h.elim) (fun r_40 u9s t9s H1 locs hht hvm9 hw_23_k_39 hB hz1 hk1 hS => ?_)
    have hP := va_still hP hk1
    generalize H1 = H at hP hS ⊢
    subst hw_23_k_39
    refine lv_aload_n hx hb dX0_residue_26 rfl (lv_at hl 2 rfl) ?_
    refine va_get (D := (dC, dI)) (ci := 0) (v := .ref rd) (C := RX0) (T := TX0) (N := 4) hx hb hts (by decide +kernel) hown hK hP 0 rfl rfl 1 (by decide) (hts (.fieldLink RX0 20 "SteamBends$Kind" "readings" "LSteamBends$Pairs;") (by decide +kernel)) (fun _ h9 => h9) rfl dX0_residue_27 ?_
    refine lv_iload hx hb dX0_residue_30 (lv_at hl 0 rfl) ?_
    have hPc := hP.sub (ws' := [(rd, .inr (1, [.ref bf, .ref bg, .int (nI n)])), (bf, .inl (cD, 20, .inr (.inr (.inr (.inl B))))), (bg, .inl (cD, 20, .inr (.inr (.inr (.inl K)))))]) [1, 2, 3] rfl
    have hKc := hK.sub (tys' := [(cD, .double)]) [0] rfl
    refine va_calld (va_runV (As := [.int (nI i9)]) (rest := [.double (K i9)]) ⟨hx, hb, hml, hown, hts⟩ (m_X1_first l dC dI cD rd bf bg n 20 B K i9 (by omega) (by omega)) (cwV 1 hts gX0_residue_X1_first rfl rfl rfl (by decide +kernel) ⟨(Nat.le_of_ble_eq_true rfl), (Nat.le_of_ble_eq_true rfl)⟩) ⟨PK.blind, va_recv hKc hPc (ci := 1) (q0 := 0) rfl rfl, fun U9 hU9 hW9 => ⟨rfl, PK.at hPc hKc hN hU9 hW9⟩⟩ rfl rfl hl.1 rfl (lv_room (Nat.le_of_ble_eq_true rfl)) dX0_residue_32 ⟨(Nat.le_of_ble_eq_true rfl), (Nat.le_of_ble_eq_true rfl)⟩) hS (fun q _ h => h.elim) (fun q h => h.elim) (fun r_42 u9s t9s H1 locs hht hvm9 hw_32_k_41 hB hz1 hk1 hS => ?_)
    have hP := va_still hP hk1
    generalize H1 = H at hP hS ⊢
    subst hw_32_k_41
    refine lv_dconst1 hx hb dX0_residue_35 ?_
    refine lv_dload_n hx hb dX0_residue_36 rfl (lv_at hl 3 rfl) ?_
    have b_43 : dB (1042) (FP.dadd FP.dconst1 s9) := dB.add dB_d1 hs9 (M := 1040) (by omega) (by omega) (by omega)
    refine lv_dadd hx hb dX0_residue_37 (b_43.ok (by omega)) ?_
    have b_44 : dB (1080) (FP.dmul (B i9) (FP.dadd FP.dconst1 s9)) := dB.mul ((hrd.2 (i9) (by omega)).1) b_43 (by omega) (by omega) (by omega)
    refine lv_dmul hx hb dX0_residue_38 (b_44.ok (by omega)) ?_
    have b_45 : dB (1082) (FP.dsub (K i9) (FP.dmul (B i9) (FP.dadd FP.dconst1 s9))) := dB.sub ((hrd.2 (i9) (by omega)).2) b_44 (M := 1080) (by omega) (by omega) (by omega)
    refine lv_dsub hx hb dX0_residue_39 (b_45.ok (by omega)) ?_
    refine lv_dstore (lv' := [(6, .double (FP.dsub (K i9) (FP.dmul (B i9) (FP.dadd FP.dconst1 s9)))), (5, .int (nI i9)), (3, .double (rsd B K s9 i9)), (0, .ref k), (1, .double s9)]) hx hb dX0_residue_40 hl (by decide) rfl (fun ls hl => ?_)
    refine lv_dload_n hx hb dX0_residue_42 rfl (lv_at hl 2 rfl) ?_
    refine lv_dload hx hb dX0_residue_43 (lv_at hl 0 rfl) ?_
    refine lv_dload hx hb dX0_residue_45 (lv_at hl 0 rfl) ?_
    have b_46 : dB (1142) (FP.dmul (FP.dsub (K i9) (FP.dmul (B i9) (FP.dadd FP.dconst1 s9))) (FP.dsub (K i9) (FP.dmul (B i9) (FP.dadd FP.dconst1 s9)))) := dB.mul b_45 b_45 (by omega) (by omega) (by omega)
    refine lv_dmul hx hb dX0_residue_47 (b_46.ok (by omega)) ?_
    have b_47 : dB (1150 + 2 * i9 + 2) (FP.dadd (rsd B K s9 i9) (FP.dmul (FP.dsub (K i9) (FP.dmul (B i9) (FP.dadd FP.dconst1 s9))) (FP.dsub (K i9) (FP.dmul (B i9) (FP.dadd FP.dconst1 s9))))) := dB.add (rsd_dB hrd hs9 i9 (by omega)) b_46 (M := 1150 + 2 * i9) (by omega) (by omega) (by omega)
    refine lv_dadd hx hb dX0_residue_48 (b_47.ok (by omega)) ?_
    refine lv_dstore_n (lv' := [(3, .double (FP.dadd (rsd B K s9 i9) (FP.dmul (FP.dsub (K i9) (FP.dmul (B i9) (FP.dadd FP.dconst1 s9))) (FP.dsub (K i9) (FP.dmul (B i9) (FP.dadd FP.dconst1 s9)))))), (6, .double (FP.dsub (K i9) (FP.dmul (B i9) (FP.dadd FP.dconst1 s9)))), (5, .int (nI i9)), (0, .ref k), (1, .double s9)]) hx hb dX0_residue_49 rfl hl (by decide) rfl (fun ls hl => ?_)
    refine lv_iinc (v := nI (i9 + 1)) (lv' := [(5, .int (nI (i9 + 1))), (3, .double (FP.dadd (rsd B K s9 i9) (FP.dmul (FP.dsub (K i9) (FP.dmul (B i9) (FP.dadd FP.dconst1 s9))) (FP.dsub (K i9) (FP.dmul (B i9) (FP.dadd FP.dconst1 s9)))))), (6, .double (FP.dsub (K i9) (FP.dmul (B i9) (FP.dadd FP.dconst1 s9)))), (0, .ref k), (1, .double s9)]) hx hb dX0_residue_50 hl (k := 2) rfl (show nI i9 + nI 1 = nI (i9 + 1) from nI_add _ _) (by decide) rfl (fun ls hl => ?_)
    refine lv_goto (tgt := 5) hx hb dX0_residue_53 (by decide) ?_
    exact ih (n9 - 1) (by omega) (i9 + 1) _ _ _ ⟨(by
        simp only [rsd]
        exact lv_sub hl [0, 1, 3, 4] rfl), hP, hS, (show (i9 + 1) + (n9 - 1) = n from by omega)⟩

set_option maxHeartbeats 4000000 in
set_option maxRecDepth 100000 in
theorem m_X0_fitsBetter (l : Launch) (dC : Nat → ClassId) (dI : Nat → Nat → Nat) (sz : Nat) (cD : ClassId) (k rw rd : Nat) (sp st : UInt64) (bf bg : Nat) (n : Nat) (B K : Nat → UInt64) (hs : dB 1038 sp) (hh : dB 1030 st) (hrd : readsOK B K n) : Met l yX0_fitsBetter wsX0_fitsBetter ({ frames := 3, cells := 0, slots := 0, locals := 69 } : Room) (va_Pc [.ref k] (PW (dC, dI) [(cD, .double)] [(k, .inr (0, [.ref rw, .ref rd, .double sp, .double st])), (rd, .inr (1, [.ref bf, .ref bg, .int (nI n)])), (bf, .inl (cD, 20, .inr (.inr (.inr (.inl B))))), (bg, .inl (cD, 20, .inr (.inr (.inr (.inl K)))))] sz)) (va_Qi (fun (r : Int32) (u : UInt64 × UInt64 × Bool) => r = (if u.2.2 = true then 1 else 0) ∧ u = rnd B K n sp st) (fun (u : UInt64 × UInt64 × Bool) => QW (dC, dI) [(k, .inr (0, [.ref rw, .ref rd, .double u.1, .double u.2.1])), (rd, .inr (1, [.ref bf, .ref bg, .int (nI n)])), (bf, .inl (cD, 20, .inr (.inr (.inr (.inl B))))), (bg, .inl (cD, 20, .inr (.inr (.inr (.inl K)))))] (va_A [(k, .inr (0, [.ref rw, .ref rd, .double sp, .double st])), (rd, .inr (1, [.ref bf, .ref bg, .int (nI n)])), (bf, .inl (cD, 20, .inr (.inr (.inr (.inl B))))), (bg, .inl (cD, 20, .inr (.inr (.inr (.inl K)))))] sz)) (va_A [(k, .inr (0, [.ref rw, .ref rd, .double sp, .double st])), (rd, .inr (1, [.ref bf, .ref bg, .int (nI n)])), (bf, .inl (cD, 20, .inr (.inr (.inr (.inl B))))), (bg, .inl (cD, 20, .inr (.inr (.inr (.inl K)))))] sz)) 0 0 (va_A [(k, .inr (0, [.ref rw, .ref rd, .double sp, .double st])), (rd, .inr (1, [.ref bf, .ref bg, .int (nI n)])), (bf, .inl (cD, 20, .inr (.inr (.inr (.inl B))))), (bg, .inl (cD, 20, .inr (.inr (.inr (.inl K)))))] sz) := by
  refine Met.ofW (cc := cX0_fitsBetter) (maxL := 7) (ret := (some .boolean)) (by decide) rfl ?_
  intro p e s m args below meth c s₁ BB hml hv
  obtain ⟨rfl, hsz, hP, hK, hD0, hN⟩ := hv
  have hx := BB.exec
  have hb := BB.bytes
  have hr := BB.returns
  have hts := atoms_spec (ws := wsX0_fitsBetter) BB.pre
  have hown : s.vm.findClass RX0 = some m.cls := findClass_of_methodNamed BB.named
  have hlocks := BB.notSynchronized
  subst hsz
  have hD := hD0.self (sz := s.heap.size)
  generalize hAe : va_A [(k, .inr (0, [.ref rw, .ref rd, .double sp, .double st])), (rd, .inr (1, [.ref bf, .ref bg, .int (nI n)])), (bf, .inl (cD, 20, .inr (.inr (.inr (.inl B))))), (bg, .inl (cD, 20, .inr (.inr (.inr (.inl K)))))] s.heap.size = A at hD ⊢
  have hA : ∀ q : Nat, s.heap.size ≤ q → A q := fun q h => by rw [← hAe]; exact Or.inr h
  have hS : va_S A s.heap s.heap [] := va_S.rf
  have hP : va_P (dC, dI) vwCl [(k, .inr (0, [.ref rw, .ref rd, .double sp, .double st])), (rd, .inr (1, [.ref bf, .ref bg, .int (nI n)])), (bf, .inl (cD, 20, .inr (.inr (.inr (.inl B))))), (bg, .inl (cD, 20, .inr (.inr (.inr (.inl K)))))] s.heap := hP
  have hl := lv_entry ([.ref k]) (n := 7) (Nat.le_of_ble_eq_true rfl)
  rw [lg_entry_eq]
  generalize (lg_sl ([.ref k]) ++ List.replicate (7 - (lg_sl ([.ref k])).length) Slot.unset).toArray = ls at hl ⊢
  have hl : lv_has ls 7 [(0, .ref k)] := hl
  have hn20 := hrd.1
  have d0 := dv_d0
  refine lv_aload_n hx hb dX0_fitsBetter_0 rfl (lv_at hl 0 rfl) ?_
  refine lv_aload_n hx hb dX0_fitsBetter_1 rfl (lv_at hl 0 rfl) ?_
  refine va_get (D := (dC, dI)) (ci := 0) (v := .double sp) (C := RX0) (T := TX0) (N := 4) hx hb hts (by decide +kernel) hown hK hP 0 rfl rfl 2 (by decide) (hts (.fieldLink RX0 25 "SteamBends$Kind" "spring" "D") (by decide +kernel)) (fun _ h9 => h9) rfl dX0_fitsBetter_2 ?_
  have hPc := hP.sub (ws' := [(k, .inr (0, [.ref rw, .ref rd, .double sp, .double st])), (rd, .inr (1, [.ref bf, .ref bg, .int (nI n)])), (bf, .inl (cD, 20, .inr (.inr (.inr (.inl B))))), (bg, .inl (cD, 20, .inr (.inr (.inr (.inl K)))))]) [0, 1, 2, 3] rfl
  have hKc := hK.sub (tys' := [(cD, .double)]) [0] rfl
  refine va_calld (va_runV (As := [.double sp]) (rest := []) ⟨hx, hb, hml, hown, hts⟩ (m_X0_residue l dC dI cD k rw rd sp st bf bg n B K sp (hs.mono (by omega) : dB 1040 _) hrd) (cwV 1 hts gX0_fitsBetter_X0_residue rfl rfl rfl (by decide +kernel) ⟨(Nat.le_of_ble_eq_true rfl), (Nat.le_of_ble_eq_true rfl)⟩) ⟨PK.blind, va_recv hKc hPc (ci := 0) (q0 := 0) rfl rfl, fun U9 hU9 hW9 => ⟨rfl, PK.at hPc hKc hN hU9 hW9⟩⟩ rfl rfl hl.1 rfl (lv_room (Nat.le_of_ble_eq_true rfl)) dX0_fitsBetter_5 ⟨(Nat.le_of_ble_eq_true rfl), (Nat.le_of_ble_eq_true rfl)⟩) hS (fun q _ h => h.elim) (fun q h => h.elim) (fun r_49 u9s t9s H1 locs hht hvm9 hw_5_k_48 hB hz1 hk1 hS => ?_)
  have hP := va_still hP hk1
  generalize H1 = H at hP hS ⊢
  subst hw_5_k_48
  refine lv_dstore_n (lv' := [(1, .double (rsd B K sp n)), (0, .ref k)]) hx hb dX0_fitsBetter_8 rfl hl (by decide) rfl (fun ls hl => ?_)
  refine lv_aload_n hx hb dX0_fitsBetter_9 rfl (lv_at hl 1 rfl) ?_
  refine va_get (D := (dC, dI)) (ci := 0) (v := .double sp) (C := RX0) (T := TX0) (N := 4) hx hb hts (by decide +kernel) hown hK hP 0 rfl rfl 2 (by decide) (hts (.fieldLink RX0 25 "SteamBends$Kind" "spring" "D") (by decide +kernel)) (fun _ h9 => h9) rfl dX0_fitsBetter_10 ?_
  refine lv_aload_n hx hb dX0_fitsBetter_13 rfl (lv_at hl 1 rfl) ?_
  refine va_get (D := (dC, dI)) (ci := 0) (v := .double st) (C := RX0) (T := TX0) (N := 4) hx hb hts (by decide +kernel) hown hK hP 0 rfl rfl 3 (by decide) (hts (.fieldLink RX0 29 "SteamBends$Kind" "step" "D") (by decide +kernel)) (fun _ h9 => h9) rfl dX0_fitsBetter_14 ?_
  have b_50 : dB (1040) (FP.dadd sp st) := dB.add hs hh (M := 1038) (by omega) (by omega) (by omega)
  refine lv_dadd hx hb dX0_fitsBetter_17 (b_50.ok (by omega)) ?_
  refine lv_dstore_n (lv' := [(3, .double (FP.dadd sp st)), (1, .double (rsd B K sp n)), (0, .ref k)]) hx hb dX0_fitsBetter_18 rfl hl (by decide) rfl (fun ls hl => ?_)
  refine lv_aload_n hx hb dX0_fitsBetter_19 rfl (lv_at hl 2 rfl) ?_
  refine lv_dload_n hx hb dX0_fitsBetter_20 rfl (lv_at hl 0 rfl) ?_
  have hPc := hP.sub (ws' := [(k, .inr (0, [.ref rw, .ref rd, .double sp, .double st])), (rd, .inr (1, [.ref bf, .ref bg, .int (nI n)])), (bf, .inl (cD, 20, .inr (.inr (.inr (.inl B))))), (bg, .inl (cD, 20, .inr (.inr (.inr (.inl K)))))]) [0, 1, 2, 3] rfl
  have hKc := hK.sub (tys' := [(cD, .double)]) [0] rfl
  refine va_calld (va_runV (As := [.double (FP.dadd sp st)]) (rest := []) ⟨hx, hb, hml, hown, hts⟩ (m_X0_residue l dC dI cD k rw rd sp st bf bg n B K (FP.dadd sp st) (b_50.mono (by omega) : dB 1040 _) hrd) (cwV 1 hts gX0_fitsBetter_X0_residue rfl rfl rfl (by decide +kernel) ⟨(Nat.le_of_ble_eq_true rfl), (Nat.le_of_ble_eq_true rfl)⟩) ⟨PK.blind, va_recv hKc hPc (ci := 0) (q0 := 0) rfl rfl, fun U9 hU9 hW9 => ⟨rfl, PK.at hPc hKc hN hU9 hW9⟩⟩ rfl rfl hl.1 rfl (lv_room (Nat.le_of_ble_eq_true rfl)) dX0_fitsBetter_21 ⟨(Nat.le_of_ble_eq_true rfl), (Nat.le_of_ble_eq_true rfl)⟩) hS (fun q _ h => h.elim) (fun q h => h.elim) (fun r_52 u9s t9s H1 locs hht hvm9 hw_21_k_51 hB hz1 hk1 hS => ?_)
  have hP := va_still hP hk1
  generalize H1 = H at hP hS ⊢
  subst hw_21_k_51
  refine lv_dload_n hx hb dX0_fitsBetter_24 rfl (lv_at hl 1 rfl) ?_
  refine lv_dcmp hx hb dX0_fitsBetter_25 ?_
  refine lv_if_ge (tgt := 36) hx hb dX0_fitsBetter_26 (by decide) (fun c_26 => ?_) (fun c_26 => ?_)
  · have c_26 := (cv_ge (((rsd_dB hrd (b_50.mono (by omega) : dB 1040 _) n (Nat.le_refl _)).mono (by have := hrd.1; omega) : dB 1190 _).nn (by omega)) (((rsd_dB hrd (hs.mono (by omega) : dB 1040 _) n (Nat.le_refl _)).mono (by have := hrd.1; omega) : dB 1190 _).nn (by omega))).mp c_26
    refine lv_aload_n hx hb dX0_fitsBetter_36 rfl (lv_at hl 2 rfl) ?_
    refine va_get (D := (dC, dI)) (ci := 0) (v := .double sp) (C := RX0) (T := TX0) (N := 4) hx hb hts (by decide +kernel) hown hK hP 0 rfl rfl 2 (by decide) (hts (.fieldLink RX0 25 "SteamBends$Kind" "spring" "D") (by decide +kernel)) (fun _ h9 => h9) rfl dX0_fitsBetter_37 ?_
    refine lv_aload_n hx hb dX0_fitsBetter_40 rfl (lv_at hl 2 rfl) ?_
    refine va_get (D := (dC, dI)) (ci := 0) (v := .double st) (C := RX0) (T := TX0) (N := 4) hx hb hts (by decide +kernel) hown hK hP 0 rfl rfl 3 (by decide) (hts (.fieldLink RX0 29 "SteamBends$Kind" "step" "D") (by decide +kernel)) (fun _ h9 => h9) rfl dX0_fitsBetter_41 ?_
    have b_53 : dB (1040) (FP.dsub sp st) := dB.sub hs hh (M := 1038) (by omega) (by omega) (by omega)
    refine lv_dsub hx hb dX0_fitsBetter_44 (b_53.ok (by omega)) ?_
    refine lv_dstore (lv' := [(5, .double (FP.dsub sp st)), (3, .double (FP.dadd sp st)), (1, .double (rsd B K sp n)), (0, .ref k)]) hx hb dX0_fitsBetter_45 hl (by decide) rfl (fun ls hl => ?_)
    refine lv_dload hx hb dX0_fitsBetter_47 (lv_at hl 0 rfl) ?_
    refine lv_dconst0 hx hb dX0_fitsBetter_49 ?_
    refine lv_dcmp hx hb dX0_fitsBetter_50 ?_
    refine lv_if_lt (tgt := 73) hx hb dX0_fitsBetter_51 (by decide) (fun c_51 => ?_) (fun c_51 => ?_)
    · have c_51 := (cv_lt (b_53.nn (by omega)) (dB_d0.nn (by omega))).mp c_51
      refine lv_aload_n hx hb dX0_fitsBetter_73 rfl (lv_at hl 3 rfl) ?_
      refine lv_aload_n hx hb dX0_fitsBetter_74 rfl (lv_at hl 3 rfl) ?_
      refine va_get (D := (dC, dI)) (ci := 0) (v := .double st) (C := RX0) (T := TX0) (N := 4) hx hb hts (by decide +kernel) hown hK hP 0 rfl rfl 3 (by decide) (hts (.fieldLink RX0 29 "SteamBends$Kind" "step" "D") (by decide +kernel)) (fun _ h9 => h9) rfl dX0_fitsBetter_75 ?_
      refine lv_ldc2d (v := 4611686018427387904) hx hb hown (hts (.constantDouble RX0 60 (4611686018427387904)) (by decide +kernel)) dX0_fitsBetter_78 ?_
      have b_54 : dB (1030) (FP.ddiv st 4611686018427387904) := dB.div hh (by unfold dL; decide +kernel : dL 1024 4611686018427387904) (by unfold dB; decide +kernel : dB 1025 4611686018427387904) (by omega) (by omega) (by omega) (by omega)
      refine lv_ddiv hx hb dX0_fitsBetter_81 (b_54.ok (by omega)) ?_
      refine va_put (D := (dC, dI)) (ci := 0) (v := .double (FP.ddiv st 4611686018427387904)) (ty := .double) (C := RX0) (T := TX0) (N := 4) hx hb hts (by decide +kernel) tyX0 tyX0_ok nmX0 hown hK hP hD hS 0 rfl rfl 3 (by decide) (hts (.fieldLink RX0 29 "SteamBends$Kind" "step" "D") (by decide +kernel)) (fun _ h9 => h9) rfl (by decide +kernel) rfl rfl (Nat.le_of_ble_eq_true rfl) dX0_fitsBetter_82 (fun H locs hP hD hS => ?_)
      have hP : va_P (dC, dI) vwCl [(k, .inr (0, [.ref rw, .ref rd, .double sp, .double (FP.ddiv st 4611686018427387904)])), (rd, .inr (1, [.ref bf, .ref bg, .int (nI n)])), (bf, .inl (cD, 20, .inr (.inr (.inr (.inl B))))), (bg, .inl (cD, 20, .inr (.inr (.inr (.inl K)))))] H := hP
      have hD : va_D A [(k, .inr (0, [.ref rw, .ref rd, .double sp, .double (FP.ddiv st 4611686018427387904)])), (rd, .inr (1, [.ref bf, .ref bg, .int (nI n)])), (bf, .inl (cD, 20, .inr (.inr (.inr (.inl B))))), (bg, .inl (cD, 20, .inr (.inr (.inr (.inl K)))))] := hD
      refine lv_iconst (v := 0) hx hb dX0_fitsBetter_85 (by decide) ?_
      have hP9 := hP.sub (ws' := [(k, .inr (0, [.ref rw, .ref rd, .double sp, .double (FP.ddiv st 4611686018427387904)])), (rd, .inr (1, [.ref bf, .ref bg, .int (nI n)])), (bf, .inl (cD, 20, .inr (.inr (.inr (.inl B))))), (bg, .inl (cD, 20, .inr (.inr (.inr (.inl K)))))]) [0, 1, 2, 3] rfl
      have hD9 := hD.sub (ws' := [(k, .inr (0, [.ref rw, .ref rd, .double sp, .double (FP.ddiv st 4611686018427387904)])), (rd, .inr (1, [.ref bf, .ref bg, .int (nI n)])), (bf, .inl (cD, 20, .inr (.inr (.inr (.inl B))))), (bg, .inl (cD, 20, .inr (.inr (.inr (.inl K)))))]) [0, 1, 2, 3] (by decide) rfl
      exact W.zret hx hb hr (by decide) (fun t9s hht hW9 => ⟨⟨0, (sp, FP.ddiv st 4611686018427387904, false), rfl, ⟨rfl, by rw [rnd, if_neg (by omega), if_neg (by intro z; omega)]⟩, ⟨by rw [hht]; exact hP9, hD9⟩⟩, hS.F hht⟩) hS.2.2 dX0_fitsBetter_86
    · have c_51 := mt (cv_lt (b_53.nn (by omega)) (dB_d0.nn (by omega))).mpr c_51
      refine lv_aload_n hx hb dX0_fitsBetter_54 rfl (lv_at hl 3 rfl) ?_
      refine lv_dload hx hb dX0_fitsBetter_55 (lv_at hl 0 rfl) ?_
      have hPc := hP.sub (ws' := [(k, .inr (0, [.ref rw, .ref rd, .double sp, .double st])), (rd, .inr (1, [.ref bf, .ref bg, .int (nI n)])), (bf, .inl (cD, 20, .inr (.inr (.inr (.inl B))))), (bg, .inl (cD, 20, .inr (.inr (.inr (.inl K)))))]) [0, 1, 2, 3] rfl
      have hKc := hK.sub (tys' := [(cD, .double)]) [0] rfl
      refine va_calld (va_runV (As := [.double (FP.dsub sp st)]) (rest := []) ⟨hx, hb, hml, hown, hts⟩ (m_X0_residue l dC dI cD k rw rd sp st bf bg n B K (FP.dsub sp st) (b_53.mono (by omega) : dB 1040 _) hrd) (cwV 1 hts gX0_fitsBetter_X0_residue rfl rfl rfl (by decide +kernel) ⟨(Nat.le_of_ble_eq_true rfl), (Nat.le_of_ble_eq_true rfl)⟩) ⟨PK.blind, va_recv hKc hPc (ci := 0) (q0 := 0) rfl rfl, fun U9 hU9 hW9 => ⟨rfl, PK.at hPc hKc hN hU9 hW9⟩⟩ rfl rfl hl.1 rfl (lv_room (Nat.le_of_ble_eq_true rfl)) dX0_fitsBetter_57 ⟨(Nat.le_of_ble_eq_true rfl), (Nat.le_of_ble_eq_true rfl)⟩) hS (fun q _ h => h.elim) (fun q h => h.elim) (fun r_56 u9s t9s H1 locs hht hvm9 hw_57_k_55 hB hz1 hk1 hS => ?_)
      have hP := va_still hP hk1
      generalize H1 = H at hP hS ⊢
      subst hw_57_k_55
      refine lv_dload_n hx hb dX0_fitsBetter_60 rfl (lv_at hl 2 rfl) ?_
      refine lv_dcmp hx hb dX0_fitsBetter_61 ?_
      refine lv_if_ge (tgt := 73) hx hb dX0_fitsBetter_62 (by decide) (fun c_62 => ?_) (fun c_62 => ?_)
      · have c_62 := (cv_ge (((rsd_dB hrd (b_53.mono (by omega) : dB 1040 _) n (Nat.le_refl _)).mono (by have := hrd.1; omega) : dB 1190 _).nn (by omega)) (((rsd_dB hrd (hs.mono (by omega) : dB 1040 _) n (Nat.le_refl _)).mono (by have := hrd.1; omega) : dB 1190 _).nn (by omega))).mp c_62
        refine lv_aload_n hx hb dX0_fitsBetter_73 rfl (lv_at hl 3 rfl) ?_
        refine lv_aload_n hx hb dX0_fitsBetter_74 rfl (lv_at hl 3 rfl) ?_
        refine va_get (D := (dC, dI)) (ci := 0) (v := .double st) (C := RX0) (T := TX0) (N := 4) hx hb hts (by decide +kernel) hown hK hP 0 rfl rfl 3 (by decide) (hts (.fieldLink RX0 29 "SteamBends$Kind" "step" "D") (by decide +kernel)) (fun _ h9 => h9) rfl dX0_fitsBetter_75 ?_
        refine lv_ldc2d (v := 4611686018427387904) hx hb hown (hts (.constantDouble RX0 60 (4611686018427387904)) (by decide +kernel)) dX0_fitsBetter_78 ?_
        have b_57 : dB (1030) (FP.ddiv st 4611686018427387904) := dB.div hh (by unfold dL; decide +kernel : dL 1024 4611686018427387904) (by unfold dB; decide +kernel : dB 1025 4611686018427387904) (by omega) (by omega) (by omega) (by omega)
        refine lv_ddiv hx hb dX0_fitsBetter_81 (b_57.ok (by omega)) ?_
        refine va_put (D := (dC, dI)) (ci := 0) (v := .double (FP.ddiv st 4611686018427387904)) (ty := .double) (C := RX0) (T := TX0) (N := 4) hx hb hts (by decide +kernel) tyX0 tyX0_ok nmX0 hown hK hP hD hS 0 rfl rfl 3 (by decide) (hts (.fieldLink RX0 29 "SteamBends$Kind" "step" "D") (by decide +kernel)) (fun _ h9 => h9) rfl (by decide +kernel) rfl rfl (Nat.le_of_ble_eq_true rfl) dX0_fitsBetter_82 (fun H locs hP hD hS => ?_)
        have hP : va_P (dC, dI) vwCl [(k, .inr (0, [.ref rw, .ref rd, .double sp, .double (FP.ddiv st 4611686018427387904)])), (rd, .inr (1, [.ref bf, .ref bg, .int (nI n)])), (bf, .inl (cD, 20, .inr (.inr (.inr (.inl B))))), (bg, .inl (cD, 20, .inr (.inr (.inr (.inl K)))))] H := hP
        have hD : va_D A [(k, .inr (0, [.ref rw, .ref rd, .double sp, .double (FP.ddiv st 4611686018427387904)])), (rd, .inr (1, [.ref bf, .ref bg, .int (nI n)])), (bf, .inl (cD, 20, .inr (.inr (.inr (.inl B))))), (bg, .inl (cD, 20, .inr (.inr (.inr (.inl K)))))] := hD
        refine lv_iconst (v := 0) hx hb dX0_fitsBetter_85 (by decide) ?_
        have hP9 := hP.sub (ws' := [(k, .inr (0, [.ref rw, .ref rd, .double sp, .double (FP.ddiv st 4611686018427387904)])), (rd, .inr (1, [.ref bf, .ref bg, .int (nI n)])), (bf, .inl (cD, 20, .inr (.inr (.inr (.inl B))))), (bg, .inl (cD, 20, .inr (.inr (.inr (.inl K)))))]) [0, 1, 2, 3] rfl
        have hD9 := hD.sub (ws' := [(k, .inr (0, [.ref rw, .ref rd, .double sp, .double (FP.ddiv st 4611686018427387904)])), (rd, .inr (1, [.ref bf, .ref bg, .int (nI n)])), (bf, .inl (cD, 20, .inr (.inr (.inr (.inl B))))), (bg, .inl (cD, 20, .inr (.inr (.inr (.inl K)))))]) [0, 1, 2, 3] (by decide) rfl
        exact W.zret hx hb hr (by decide) (fun t9s hht hW9 => ⟨⟨0, (sp, FP.ddiv st 4611686018427387904, false), rfl, ⟨rfl, by rw [rnd, if_neg (by omega), if_neg (by intro z; omega)]⟩, ⟨by rw [hht]; exact hP9, hD9⟩⟩, hS.F hht⟩) hS.2.2 dX0_fitsBetter_86
      · have c_62 := mt (cv_ge (((rsd_dB hrd (b_53.mono (by omega) : dB 1040 _) n (Nat.le_refl _)).mono (by have := hrd.1; omega) : dB 1190 _).nn (by omega)) (((rsd_dB hrd (hs.mono (by omega) : dB 1040 _) n (Nat.le_refl _)).mono (by have := hrd.1; omega) : dB 1190 _).nn (by omega))).mpr c_62
        refine lv_aload_n hx hb dX0_fitsBetter_65 rfl (lv_at hl 3 rfl) ?_
        refine lv_dload hx hb dX0_fitsBetter_66 (lv_at hl 0 rfl) ?_
        refine va_put (D := (dC, dI)) (ci := 0) (v := .double (FP.dsub sp st)) (ty := .double) (C := RX0) (T := TX0) (N := 4) hx hb hts (by decide +kernel) tyX0 tyX0_ok nmX0 hown hK hP hD hS 0 rfl rfl 2 (by decide) (hts (.fieldLink RX0 25 "SteamBends$Kind" "spring" "D") (by decide +kernel)) (fun _ h9 => h9) rfl (by decide +kernel) rfl rfl (Nat.le_of_ble_eq_true rfl) dX0_fitsBetter_68 (fun H locs hP hD hS => ?_)
        have hP : va_P (dC, dI) vwCl [(k, .inr (0, [.ref rw, .ref rd, .double (FP.dsub sp st), .double st])), (rd, .inr (1, [.ref bf, .ref bg, .int (nI n)])), (bf, .inl (cD, 20, .inr (.inr (.inr (.inl B))))), (bg, .inl (cD, 20, .inr (.inr (.inr (.inl K)))))] H := hP
        have hD : va_D A [(k, .inr (0, [.ref rw, .ref rd, .double (FP.dsub sp st), .double st])), (rd, .inr (1, [.ref bf, .ref bg, .int (nI n)])), (bf, .inl (cD, 20, .inr (.inr (.inr (.inl B))))), (bg, .inl (cD, 20, .inr (.inr (.inr (.inl K)))))] := hD
        refine lv_iconst (v := 1) hx hb dX0_fitsBetter_71 (by decide) ?_
        have hP9 := hP.sub (ws' := [(k, .inr (0, [.ref rw, .ref rd, .double (FP.dsub sp st), .double st])), (rd, .inr (1, [.ref bf, .ref bg, .int (nI n)])), (bf, .inl (cD, 20, .inr (.inr (.inr (.inl B))))), (bg, .inl (cD, 20, .inr (.inr (.inr (.inl K)))))]) [0, 1, 2, 3] rfl
        have hD9 := hD.sub (ws' := [(k, .inr (0, [.ref rw, .ref rd, .double (FP.dsub sp st), .double st])), (rd, .inr (1, [.ref bf, .ref bg, .int (nI n)])), (bf, .inl (cD, 20, .inr (.inr (.inr (.inl B))))), (bg, .inl (cD, 20, .inr (.inr (.inr (.inl K)))))]) [0, 1, 2, 3] (by decide) rfl
        exact W.zret hx hb hr (by decide) (fun t9s hht hW9 => ⟨⟨1, (FP.dsub sp st, st, true), rfl, ⟨rfl, by rw [rnd, if_neg (by omega), if_pos ⟨by omega, by omega⟩]⟩, ⟨by rw [hht]; exact hP9, hD9⟩⟩, hS.F hht⟩) hS.2.2 dX0_fitsBetter_72
  · have c_26 := mt (cv_ge (((rsd_dB hrd (b_50.mono (by omega) : dB 1040 _) n (Nat.le_refl _)).mono (by have := hrd.1; omega) : dB 1190 _).nn (by omega)) (((rsd_dB hrd (hs.mono (by omega) : dB 1040 _) n (Nat.le_refl _)).mono (by have := hrd.1; omega) : dB 1190 _).nn (by omega))).mpr c_26
    refine lv_aload_n hx hb dX0_fitsBetter_29 rfl (lv_at hl 2 rfl) ?_
    refine lv_dload_n hx hb dX0_fitsBetter_30 rfl (lv_at hl 0 rfl) ?_
    refine va_put (D := (dC, dI)) (ci := 0) (v := .double (FP.dadd sp st)) (ty := .double) (C := RX0) (T := TX0) (N := 4) hx hb hts (by decide +kernel) tyX0 tyX0_ok nmX0 hown hK hP hD hS 0 rfl rfl 2 (by decide) (hts (.fieldLink RX0 25 "SteamBends$Kind" "spring" "D") (by decide +kernel)) (fun _ h9 => h9) rfl (by decide +kernel) rfl rfl (Nat.le_of_ble_eq_true rfl) dX0_fitsBetter_31 (fun H locs hP hD hS => ?_)
    have hP : va_P (dC, dI) vwCl [(k, .inr (0, [.ref rw, .ref rd, .double (FP.dadd sp st), .double st])), (rd, .inr (1, [.ref bf, .ref bg, .int (nI n)])), (bf, .inl (cD, 20, .inr (.inr (.inr (.inl B))))), (bg, .inl (cD, 20, .inr (.inr (.inr (.inl K)))))] H := hP
    have hD : va_D A [(k, .inr (0, [.ref rw, .ref rd, .double (FP.dadd sp st), .double st])), (rd, .inr (1, [.ref bf, .ref bg, .int (nI n)])), (bf, .inl (cD, 20, .inr (.inr (.inr (.inl B))))), (bg, .inl (cD, 20, .inr (.inr (.inr (.inl K)))))] := hD
    refine lv_iconst (v := 1) hx hb dX0_fitsBetter_34 (by decide) ?_
    have hP9 := hP.sub (ws' := [(k, .inr (0, [.ref rw, .ref rd, .double (FP.dadd sp st), .double st])), (rd, .inr (1, [.ref bf, .ref bg, .int (nI n)])), (bf, .inl (cD, 20, .inr (.inr (.inr (.inl B))))), (bg, .inl (cD, 20, .inr (.inr (.inr (.inl K)))))]) [0, 1, 2, 3] rfl
    have hD9 := hD.sub (ws' := [(k, .inr (0, [.ref rw, .ref rd, .double (FP.dadd sp st), .double st])), (rd, .inr (1, [.ref bf, .ref bg, .int (nI n)])), (bf, .inl (cD, 20, .inr (.inr (.inr (.inl B))))), (bg, .inl (cD, 20, .inr (.inr (.inr (.inl K)))))]) [0, 1, 2, 3] (by decide) rfl
    exact W.zret hx hb hr (by decide) (fun t9s hht hW9 => ⟨⟨1, (FP.dadd sp st, st, true), rfl, ⟨rfl, by rw [rnd, if_pos (by omega)]⟩, ⟨by rw [hht]; exact hP9, hD9⟩⟩, hS.F hht⟩) hS.2.2 dX0_fitsBetter_35

set_option maxHeartbeats 4000000 in
set_option maxRecDepth 100000 in
theorem m_X0_formFor (l : Launch) (dC : Nat → ClassId) (dI : Nat → Nat → Nat) (cD : ClassId) (k rw rd : Nat) (sp st : UInt64) (hs : dB 1038 sp) (w : UInt64) (hw : dB 1060 w) : Met l yX0_formFor wsX0_formFor ({ frames := 0, cells := 0, slots := 0, locals := 0 } : Room) (va_Pc [.ref k, .double w] (PK (dC, dI) [(cD, .double)] [(k, .inr (0, [.ref rw, .ref rd, .double sp, .double st]))])) (va_Qd (fun (r : UInt64) (_ : Unit) => r = (frm sp w 40).2) (fun _ _ => True) (fun _ => False)) 0 0 (fun _ => False) := by
  refine Met.ofW (cc := cX0_formFor) (maxL := 10) (ret := (some .double)) (by decide) rfl ?_
  intro p e s m args below meth c s₁ BB hml hv
  obtain ⟨rfl, hP, hK, hN⟩ := hv
  have hx := BB.exec
  have hb := BB.bytes
  have hr := BB.returns
  have hts := atoms_spec (ws := wsX0_formFor) BB.pre
  have hown : s.vm.findClass RX0 = some m.cls := findClass_of_methodNamed BB.named
  have hlocks := BB.notSynchronized
  have hS : va_S (fun _ => False) s.heap s.heap [] := va_S.rf
  have hP : va_P (dC, dI) vwCl [(k, .inr (0, [.ref rw, .ref rd, .double sp, .double st]))] s.heap := hP
  have hl := lv_entry ([.ref k, .double w]) (n := 10) (Nat.le_of_ble_eq_true rfl)
  rw [lg_entry_eq]
  generalize (lg_sl ([.ref k, .double w]) ++ List.replicate (10 - (lg_sl ([.ref k, .double w])).length) Slot.unset).toArray = ls at hl ⊢
  have hl : lv_has ls 10 [(0, .ref k), (1, .double w)] := hl
  refine lv_dconst0 hx hb dX0_formFor_0 ?_
  refine lv_dstore_n (lv' := [(3, .double FP.dconst0), (0, .ref k), (1, .double w)]) hx hb dX0_formFor_1 rfl hl (by decide) rfl (fun ls hl => ?_)
  refine lv_dload_n hx hb dX0_formFor_2 rfl (lv_at hl 2 rfl) ?_
  refine lv_dstore (lv' := [(5, .double w), (3, .double FP.dconst0), (0, .ref k), (1, .double w)]) hx hb dX0_formFor_3 hl (by decide) rfl (fun ls hl => ?_)
  refine lv_iconst (v := 0) hx hb dX0_formFor_5 (by decide) ?_
  refine lv_istore (lv' := [(7, .int 0), (5, .double w), (3, .double FP.dconst0), (0, .ref k), (1, .double w)]) hx hb dX0_formFor_6 hl (by decide) rfl (fun ls hl => ?_)
  refine w_loop (σ := Nat) (fun n9 x9 H locs ls => lv_has ls 10 [(7, .int (nI x9)), (5, .double ((frm sp w x9).2)), (3, .double ((frm sp w x9).1)), (0, .ref k), (1, .double w)] ∧ va_P (dC, dI) vwCl [(k, .inr (0, [.ref rw, .ref rd, .double sp, .double st]))] H ∧ va_S (fun _ => False) s.heap H locs ∧ x9 + n9 = 40) (n0 := 40) (x0 := 0) ⟨lv_sub hl [0, 1, 2, 3, 4] rfl, hP, hS, (show 0 + 40 = 40 from by omega)⟩ ?_
  rintro n9 i9 H locs ls ⟨hl, hP, hS, hi⟩ ih
  have hl : lv_has ls 10 [(7, .int (nI i9)), (5, .double ((frm sp w i9).2)), (3, .double ((frm sp w i9).1)), (0, .ref k), (1, .double w)] := hl
  have hP : va_P (dC, dI) vwCl [(k, .inr (0, [.ref rw, .ref rd, .double sp, .double st]))] H := hP
  have hi : i9 + n9 = 40 := hi
  refine lv_iload hx hb dX0_formFor_8 (lv_at hl 0 rfl) ?_
  refine lv_bipush (v := 40) hx hb dX0_formFor_10 (by decide) ?_
  refine lv_icmp_ge (tgt := 55) hx hb dX0_formFor_12 (by decide) (fun c_12 => ?_) (fun c_12 => ?_)
  · have c_12 := (nI_leI (a := 40) (b := i9) (by omega) (by omega)).mp c_12
    refine lv_dload hx hb dX0_formFor_55 (lv_at hl 1 rfl) ?_
    exact W.dret hx hb hr (fun t9s hht hW9 => ⟨⟨(frm sp w i9).2, (), rfl, (by rw [show i9 = 40 by omega]), trivial⟩, hS.F hht⟩) hS.2.2 dX0_formFor_57
  · have c_12 := mt (nI_leI (a := 40) (b := i9) (by omega) (by omega)).mpr c_12
    refine lv_dload_n hx hb dX0_formFor_15 rfl (lv_at hl 2 rfl) ?_
    refine lv_dload hx hb dX0_formFor_16 (lv_at hl 1 rfl) ?_
    have b_58 : dB (1060 + 2 * i9 + 2) (FP.dadd ((frm sp w i9).1) ((frm sp w i9).2)) := dB.add ((frm_dB (s := sp) hw i9 (by omega)).1) ((frm_dB (s := sp) hw i9 (by omega)).2) (M := 1060 + 2 * i9) (by omega) (by omega) (by omega)
    refine lv_dadd hx hb dX0_formFor_18 (b_58.ok (by omega)) ?_
    refine lv_ldc2d (v := 4611686018427387904) hx hb hown (hts (.constantDouble RX0 60 (4611686018427387904)) (by decide +kernel)) dX0_formFor_19 ?_
    have b_59 : dB (1060 + 2 * i9 + 2 + 0) (FP.ddiv (FP.dadd ((frm sp w i9).1) ((frm sp w i9).2)) 4611686018427387904) := dB.div b_58 (by unfold dL; decide +kernel : dL 1024 4611686018427387904) (by unfold dB; decide +kernel : dB 1025 4611686018427387904) (by omega) (by omega) (by omega) (by omega)
    refine lv_ddiv hx hb dX0_formFor_22 (b_59.ok (by omega)) ?_
    refine lv_dstore (lv' := [(8, .double (FP.ddiv (FP.dadd ((frm sp w i9).1) ((frm sp w i9).2)) 4611686018427387904)), (7, .int (nI i9)), (5, .double ((frm sp w i9).2)), (3, .double ((frm sp w i9).1)), (0, .ref k), (1, .double w)]) hx hb dX0_formFor_23 hl (by decide) rfl (fun ls hl => ?_)
    refine lv_dload hx hb dX0_formFor_25 (lv_at hl 0 rfl) ?_
    refine lv_dconst1 hx hb dX0_formFor_27 ?_
    refine lv_aload_n hx hb dX0_formFor_28 rfl (lv_at hl 4 rfl) ?_
    refine va_get (D := (dC, dI)) (ci := 0) (v := .double sp) (C := RX0) (T := TX0) (N := 4) hx hb hts (by decide +kernel) hown hK hP 0 rfl rfl 2 (by decide) (hts (.fieldLink RX0 25 "SteamBends$Kind" "spring" "D") (by decide +kernel)) (fun _ h9 => h9) rfl dX0_formFor_29 ?_
    have b_60 : dB (1040) (FP.dadd FP.dconst1 sp) := dB.add dB_d1 hs (M := 1038) (by omega) (by omega) (by omega)
    refine lv_dadd hx hb dX0_formFor_32 (b_60.ok (by omega)) ?_
    have b_61 : dB (1060 + 2 * i9 + 2 + 0 + 18) (FP.dmul (FP.ddiv (FP.dadd ((frm sp w i9).1) ((frm sp w i9).2)) 4611686018427387904) (FP.dadd FP.dconst1 sp)) := dB.mul b_59 b_60 (by omega) (by omega) (by omega)
    refine lv_dmul hx hb dX0_formFor_33 (b_61.ok (by omega)) ?_
    refine lv_dload_n hx hb dX0_formFor_34 rfl (lv_at hl 5 rfl) ?_
    refine lv_dcmp hx hb dX0_formFor_35 ?_
    refine lv_if_ge (tgt := 45) hx hb dX0_formFor_36 (by decide) (fun c_36 => ?_) (fun c_36 => ?_)
    · have c_36 := (cv_ge (b_61.nn (by omega)) (hw.nn (by omega))).mp c_36
      refine lv_dload hx hb dX0_formFor_45 (lv_at hl 0 rfl) ?_
      refine lv_dstore (lv' := [(5, .double (FP.ddiv (FP.dadd ((frm sp w i9).1) ((frm sp w i9).2)) 4611686018427387904)), (8, .double (FP.ddiv (FP.dadd ((frm sp w i9).1) ((frm sp w i9).2)) 4611686018427387904)), (7, .int (nI i9)), (3, .double ((frm sp w i9).1)), (0, .ref k), (1, .double w)]) hx hb dX0_formFor_47 hl (by decide) rfl (fun ls hl => ?_)
      refine lv_iinc (v := nI (i9 + 1)) (lv' := [(7, .int (nI (i9 + 1))), (5, .double (FP.ddiv (FP.dadd ((frm sp w i9).1) ((frm sp w i9).2)) 4611686018427387904)), (8, .double (FP.ddiv (FP.dadd ((frm sp w i9).1) ((frm sp w i9).2)) 4611686018427387904)), (3, .double ((frm sp w i9).1)), (0, .ref k), (1, .double w)]) hx hb dX0_formFor_49 hl (k := 2) rfl (show nI i9 + nI 1 = nI (i9 + 1) from nI_add _ _) (by decide) rfl (fun ls hl => ?_)
      refine lv_goto (tgt := 8) hx hb dX0_formFor_52 (by decide) ?_
      exact ih (n9 - 1) (by omega) (i9 + 1) _ _ _ ⟨(by
          simp only [frm]
          rw [if_neg (show ¬ dv _ < dv _ by omega)]
          exact lv_sub hl [0, 1, 3, 4, 5] rfl), hP, hS, (show (i9 + 1) + (n9 - 1) = 40 from by omega)⟩
    · have c_36 := mt (cv_ge (b_61.nn (by omega)) (hw.nn (by omega))).mpr c_36
      refine lv_dload hx hb dX0_formFor_39 (lv_at hl 0 rfl) ?_
      refine lv_dstore_n (lv' := [(3, .double (FP.ddiv (FP.dadd ((frm sp w i9).1) ((frm sp w i9).2)) 4611686018427387904)), (8, .double (FP.ddiv (FP.dadd ((frm sp w i9).1) ((frm sp w i9).2)) 4611686018427387904)), (7, .int (nI i9)), (5, .double ((frm sp w i9).2)), (0, .ref k), (1, .double w)]) hx hb dX0_formFor_41 rfl hl (by decide) rfl (fun ls hl => ?_)
      refine lv_goto (tgt := 49) hx hb dX0_formFor_42 (by decide) ?_
      refine lv_iinc (v := nI (i9 + 1)) (lv' := [(7, .int (nI (i9 + 1))), (3, .double (FP.ddiv (FP.dadd ((frm sp w i9).1) ((frm sp w i9).2)) 4611686018427387904)), (8, .double (FP.ddiv (FP.dadd ((frm sp w i9).1) ((frm sp w i9).2)) 4611686018427387904)), (5, .double ((frm sp w i9).2)), (0, .ref k), (1, .double w)]) hx hb dX0_formFor_49 hl (k := 2) rfl (show nI i9 + nI 1 = nI (i9 + 1) from nI_add _ _) (by decide) rfl (fun ls hl => ?_)
      refine lv_goto (tgt := 8) hx hb dX0_formFor_52 (by decide) ?_
      exact ih (n9 - 1) (by omega) (i9 + 1) _ _ _ ⟨(by
          simp only [frm]
          rw [if_pos (show dv _ < dv _ by omega)]
          exact lv_sub hl [0, 3, 1, 4, 5] rfl), hP, hS, (show (i9 + 1) + (n9 - 1) = 40 from by omega)⟩

set_option maxHeartbeats 4000000 in
set_option maxRecDepth 100000 in
theorem m_X2_isBendable (l : Launch) (dC : Nat → ClassId) (dI : Nat → Nat → Nat) (cD : ClassId) (sh pc tf tg : Nat) (n : Nat) (L D : Nat → UInt64) (t : UInt64) (ht : dB 1060 t) (hpc : piecesOK L D n) : Met l yX2_isBendable wsX2_isBendable ({ frames := 2, cells := 0, slots := 0, locals := 42 } : Room) (va_Pc [.ref sh, .double t] (PK (dC, dI) [(cD, .double)] [(sh, .inr (2, [.ref pc])), (pc, .inr (1, [.ref tf, .ref tg, .int (nI n)])), (tf, .inl (cD, 12, .inr (.inr (.inr (.inl L))))), (tg, .inl (cD, 12, .inr (.inr (.inr (.inl D)))))])) (va_Qi (fun (r : Int32) (_ : Unit) => r = if bends D t n = true then 1 else 0) (fun _ _ => True) (fun _ => False)) 0 0 (fun _ => False) := by
  refine Met.ofW (cc := cX2_isBendable) (maxL := 6) (ret := (some .boolean)) (by decide) rfl ?_
  intro p e s m args below meth c s₁ BB hml hv
  obtain ⟨rfl, hP, hK, hN⟩ := hv
  have hx := BB.exec
  have hb := BB.bytes
  have hr := BB.returns
  have hts := atoms_spec (ws := wsX2_isBendable) BB.pre
  have hown : s.vm.findClass RX2 = some m.cls := findClass_of_methodNamed BB.named
  have hlocks := BB.notSynchronized
  have hS : va_S (fun _ => False) s.heap s.heap [] := va_S.rf
  have hP : va_P (dC, dI) vwCl [(sh, .inr (2, [.ref pc])), (pc, .inr (1, [.ref tf, .ref tg, .int (nI n)])), (tf, .inl (cD, 12, .inr (.inr (.inr (.inl L))))), (tg, .inl (cD, 12, .inr (.inr (.inr (.inl D)))))] s.heap := hP
  have hl := lv_entry ([.ref sh, .double t]) (n := 6) (Nat.le_of_ble_eq_true rfl)
  rw [lg_entry_eq]
  generalize (lg_sl ([.ref sh, .double t]) ++ List.replicate (6 - (lg_sl ([.ref sh, .double t])).length) Slot.unset).toArray = ls at hl ⊢
  have hl : lv_has ls 6 [(0, .ref sh), (1, .double t)] := hl
  have hn12 := hpc.1
  have d0 := dv_d0
  refine lv_iconst (v := 0) hx hb dX2_isBendable_0 (by decide) ?_
  refine lv_istore_n (lv' := [(3, .int 0), (0, .ref sh), (1, .double t)]) hx hb dX2_isBendable_1 rfl hl (by decide) rfl (fun ls hl => ?_)
  refine w_loop (σ := Nat) (fun n9 x9 H locs ls => lv_has ls 6 [(3, .int (nI x9)), (0, .ref sh), (1, .double t)] ∧ va_P (dC, dI) vwCl [(sh, .inr (2, [.ref pc])), (pc, .inr (1, [.ref tf, .ref tg, .int (nI n)])), (tf, .inl (cD, 12, .inr (.inr (.inr (.inl L))))), (tg, .inl (cD, 12, .inr (.inr (.inr (.inl D)))))] H ∧ va_S (fun _ => False) s.heap H locs ∧ x9 + n9 = n ∧ bends D t x9 = true) (n0 := n) (x0 := 0) ⟨lv_sub hl [0, 1, 2] rfl, hP, hS, (show 0 + n = n ∧ bends D t 0 = true from ⟨by omega, rfl⟩)⟩ ?_
  rintro n9 i9 H locs ls ⟨hl, hP, hS, hi⟩ ih
  have hl : lv_has ls 6 [(3, .int (nI i9)), (0, .ref sh), (1, .double t)] := hl
  have hP : va_P (dC, dI) vwCl [(sh, .inr (2, [.ref pc])), (pc, .inr (1, [.ref tf, .ref tg, .int (nI n)])), (tf, .inl (cD, 12, .inr (.inr (.inr (.inl L))))), (tg, .inl (cD, 12, .inr (.inr (.inr (.inl D)))))] H := hP
  have hi : i9 + n9 = n ∧ bends D t i9 = true := hi
  refine lv_iload_n hx hb dX2_isBendable_2 rfl (lv_at hl 0 rfl) ?_
  refine lv_aload_n hx hb dX2_isBendable_3 rfl (lv_at hl 1 rfl) ?_
  refine va_get (D := (dC, dI)) (ci := 2) (v := .ref pc) (C := RX2) (T := TX2) (N := 1) hx hb hts (by decide +kernel) hown hK hP 0 rfl rfl 0 (by decide) (hts (.fieldLink RX2 14 "SteamBends$Shape" "pieces" "LSteamBends$Pairs;") (by decide +kernel)) (fun _ h9 => h9) rfl dX2_isBendable_4 ?_
  refine va_getN (D := (dC, dI)) (ci := 1) (v := .int (nI n)) (C := RX1) (T := TX1) (N := 3) (host := "SteamBends") hx hb hts (by decide +kernel) hown hK hP 1 rfl rfl 2 (by decide) (va_Nw.use rfl (hN.f 6 rfl)) (fun _ h9 => h9) rfl dX2_isBendable_7 ?_
  refine lv_icmp_ge (tgt := 49) hx hb dX2_isBendable_10 (by decide) (fun c_10 => ?_) (fun c_10 => ?_)
  · have c_10 := (nI_leI (a := n) (b := i9) (by omega) (by omega)).mp c_10
    refine lv_iconst (v := 1) hx hb dX2_isBendable_49 (by decide) ?_
    exact W.zret hx hb hr (by decide) (fun t9s hht hW9 => ⟨⟨1, (), rfl, (by rw [if_pos (by rw [show n = i9 by omega]; exact hi.2)]), trivial⟩, hS.F hht⟩) hS.2.2 dX2_isBendable_50
  · have c_10 := mt (nI_leI (a := n) (b := i9) (by omega) (by omega)).mpr c_10
    refine lv_aload_n hx hb dX2_isBendable_13 rfl (lv_at hl 1 rfl) ?_
    refine va_get (D := (dC, dI)) (ci := 2) (v := .ref pc) (C := RX2) (T := TX2) (N := 1) hx hb hts (by decide +kernel) hown hK hP 0 rfl rfl 0 (by decide) (hts (.fieldLink RX2 14 "SteamBends$Shape" "pieces" "LSteamBends$Pairs;") (by decide +kernel)) (fun _ h9 => h9) rfl dX2_isBendable_14 ?_
    refine lv_iload_n hx hb dX2_isBendable_17 rfl (lv_at hl 0 rfl) ?_
    have hPc := hP.sub (ws' := [(pc, .inr (1, [.ref tf, .ref tg, .int (nI n)])), (tf, .inl (cD, 12, .inr (.inr (.inr (.inl L))))), (tg, .inl (cD, 12, .inr (.inr (.inr (.inl D)))))]) [1, 2, 3] rfl
    have hKc := hK.sub (tys' := [(cD, .double)]) [0] rfl
    refine va_calld (va_runV (As := [.int (nI i9)]) (rest := []) ⟨hx, hb, hml, hown, hts⟩ (m_X1_second l dC dI cD pc tf tg n 12 L D i9 (by omega) (by omega)) (cwV 1 hts gX2_isBendable_X1_second rfl rfl rfl (by decide +kernel) ⟨(Nat.le_of_ble_eq_true rfl), (Nat.le_of_ble_eq_true rfl)⟩) ⟨PK.blind, va_recv hKc hPc (ci := 1) (q0 := 0) rfl rfl, fun U9 hU9 hW9 => ⟨rfl, PK.at hPc hKc hN hU9 hW9⟩⟩ rfl rfl hl.1 rfl (lv_room (Nat.le_of_ble_eq_true rfl)) dX2_isBendable_18 ⟨(Nat.le_of_ble_eq_true rfl), (Nat.le_of_ble_eq_true rfl)⟩) hS (fun q _ h => h.elim) (fun q h => h.elim) (fun r_63 u9s t9s H1 locs hht hvm9 hw_18_k_62 hB hz1 hk1 hS => ?_)
    have hP := va_still hP hk1
    generalize H1 = H at hP hS ⊢
    subst hw_18_k_62
    refine lv_dstore (lv' := [(4, .double (D i9)), (3, .int (nI i9)), (0, .ref sh), (1, .double t)]) hx hb dX2_isBendable_21 hl (by decide) rfl (fun ls hl => ?_)
    refine lv_dload hx hb dX2_isBendable_23 (lv_at hl 0 rfl) ?_
    refine lv_dconst0 hx hb dX2_isBendable_25 ?_
    refine lv_dcmp hx hb dX2_isBendable_26 ?_
    refine lv_if_le (tgt := 43) hx hb dX2_isBendable_27 (by decide) (fun c_27 => ?_) (fun c_27 => ?_)
    · have c_27 := (cv_le (((hpc.2 (i9) (by omega)).2.1).nn (by omega)) (dB_d0.nn (by omega))).mp c_27
      refine lv_iinc (v := nI (i9 + 1)) (lv' := [(3, .int (nI (i9 + 1))), (4, .double (D i9)), (0, .ref sh), (1, .double t)]) hx hb dX2_isBendable_43 hl (k := 1) rfl (show nI i9 + nI 1 = nI (i9 + 1) from nI_add _ _) (by decide) rfl (fun ls hl => ?_)
      refine lv_goto (tgt := 2) hx hb dX2_isBendable_46 (by decide) ?_
      exact ih (n9 - 1) (by omega) (i9 + 1) _ _ _ ⟨lv_sub hl [0, 2, 3] rfl, hP, hS, (show (i9 + 1) + (n9 - 1) = n ∧ bends D t (i9 + 1) = true from ⟨by omega, bends_yes hi.2 (by omega)⟩)⟩
    · have c_27 := mt (cv_le (((hpc.2 (i9) (by omega)).2.1).nn (by omega)) (dB_d0.nn (by omega))).mpr c_27
      refine lv_dload_n hx hb dX2_isBendable_30 rfl (lv_at hl 3 rfl) ?_
      refine lv_ldc2d (v := 4611686018427387904) hx hb hown (hts (.constantDouble RX2 28 (4611686018427387904)) (by decide +kernel)) dX2_isBendable_31 ?_
      refine lv_dload hx hb dX2_isBendable_34 (lv_at hl 0 rfl) ?_
      have b_64 : dB (1063) (FP.dmul 4611686018427387904 (D i9)) := dB.mul (by unfold dB; decide +kernel : dB 1025 4611686018427387904) ((hpc.2 (i9) (by omega)).2.1) (by omega) (by omega) (by omega)
      refine lv_dmul hx hb dX2_isBendable_36 (b_64.ok (by omega)) ?_
      refine lv_dcmp hx hb dX2_isBendable_37 ?_
      refine lv_if_le (tgt := 43) hx hb dX2_isBendable_38 (by decide) (fun c_38 => ?_) (fun c_38 => ?_)
      · have c_38 := (cv_le (ht.nn (by omega)) (b_64.nn (by omega))).mp c_38
        refine lv_iinc (v := nI (i9 + 1)) (lv' := [(3, .int (nI (i9 + 1))), (4, .double (D i9)), (0, .ref sh), (1, .double t)]) hx hb dX2_isBendable_43 hl (k := 1) rfl (show nI i9 + nI 1 = nI (i9 + 1) from nI_add _ _) (by decide) rfl (fun ls hl => ?_)
        refine lv_goto (tgt := 2) hx hb dX2_isBendable_46 (by decide) ?_
        exact ih (n9 - 1) (by omega) (i9 + 1) _ _ _ ⟨lv_sub hl [0, 2, 3] rfl, hP, hS, (show (i9 + 1) + (n9 - 1) = n ∧ bends D t (i9 + 1) = true from ⟨by omega, bends_yes hi.2 (by omega)⟩)⟩
      · have c_38 := mt (cv_le (ht.nn (by omega)) (b_64.nn (by omega))).mpr c_38
        refine lv_iconst (v := 0) hx hb dX2_isBendable_41 (by decide) ?_
        exact W.zret hx hb hr (by decide) (fun t9s hht hW9 => ⟨⟨0, (), rfl, (by rw [if_neg (by rw [bends_no (i := i9) (by omega) (by omega) n (by omega)]; decide)]), trivial⟩, hS.F hht⟩) hS.2.2 dX2_isBendable_42

set_option maxHeartbeats 4000000 in
set_option maxRecDepth 100000 in
theorem m_X2_lengthOf (l : Launch) (dC : Nat → ClassId) (dI : Nat → Nat → Nat) (cD : ClassId) (sh pc tf tg : Nat) (n : Nat) (L D : Nat → UInt64) (i : Nat) (o : Int32) (t : UInt64) (hi9 : i < n) (ht : dB 1060 t) (hpc : piecesOK L D n) : Met l yX2_lengthOf wsX2_lengthOf ({ frames := 2, cells := 0, slots := 0, locals := 42 } : Room) (va_Pc [.ref sh, .int (nI i), .int o, .double t] (PK (dC, dI) [(cD, .double)] [(sh, .inr (2, [.ref pc])), (pc, .inr (1, [.ref tf, .ref tg, .int (nI n)])), (tf, .inl (cD, 12, .inr (.inr (.inr (.inl L))))), (tg, .inl (cD, 12, .inr (.inr (.inr (.inl D)))))])) (va_Qd (fun (r : UInt64) (_ : Unit) => r = lenOf (L i) (D i) o t) (fun _ _ => True) (fun _ => False)) 0 0 (fun _ => False) := by
  refine Met.ofW (cc := cX2_lengthOf) (maxL := 11) (ret := (some .double)) (by decide) rfl ?_
  intro p e s m args below meth c s₁ BB hml hv
  obtain ⟨rfl, hP, hK, hN⟩ := hv
  have hx := BB.exec
  have hb := BB.bytes
  have hr := BB.returns
  have hts := atoms_spec (ws := wsX2_lengthOf) BB.pre
  have hown : s.vm.findClass RX2 = some m.cls := findClass_of_methodNamed BB.named
  have hlocks := BB.notSynchronized
  have hS : va_S (fun _ => False) s.heap s.heap [] := va_S.rf
  have hP : va_P (dC, dI) vwCl [(sh, .inr (2, [.ref pc])), (pc, .inr (1, [.ref tf, .ref tg, .int (nI n)])), (tf, .inl (cD, 12, .inr (.inr (.inr (.inl L))))), (tg, .inl (cD, 12, .inr (.inr (.inr (.inl D)))))] s.heap := hP
  have hl := lv_entry ([.ref sh, .int (nI i), .int o, .double t]) (n := 11) (Nat.le_of_ble_eq_true rfl)
  rw [lg_entry_eq]
  generalize (lg_sl ([.ref sh, .int (nI i), .int o, .double t]) ++ List.replicate (11 - (lg_sl ([.ref sh, .int (nI i), .int o, .double t])).length) Slot.unset).toArray = ls at hl ⊢
  have hl : lv_has ls 11 [(0, .ref sh), (1, .int (nI i)), (2, .int o), (3, .double t)] := hl
  have hn12 := hpc.1
  have d0 := dv_d0
  refine lv_aload_n hx hb dX2_lengthOf_0 rfl (lv_at hl 0 rfl) ?_
  refine va_get (D := (dC, dI)) (ci := 2) (v := .ref pc) (C := RX2) (T := TX2) (N := 1) hx hb hts (by decide +kernel) hown hK hP 0 rfl rfl 0 (by decide) (hts (.fieldLink RX2 14 "SteamBends$Shape" "pieces" "LSteamBends$Pairs;") (by decide +kernel)) (fun _ h9 => h9) rfl dX2_lengthOf_1 ?_
  refine lv_iload_n hx hb dX2_lengthOf_4 rfl (lv_at hl 1 rfl) ?_
  have hPc := hP.sub (ws' := [(pc, .inr (1, [.ref tf, .ref tg, .int (nI n)])), (tf, .inl (cD, 12, .inr (.inr (.inr (.inl L))))), (tg, .inl (cD, 12, .inr (.inr (.inr (.inl D)))))]) [1, 2, 3] rfl
  have hKc := hK.sub (tys' := [(cD, .double)]) [0] rfl
  refine va_calld (va_runV (As := [.int (nI i)]) (rest := []) ⟨hx, hb, hml, hown, hts⟩ (m_X1_first l dC dI cD pc tf tg n 12 L D i (by omega) (by omega)) (cwV 1 hts gX2_lengthOf_X1_first rfl rfl rfl (by decide +kernel) ⟨(Nat.le_of_ble_eq_true rfl), (Nat.le_of_ble_eq_true rfl)⟩) ⟨PK.blind, va_recv hKc hPc (ci := 1) (q0 := 0) rfl rfl, fun U9 hU9 hW9 => ⟨rfl, PK.at hPc hKc hN hU9 hW9⟩⟩ rfl rfl hl.1 rfl (lv_room (Nat.le_of_ble_eq_true rfl)) dX2_lengthOf_5 ⟨(Nat.le_of_ble_eq_true rfl), (Nat.le_of_ble_eq_true rfl)⟩) hS (fun q _ h => h.elim) (fun q h => h.elim) (fun r_66 u9s t9s H1 locs hht hvm9 hw_5_k_65 hB hz1 hk1 hS => ?_)
  have hP := va_still hP hk1
  generalize H1 = H at hP hS ⊢
  subst hw_5_k_65
  refine lv_dstore (lv' := [(5, .double (L i)), (0, .ref sh), (1, .int (nI i)), (2, .int o), (3, .double t)]) hx hb dX2_lengthOf_8 hl (by decide) rfl (fun ls hl => ?_)
  refine lv_aload_n hx hb dX2_lengthOf_10 rfl (lv_at hl 1 rfl) ?_
  refine va_get (D := (dC, dI)) (ci := 2) (v := .ref pc) (C := RX2) (T := TX2) (N := 1) hx hb hts (by decide +kernel) hown hK hP 0 rfl rfl 0 (by decide) (hts (.fieldLink RX2 14 "SteamBends$Shape" "pieces" "LSteamBends$Pairs;") (by decide +kernel)) (fun _ h9 => h9) rfl dX2_lengthOf_11 ?_
  refine lv_iload_n hx hb dX2_lengthOf_14 rfl (lv_at hl 2 rfl) ?_
  have hPc := hP.sub (ws' := [(pc, .inr (1, [.ref tf, .ref tg, .int (nI n)])), (tf, .inl (cD, 12, .inr (.inr (.inr (.inl L))))), (tg, .inl (cD, 12, .inr (.inr (.inr (.inl D)))))]) [1, 2, 3] rfl
  have hKc := hK.sub (tys' := [(cD, .double)]) [0] rfl
  refine va_calld (va_runV (As := [.int (nI i)]) (rest := []) ⟨hx, hb, hml, hown, hts⟩ (m_X1_second l dC dI cD pc tf tg n 12 L D i (by omega) (by omega)) (cwV 1 hts gX2_lengthOf_X1_second rfl rfl rfl (by decide +kernel) ⟨(Nat.le_of_ble_eq_true rfl), (Nat.le_of_ble_eq_true rfl)⟩) ⟨PK.blind, va_recv hKc hPc (ci := 1) (q0 := 0) rfl rfl, fun U9 hU9 hW9 => ⟨rfl, PK.at hPc hKc hN hU9 hW9⟩⟩ rfl rfl hl.1 rfl (lv_room (Nat.le_of_ble_eq_true rfl)) dX2_lengthOf_15 ⟨(Nat.le_of_ble_eq_true rfl), (Nat.le_of_ble_eq_true rfl)⟩) hS (fun q _ h => h.elim) (fun q h => h.elim) (fun r_68 u9s t9s H1 locs hht hvm9 hw_15_k_67 hB hz1 hk1 hS => ?_)
  have hP := va_still hP hk1
  generalize H1 = H at hP hS ⊢
  subst hw_15_k_67
  refine lv_dstore (lv' := [(7, .double (D i)), (5, .double (L i)), (0, .ref sh), (1, .int (nI i)), (2, .int o), (3, .double t)]) hx hb dX2_lengthOf_18 hl (by decide) rfl (fun ls hl => ?_)
  refine lv_dload hx hb dX2_lengthOf_20 (lv_at hl 0 rfl) ?_
  refine lv_dconst0 hx hb dX2_lengthOf_22 ?_
  refine lv_dcmp hx hb dX2_lengthOf_23 ?_
  refine lv_if_gt (tgt := 30) hx hb dX2_lengthOf_24 (by decide) (fun c_24 => ?_) (fun c_24 => ?_)
  · have c_24 := (cv_gt (((hpc.2 (i) (by omega)).2.1).nn (by omega)) (dB_d0.nn (by omega))).mp c_24
    refine lv_iload_n hx hb dX2_lengthOf_30 rfl (lv_at hl 4 rfl) ?_
    refine lv_if_eq (tgt := 45) hx hb dX2_lengthOf_31 (by decide) (fun c_31 => ?_) (fun c_31 => ?_)
    · refine lv_dload hx hb dX2_lengthOf_45 (lv_at hl 0 rfl) ?_
      refine lv_dload_n hx hb dX2_lengthOf_47 rfl (lv_at hl 5 rfl) ?_
      refine lv_ldc2d (v := 4611686018427387904) hx hb hown (hts (.constantDouble RX2 28 (4611686018427387904)) (by decide +kernel)) dX2_lengthOf_48 ?_
      have b_69 : dB (1060) (FP.ddiv t 4611686018427387904) := dB.div ht (by unfold dL; decide +kernel : dL 1024 4611686018427387904) (by unfold dB; decide +kernel : dB 1025 4611686018427387904) (by omega) (by omega) (by omega) (by omega)
      refine lv_ddiv hx hb dX2_lengthOf_51 (b_69.ok (by omega)) ?_
      have b_70 : dB (1062) (FP.dsub (D i) (FP.ddiv t 4611686018427387904)) := dB.sub ((hpc.2 (i) (by omega)).2.1) b_69 (M := 1060) (by omega) (by omega) (by omega)
      refine lv_dsub hx hb dX2_lengthOf_52 (b_70.ok (by omega)) ?_
      refine lv_dstore (lv' := [(9, .double (FP.dsub (D i) (FP.ddiv t 4611686018427387904))), (7, .double (D i)), (5, .double (L i)), (0, .ref sh), (1, .int (nI i)), (2, .int o), (3, .double t)]) hx hb dX2_lengthOf_53 hl (by decide) rfl (fun ls hl => ?_)
      refine lv_dload hx hb dX2_lengthOf_55 (lv_at hl 2 rfl) ?_
      refine lv_dload hx hb dX2_lengthOf_57 (lv_at hl 0 rfl) ?_
      have b_71 : dB (1100) (FP.dmul (L i) (FP.dsub (D i) (FP.ddiv t 4611686018427387904))) := dB.mul ((hpc.2 (i) (by omega)).1) b_70 (by omega) (by omega) (by omega)
      refine lv_dmul hx hb dX2_lengthOf_59 (b_71.ok (by omega)) ?_
      refine lv_dload hx hb dX2_lengthOf_60 (lv_at hl 1 rfl) ?_
      have b_72 : dB (1101) (FP.ddiv (FP.dmul (L i) (FP.dsub (D i) (FP.ddiv t 4611686018427387904))) (D i)) := dB.div b_71 (hpc.dL (i := i) (by omega) (by omega)) ((hpc.2 (i) (by omega)).2.1) (by omega) (by omega) (by omega) (by omega)
      refine lv_ddiv hx hb dX2_lengthOf_62 (b_72.ok (by omega)) ?_
      exact W.dret hx hb hr (fun t9s hht hW9 => ⟨⟨FP.ddiv (FP.dmul (L i) (FP.dsub (D i) (FP.ddiv t 4611686018427387904))) (D i), (), rfl, (by rw [lenOf, if_pos (by omega), if_pos c_31]), trivial⟩, hS.F hht⟩) hS.2.2 dX2_lengthOf_63
    · refine lv_dload hx hb dX2_lengthOf_34 (lv_at hl 0 rfl) ?_
      refine lv_dload_n hx hb dX2_lengthOf_36 rfl (lv_at hl 5 rfl) ?_
      refine lv_ldc2d (v := 4611686018427387904) hx hb hown (hts (.constantDouble RX2 28 (4611686018427387904)) (by decide +kernel)) dX2_lengthOf_37 ?_
      have b_73 : dB (1060) (FP.ddiv t 4611686018427387904) := dB.div ht (by unfold dL; decide +kernel : dL 1024 4611686018427387904) (by unfold dB; decide +kernel : dB 1025 4611686018427387904) (by omega) (by omega) (by omega) (by omega)
      refine lv_ddiv hx hb dX2_lengthOf_40 (b_73.ok (by omega)) ?_
      have b_74 : dB (1062) (FP.dadd (D i) (FP.ddiv t 4611686018427387904)) := dB.add ((hpc.2 (i) (by omega)).2.1) b_73 (M := 1060) (by omega) (by omega) (by omega)
      refine lv_dadd hx hb dX2_lengthOf_41 (b_74.ok (by omega)) ?_
      refine lv_goto (tgt := 53) hx hb dX2_lengthOf_42 (by decide) ?_
      refine lv_dstore (lv' := [(9, .double (FP.dadd (D i) (FP.ddiv t 4611686018427387904))), (7, .double (D i)), (5, .double (L i)), (0, .ref sh), (1, .int (nI i)), (2, .int o), (3, .double t)]) hx hb dX2_lengthOf_53 hl (by decide) rfl (fun ls hl => ?_)
      refine lv_dload hx hb dX2_lengthOf_55 (lv_at hl 2 rfl) ?_
      refine lv_dload hx hb dX2_lengthOf_57 (lv_at hl 0 rfl) ?_
      have b_75 : dB (1100) (FP.dmul (L i) (FP.dadd (D i) (FP.ddiv t 4611686018427387904))) := dB.mul ((hpc.2 (i) (by omega)).1) b_74 (by omega) (by omega) (by omega)
      refine lv_dmul hx hb dX2_lengthOf_59 (b_75.ok (by omega)) ?_
      refine lv_dload hx hb dX2_lengthOf_60 (lv_at hl 1 rfl) ?_
      have b_76 : dB (1101) (FP.ddiv (FP.dmul (L i) (FP.dadd (D i) (FP.ddiv t 4611686018427387904))) (D i)) := dB.div b_75 (hpc.dL (i := i) (by omega) (by omega)) ((hpc.2 (i) (by omega)).2.1) (by omega) (by omega) (by omega) (by omega)
      refine lv_ddiv hx hb dX2_lengthOf_62 (b_76.ok (by omega)) ?_
      exact W.dret hx hb hr (fun t9s hht hW9 => ⟨⟨FP.ddiv (FP.dmul (L i) (FP.dadd (D i) (FP.ddiv t 4611686018427387904))) (D i), (), rfl, (by rw [lenOf, if_pos (by omega), if_neg c_31]), trivial⟩, hS.F hht⟩) hS.2.2 dX2_lengthOf_63
  · have c_24 := mt (cv_gt (((hpc.2 (i) (by omega)).2.1).nn (by omega)) (dB_d0.nn (by omega))).mpr c_24
    refine lv_dload hx hb dX2_lengthOf_27 (lv_at hl 1 rfl) ?_
    exact W.dret hx hb hr (fun t9s hht hW9 => ⟨⟨L i, (), rfl, (by rw [lenOf, if_neg (by omega)]), trivial⟩, hS.F hht⟩) hS.2.2 dX2_lengthOf_29

set_option maxHeartbeats 4000000 in
set_option maxRecDepth 100000 in
theorem m_X2_sumOfLengths (l : Launch) (dC : Nat → ClassId) (dI : Nat → Nat → Nat) (cD : ClassId) (sh pc tf tg : Nat) (n : Nat) (L D : Nat → UInt64) (o : Int32) (t : UInt64) (ht : dB 1060 t) (hpc : piecesOK L D n) : Met l yX2_sumOfLengths wsX2_sumOfLengths ({ frames := 3, cells := 0, slots := 0, locals := 72 } : Room) (va_Pc [.ref sh, .int o, .double t] (PK (dC, dI) [(cD, .double)] [(sh, .inr (2, [.ref pc])), (pc, .inr (1, [.ref tf, .ref tg, .int (nI n)])), (tf, .inl (cD, 12, .inr (.inr (.inr (.inl L))))), (tg, .inl (cD, 12, .inr (.inr (.inr (.inl D)))))])) (va_Qd (fun (r : UInt64) (_ : Unit) => r = sumL L D o t n) (fun _ _ => True) (fun _ => False)) 0 0 (fun _ => False) := by
  refine Met.ofW (cc := cX2_sumOfLengths) (maxL := 7) (ret := (some .double)) (by decide) rfl ?_
  intro p e s m args below meth c s₁ BB hml hv
  obtain ⟨rfl, hP, hK, hN⟩ := hv
  have hx := BB.exec
  have hb := BB.bytes
  have hr := BB.returns
  have hts := atoms_spec (ws := wsX2_sumOfLengths) BB.pre
  have hown : s.vm.findClass RX2 = some m.cls := findClass_of_methodNamed BB.named
  have hlocks := BB.notSynchronized
  have hS : va_S (fun _ => False) s.heap s.heap [] := va_S.rf
  have hP : va_P (dC, dI) vwCl [(sh, .inr (2, [.ref pc])), (pc, .inr (1, [.ref tf, .ref tg, .int (nI n)])), (tf, .inl (cD, 12, .inr (.inr (.inr (.inl L))))), (tg, .inl (cD, 12, .inr (.inr (.inr (.inl D)))))] s.heap := hP
  have hl := lv_entry ([.ref sh, .int o, .double t]) (n := 7) (Nat.le_of_ble_eq_true rfl)
  rw [lg_entry_eq]
  generalize (lg_sl ([.ref sh, .int o, .double t]) ++ List.replicate (7 - (lg_sl ([.ref sh, .int o, .double t])).length) Slot.unset).toArray = ls at hl ⊢
  have hl : lv_has ls 7 [(0, .ref sh), (1, .int o), (2, .double t)] := hl
  have hn12 := hpc.1
  have d0 := dv_d0
  refine lv_dconst0 hx hb dX2_sumOfLengths_0 ?_
  refine lv_dstore (lv' := [(4, .double FP.dconst0), (0, .ref sh), (1, .int o), (2, .double t)]) hx hb dX2_sumOfLengths_1 hl (by decide) rfl (fun ls hl => ?_)
  refine lv_iconst (v := 0) hx hb dX2_sumOfLengths_3 (by decide) ?_
  refine lv_istore (lv' := [(6, .int 0), (4, .double FP.dconst0), (0, .ref sh), (1, .int o), (2, .double t)]) hx hb dX2_sumOfLengths_4 hl (by decide) rfl (fun ls hl => ?_)
  refine w_loop (σ := Nat) (fun n9 x9 H locs ls => lv_has ls 7 [(6, .int (nI x9)), (4, .double (sumL L D o t x9)), (0, .ref sh), (1, .int o), (2, .double t)] ∧ va_P (dC, dI) vwCl [(sh, .inr (2, [.ref pc])), (pc, .inr (1, [.ref tf, .ref tg, .int (nI n)])), (tf, .inl (cD, 12, .inr (.inr (.inr (.inl L))))), (tg, .inl (cD, 12, .inr (.inr (.inr (.inl D)))))] H ∧ va_S (fun _ => False) s.heap H locs ∧ x9 + n9 = n) (n0 := n) (x0 := 0) ⟨lv_sub hl [0, 1, 2, 3, 4] rfl, hP, hS, (show 0 + n = n from by omega)⟩ ?_
  rintro n9 i9 H locs ls ⟨hl, hP, hS, hi⟩ ih
  have hl : lv_has ls 7 [(6, .int (nI i9)), (4, .double (sumL L D o t i9)), (0, .ref sh), (1, .int o), (2, .double t)] := hl
  have hP : va_P (dC, dI) vwCl [(sh, .inr (2, [.ref pc])), (pc, .inr (1, [.ref tf, .ref tg, .int (nI n)])), (tf, .inl (cD, 12, .inr (.inr (.inr (.inl L))))), (tg, .inl (cD, 12, .inr (.inr (.inr (.inl D)))))] H := hP
  have hi : i9 + n9 = n := hi
  refine lv_iload hx hb dX2_sumOfLengths_6 (lv_at hl 0 rfl) ?_
  refine lv_aload_n hx hb dX2_sumOfLengths_8 rfl (lv_at hl 2 rfl) ?_
  refine va_get (D := (dC, dI)) (ci := 2) (v := .ref pc) (C := RX2) (T := TX2) (N := 1) hx hb hts (by decide +kernel) hown hK hP 0 rfl rfl 0 (by decide) (hts (.fieldLink RX2 14 "SteamBends$Shape" "pieces" "LSteamBends$Pairs;") (by decide +kernel)) (fun _ h9 => h9) rfl dX2_sumOfLengths_9 ?_
  refine va_getN (D := (dC, dI)) (ci := 1) (v := .int (nI n)) (C := RX1) (T := TX1) (N := 3) (host := "SteamBends") hx hb hts (by decide +kernel) hown hK hP 1 rfl rfl 2 (by decide) (va_Nw.use rfl (hN.f 6 rfl)) (fun _ h9 => h9) rfl dX2_sumOfLengths_12 ?_
  refine lv_icmp_ge (tgt := 37) hx hb dX2_sumOfLengths_15 (by decide) (fun c_15 => ?_) (fun c_15 => ?_)
  · have c_15 := (nI_leI (a := n) (b := i9) (by omega) (by omega)).mp c_15
    refine lv_dload hx hb dX2_sumOfLengths_37 (lv_at hl 1 rfl) ?_
    exact W.dret hx hb hr (fun t9s hht hW9 => ⟨⟨sumL L D o t i9, (), rfl, (by rw [show n = i9 by omega]), trivial⟩, hS.F hht⟩) hS.2.2 dX2_sumOfLengths_39
  · have c_15 := mt (nI_leI (a := n) (b := i9) (by omega) (by omega)).mpr c_15
    refine lv_dload hx hb dX2_sumOfLengths_18 (lv_at hl 1 rfl) ?_
    refine lv_aload_n hx hb dX2_sumOfLengths_20 rfl (lv_at hl 2 rfl) ?_
    refine lv_iload hx hb dX2_sumOfLengths_21 (lv_at hl 0 rfl) ?_
    refine lv_iload_n hx hb dX2_sumOfLengths_23 rfl (lv_at hl 3 rfl) ?_
    refine lv_dload_n hx hb dX2_sumOfLengths_24 rfl (lv_at hl 4 rfl) ?_
    have hPc := hP.sub (ws' := [(sh, .inr (2, [.ref pc])), (pc, .inr (1, [.ref tf, .ref tg, .int (nI n)])), (tf, .inl (cD, 12, .inr (.inr (.inr (.inl L))))), (tg, .inl (cD, 12, .inr (.inr (.inr (.inl D)))))]) [0, 1, 2, 3] rfl
    have hKc := hK.sub (tys' := [(cD, .double)]) [0] rfl
    refine va_calld (va_runV (As := [.int (nI i9), .int o, .double t]) (rest := [.double (sumL L D o t i9)]) ⟨hx, hb, hml, hown, hts⟩ (m_X2_lengthOf l dC dI cD sh pc tf tg n L D i9 o t (by omega) (ht.mono (by omega) : dB 1060 _) hpc) (cwV 3 hts gX2_sumOfLengths_X2_lengthOf rfl rfl rfl (by decide +kernel) ⟨(Nat.le_of_ble_eq_true rfl), (Nat.le_of_ble_eq_true rfl)⟩) ⟨PK.blind, va_recv hKc hPc (ci := 2) (q0 := 0) rfl rfl, fun U9 hU9 hW9 => ⟨rfl, PK.at hPc hKc hN hU9 hW9⟩⟩ rfl rfl hl.1 rfl (lv_room (Nat.le_of_ble_eq_true rfl)) dX2_sumOfLengths_25 ⟨(Nat.le_of_ble_eq_true rfl), (Nat.le_of_ble_eq_true rfl)⟩) hS (fun q _ h => h.elim) (fun q h => h.elim) (fun r_78 u9s t9s H1 locs hht hvm9 hw_25_k_77 hB hz1 hk1 hS => ?_)
    have hP := va_still hP hk1
    generalize H1 = H at hP hS ⊢
    subst hw_25_k_77
    have b_79 : dB (1110 + 2 * i9 + 2) (FP.dadd (sumL L D o t i9) (lenOf (L i9) (D i9) o t)) := dB.add (sumL_dB (o := o) hpc ht i9 (by omega)) (lenOf_dB (o := o) (hpc.2 i9 (by omega)).1 (hpc.2 i9 (by omega)).2.1 (fun q => hpc.dL (by omega) q) (ht.mono (by omega) : dB 1060 _)) (M := 1110 + 2 * i9) (by omega) (by omega) (by omega)
    refine lv_dadd hx hb dX2_sumOfLengths_28 (b_79.ok (by omega)) ?_
    refine lv_dstore (lv' := [(4, .double (FP.dadd (sumL L D o t i9) (lenOf (L i9) (D i9) o t))), (6, .int (nI i9)), (0, .ref sh), (1, .int o), (2, .double t)]) hx hb dX2_sumOfLengths_29 hl (by decide) rfl (fun ls hl => ?_)
    refine lv_iinc (v := nI (i9 + 1)) (lv' := [(6, .int (nI (i9 + 1))), (4, .double (FP.dadd (sumL L D o t i9) (lenOf (L i9) (D i9) o t))), (0, .ref sh), (1, .int o), (2, .double t)]) hx hb dX2_sumOfLengths_31 hl (k := 1) rfl (show nI i9 + nI 1 = nI (i9 + 1) from nI_add _ _) (by decide) rfl (fun ls hl => ?_)
    refine lv_goto (tgt := 6) hx hb dX2_sumOfLengths_34 (by decide) ?_
    exact ih (n9 - 1) (by omega) (i9 + 1) _ _ _ ⟨(by
        simp only [sumL]
        exact lv_sub hl [0, 1, 2, 3, 4] rfl), hP, hS, (show (i9 + 1) + (n9 - 1) = n from by omega)⟩
end
section
section
variable {p : Program} {l : Launch} {e : Env} {R : Room} {s : State} {m : MethodId} {args : Array Value} {below : List Frame} {meth : Method} {c : Code} {H : Heap} {locs : List Loc} {cells slots : Nat} {Q : State → Prop}
variable {mc ms : Nat} {free : Addr → Prop} {A0 A1 : Nat → Prop} {H0 : Heap} {a : Array Value} {pc : Nat} {ls : Array Slot} {st0 rest : List Value}
theorem vx_callq {S SX : Type} {post : Option Nat → S → Prop} {px : SX → Prop} {B : S → State → Prop} {BX : String → SX → State → Prop} {AX : Nat → Prop} (hr : vx_Run p l e R s m args below meth c H locs cells slots mc ms (F0 m pc ls st0) rest (va_Qq post B A1 a) (vx_X px BX AX) free) (hS : va_S A0 H0 H locs) (hA : ∀ q, q < H.size → A1 q → A0 q) (hf : ∀ q, free q → A0 q) (hAX : ∀ q, q < H.size → AX q → A0 q)
    (kx : ∀ (E : String) (ce : Cell) (q9 : Addr) (u : SX) (t : State) (H1 : Heap) (locs1 : List Loc), t.heap = H1 → s.vm.Alike t.vm → px u → BX E u t → H.size ≤ H1.size → (∀ q : Nat, q < H.size → ¬ AX q → H1[q]? = H[q]?) → va_S A0 H0 H1 locs1 → H1[q9]? = some ce → ce.vm = .none → s.vm.findClass E = some ce.cls → vx_W p l e R s m args below meth c H1 locs1 (cells + mc) (slots + ms) Q (F0 m pc ls rest) q9)
    (kk : ∀ (r : Option Nat) (u : S) (t : State) (H1 : Heap) (locs1 : List Loc), t.heap = H1 → s.vm.Alike t.vm → post r u → B u t → H.size ≤ H1.size → (∀ q : Nat, q < H.size → ¬ A1 q → H1[q]? = H[q]?) → va_S A0 H0 H1 locs1 → W p l e R s m args below meth c H1 locs1 (cells + mc) (slots + ms) Q (F0 m (pc + 3) ls (va_rf r :: rest))) : W p l e R s m args below meth c H locs cells slots Q (F0 m pc ls st0) := by
  intro T hT X
  rcases hr T hT X with ⟨v, st₀, t, T', L, h0, X', hL, e1, e2, ⟨⟨r, u, hv, hp, hb⟩, hF⟩, st⟩ | ⟨q, st₀, t, T', L, E, ce, h0, X', hL, e1, e2, ⟨u, hp, hb, hF⟩, hce, hcv, hcl, st⟩
  · cases hv
    obtain ⟨k1, k2, k3⟩ := vx_keep h0 e1 hS hA hf hL hF
    obtain ⟨t2, a1, b1⟩ := kk r u t T'.heap (locs ++ L) e1.symm (by rw [← e2]; exact X'.warmed.alike) hp hb k1 k2 k3 T' rfl X'
    exact ⟨t2, st t2 a1, b1⟩
  · obtain ⟨k1, k2, k3⟩ := vx_keep h0 e1 hS hAX hf hL hF
    obtain ⟨t2, a1, b1⟩ := kx E ce q u t T'.heap (locs ++ L) e1.symm (by rw [← e2]; exact X'.warmed.alike) hp hb k1 k2 k3 (by rw [e1]; exact hce) hcv hcl T' rfl X'
    exact ⟨t2, st.trans a1, b1⟩
end

/-- the class's String constants, by their entries -/
def strL : List (Nat × String) := [(51, "thick or radius is not as said"), (68, "the kind has no room for a row more"), (71, "thick is not 0 .. 1000"), (80, "thick lies outside the rows"), (82, "thick or radius is not 0.125 .. 10000"), (89, "bent or kept is not as said"), (94, "the kind has no room for a reading more"), (96, "rounds are not 0 .. 100"), (113, "what is not 0 .. 2"), (116, "wanted is not 0.125 .. 100000"), (127, "length or radius is not as said"), (132, "the shape has no room for a piece more"), (140, "thick is not 0 .. 1000, or too thick for a radius"), (150, "angle, thick, stays or saw is not as said"), (157, "no kerfs were asked for"), (159, "there is no such kerf"), (161, "length is not 0 .. 10000"), (163, "part is not 0 .. 3"), (166, "n or bad is not as said"), (172, "days are not 0 .. 10000"), (176, "there is no such kind")]
/-- what a throw needs of the start: two statics that nobody writes, the texts -/
def XT (A : Nat → Prop) (sa : Nat → Nat) (U : State) : Prop := vx_Zq Bundle.tN "UNASSIGNED_STACK" Bundle.steD A U U.heap ∧ vx_Zq Bundle.tN "SUPPRESSED_SENTINEL" Bundle.listD A U U.heap ∧ ∀ q ∈ strL, vk_R RX3 q.1 q.2 (sa q.1) U
theorem XT.str {A : Nat → Prop} {sa : Nat → Nat} {U : State} (h : XT A sa U) (i : Nat) {k : Nat} {tx : String} (hi : strL[i]? = some (k, tx)) : vk_R RX3 k tx (sa k) U := h.2.2 _ (List.mem_of_getElem? hi)
theorem XT.call {A : Nat → Prop} {sa : Nat → Nat} {U : State} {g : JFrame} {mk : MethodId} {a : Array Value} (h : XT A sa U) : XT A sa (U.calling g mk a) :=
  ⟨vx_Zq.moved (u := U) (U := U.calling g mk a) (Vm.Alike.refl U.vm) h.1, vx_Zq.moved (u := U) (U := U.calling g mk a) (Vm.Alike.refl U.vm) h.2.1, fun q hq => vk_R.same (u := U) (U := U.calling g mk a) rfl (h.2.2 q hq)⟩
theorem XT.at {A : Nat → Prop} {sa : Nat → Nat} {s U : State} {H : Heap} {locs : List Loc} (h : XT A sa s) (hS : va_S A s.heap H locs) (hU : U.heap = H) (hW : s.WarmedH U.vm) : XT (fun _ => False) sa U := by
  subst hU
  exact ⟨((h.1.kept hS.2.1).narrow (fun _ z => z.elim)).moved hW.alike, ((h.2.1.kept hS.2.1).narrow (fun _ z => z.elim)).moved hW.alike, fun q hq => vk_R.warm hW (h.2.2 q hq)⟩
/-- the start of a method that throws -/
def PT (D : va_G) (tys : List (ClassId × FieldType)) (ws : va_W) (sz : Nat) (sa : Nat → Nat) (U : State) : Prop := PW D tys ws sz U ∧ XT (fun _ => False) sa U
theorem PT.blind {args : List Value} {D : va_G} {tys : List (ClassId × FieldType)} {ws : va_W} {sz : Nat} {sa : Nat → Nat} : FrameBlind (va_Pc args (PT D tys ws sz sa)) :=
  fun a U g mk q => ⟨q.1, (PW.blind (args := args) a U g mk ⟨q.1, q.2.1⟩).2, q.2.2.call⟩
theorem PT.at {D : va_G} {tys : List (ClassId × FieldType)} {ws : va_W} {A B : Nat → Prop} {H : Heap} {s U : State} {sa : Nat → Nat} {locs : List Loc} (hP : va_P D vwCl ws H) (hK : va_K D vwCl tys s) (hD : va_D A ws) (hN : NW s) (hX : XT B sa s) (hS : va_S B s.heap H locs) (hU : U.heap = H) (hW : s.WarmedH U.vm) : PT D tys ws H.size sa U := ⟨PW.at hP hK hD hN hU hW, hX.at hS hU hW⟩
theorem thrF {s t : State} {H : Heap} {locs : List Loc} (hS : va_S (fun _ => False) s.heap H locs) (h1 : H.size ≤ t.heap.size) (h2 : ∀ q : Nat, q < H.size → t.heap[q]? = H[q]?) : va_F (fun _ => False) s t :=
  ⟨Nat.le_trans hS.1 h1, fun q h3 h4 => (h2 q (Nat.lt_of_lt_of_le h3 hS.1)).trans (hS.2.1 q h3 h4)⟩
abbrev eIA : String := "java/lang/IllegalArgumentException"
abbrev eIS : String := "java/lang/IllegalStateException"
abbrev eIO : String := "java/lang/IndexOutOfBoundsException"
theorem z_lt {x y : Int32} {a b : Int} (hx : x.toInt = a) (hy : y.toInt = b) : x < y ↔ a < b := by rw [Int32.lt_iff_toInt_lt, hx, hy]
theorem z_le {x y : Int32} {a b : Int} (hx : x.toInt = a) (hy : y.toInt = b) : x ≤ y ↔ a ≤ b := by rw [Int32.le_iff_toInt_le, hx, hy]
theorem z_eq {x y : Int32} {a b : Int} (hx : x.toInt = a) (hy : y.toInt = b) : x = y ↔ a = b := by
  rw [← hx, ← hy]
  exact ⟨fun h => by rw [h], fun h => Int32.toInt.inj h⟩
/-! the calls: 0, or which exception; the answer -/
abbrev kOK (kd : Int32) : Prop := 0 ≤ kd.toInt ∧ kd.toInt < 4
abbrev inR (v a b : UInt64) : Prop := dv a ≤ dv v ∧ dv v ≤ dv b
abbrev c8th : UInt64 := 4593671619917905920
abbrev c1000 : UInt64 := 4652007308841189376
abbrev c10000 : UInt64 := 4666723172467343360
abbrev c100000 : UInt64 := 4681608360884174848
def cTab (kd : Int32) (t r : UInt64) (n : Nat) (T : Nat → UInt64) : Nat := if ¬ (0 ≤ kd.toInt ∧ kd.toInt < 4) then 1 else if ¬ ((dv c8th ≤ dv t ∧ dv t ≤ dv c1000) ∧ (dv c8th ≤ dv r ∧ dv r ≤ dv c10000) ∧ (n = 0 ∨ dv (T (n - 1)) < dv t)) then 2 else if n = 12 then 3 else 0
def cRad (kd : Int32) (t : UInt64) (n : Nat) (T R : Nat → UInt64) : Nat := if ¬ (0 ≤ kd.toInt ∧ kd.toInt < 4) then 1 else if ¬ (dv FP.dconst0 ≤ dv t ∧ dv t ≤ dv c1000) then 2 else if rRad T R t n = none then 3 else 0
def cStr (kd : Int32) (t w : UInt64) : Nat := if ¬ (0 ≤ kd.toInt ∧ kd.toInt < 4) then 1 else if ¬ ((dv c8th ≤ dv t ∧ dv t ≤ dv c10000) ∧ (dv c8th ≤ dv w ∧ dv w ≤ dv c10000)) then 2 else 0
def cRd (kd : Int32) (b k : UInt64) (n : Nat) : Nat := if ¬ (0 ≤ kd.toInt ∧ kd.toInt < 4) then 1 else if ¬ ((dv c8th ≤ dv b ∧ dv b ≤ dv c10000) ∧ (dv b ≤ dv k ∧ dv k ≤ dv c100000)) then 2 else if n = 20 then 3 else 0
def cFit (kd rs : Int32) : Nat := if ¬ (0 ≤ kd.toInt ∧ kd.toInt < 4) then 1 else if ¬ (0 ≤ rs.toInt ∧ rs.toInt ≤ 100) then 2 else 0
def cBack (kd what : Int32) : Nat := if ¬ (0 ≤ kd.toInt ∧ kd.toInt < 4) then 1 else if ¬ (0 ≤ what.toInt ∧ what.toInt ≤ 2) then 1 else 0
def vBack (what : Int32) (sp st : UInt64) (B K : Nat → UInt64) (n : Nat) : UInt64 := if what.toInt = 0 then sp else if what.toInt = 1 then st else rsd B K sp n
def cFrm (kd : Int32) (w : UInt64) : Nat := if ¬ (0 ≤ kd.toInt ∧ kd.toInt < 4) then 1 else if ¬ (dv c8th ≤ dv w ∧ dv w ≤ dv c100000) then 2 else 0
def cMin (t : UInt64) : Nat := if ¬ (dv FP.dconst0 ≤ dv t ∧ dv t ≤ dv c1000) then 1 else 0
def vMin (t : UInt64) : UInt64 := if dv 4632233691727265792 < dv t then FP.dadd (FP.dmul t 4612811918334230528) 4626322717216342016 else FP.dmul t 4612811918334230528
def cPc (len d : UInt64) (n : Nat) : Nat := if ¬ ((dv FP.dconst0 ≤ dv len ∧ dv len ≤ dv c10000) ∧ (dv d = dv FP.dconst0 ∨ (dv FP.dconst1 ≤ dv d ∧ dv d ≤ dv c10000))) then 1 else if n = 12 then 2 else 0
def cLen (t : UInt64) (D : Nat → UInt64) (n : Nat) : Nat := if ¬ ((dv FP.dconst0 ≤ dv t ∧ dv t ≤ dv c1000) ∧ bends D t n = true) then 1 else 0
def kfR (a t s w : UInt64) : Prop := (dv FP.dconst1 ≤ dv a ∧ dv a ≤ dv 4645040803167600640) ∧ (dv FP.dconst1 ≤ dv t ∧ dv t ≤ dv c1000) ∧ (dv c8th ≤ dv s ∧ dv s ≤ dv t) ∧ ¬ dv s = dv t ∧ (dv c8th ≤ dv w ∧ dv w ≤ dv 4636737291354636288)
def kfC (t s w : UInt64) : UInt64 := FP.dmul (FP.ddiv w (FP.dsub t s)) 4633260481411531256
def cKa (kc : Nat) (k : Int32) (len : UInt64) : Nat := if kc = 0 then 1 else if ¬ (0 ≤ k.toInt ∧ k.toInt < kc) then 2 else if ¬ (dv FP.dconst0 ≤ dv len ∧ dv len ≤ dv c10000) then 3 else 0
def vKa (kc : Nat) (k : Int32) (len : UInt64) : UInt64 := FP.ddiv (FP.dmul len (FP.i2d (2 * k + 1))) (FP.i2d (nI (2 * kc)))
def cRe (kc : Nat) : Nat := if kc = 0 then 1 else 0
def cBr (n bad part : Int32) : Nat := if ¬ (0 ≤ part.toInt ∧ part.toInt ≤ 3) then 1 else if ¬ ((1 ≤ n.toInt ∧ n.toInt ≤ 1000000) ∧ (0 ≤ bad.toInt ∧ bad.toInt ≤ n.toInt)) then 2 else 0
def vBr (n b : Nat) (part : Int32) : Int64 := (nI ((if part.toInt = 0 ∨ part.toInt = 2 then (if part.toInt < 2 then b else b + 1) else n + 1) / Nat.gcd (n + 1) (if part.toInt < 2 then b else b + 1))).toInt64
def cRx (kd days : Int32) : Nat := if ¬ (0 ≤ kd.toInt ∧ kd.toInt < 4) then 1 else if ¬ (0 ≤ days.toInt ∧ days.toInt ≤ 10000) then 2 else 0
def vRx (sp : UInt64) (days : Int32) : UInt64 := FP.dadd FP.dconst1 (FP.dmul sp (FP.dsub FP.dconst1 (FP.ddiv FP.dconst1 (FP.dadd FP.dconst1 (FP.ddiv (FP.i2d days) 4620693217682128896)))))
end
